/-! ===== THE WORDS behind each field and each call ===== -/
theorem rf_0_0 {c : Nat × Nat} {k : Nat} (h : kt k = 0) : rfs c k 0 = k + 1 := by unfold rfs; rw [h]; rfl
theorem rf_0_1 {c : Nat × Nat} {k : Nat} (h : kt k = 0) : rfs c k 1 = k + 7 := by unfold rfs; rw [h]; rfl
theorem rf_1_0 {c : Nat × Nat} {k : Nat} (h : kt k = 1) : rfs c k 0 = k + 1 := by unfold rfs; rw [h]; rfl
theorem rf_1_1 {c : Nat × Nat} {k : Nat} (h : kt k = 1) : rfs c k 1 = k + 7 := by unfold rfs; rw [h]; rfl
theorem rf_1_2 {c : Nat × Nat} {k : Nat} (h : kt k = 1) : rfs c k 2 = k + 15 := by unfold rfs; rw [h]; rfl
theorem rf_2_0 {c : Nat × Nat} {k : Nat} (h : kt k = 2) : rfs c k 0 = k + 1 := by unfold rfs; rw [h]; rfl
theorem rf_4_0 {c : Nat × Nat} {k : Nat} (h : kt k = 4) : rfs c k 0 = k + 1 := by unfold rfs; rw [h]; rfl
theorem rf_4_1 {c : Nat × Nat} {k : Nat} (h : kt k = 4) : rfs c k 1 = k + 8 := by unfold rfs; rw [h]; rfl
theorem rf_6_0 {c : Nat × Nat} {k : Nat} (h : kt k = 6) : rfs c k 0 = k + 1 := by unfold rfs; rw [h]; rfl
theorem rf_7_0 {c : Nat × Nat} {k : Nat} (h : kt k = 7) : rfs c k 0 = 1 := by unfold rfs; rw [h]; rfl
theorem rf_7_1 {c : Nat × Nat} {k : Nat} (h : kt k = 7) : rfs c k 1 = 3 := by unfold rfs; rw [h]; rfl
theorem rf_7_2 {c : Nat × Nat} {k : Nat} (h : kt k = 7) : rfs c k 2 = 4 := by unfold rfs; rw [h]; rfl
theorem rf_7_3 {c : Nat × Nat} {k : Nat} (h : kt k = 7) : rfs c k 3 = 13 := by unfold rfs; rw [h]; rfl
theorem rf_7_4 {c : Nat × Nat} {k : Nat} (h : kt k = 7) : rfs c k 4 = 22 := by unfold rfs; rw [h]; rfl
theorem rf_7_5 {c : Nat × Nat} {k : Nat} (h : kt k = 7) : rfs c k 5 = 31 := by unfold rfs; rw [h]; rfl
theorem rf_7_6 {c : Nat × Nat} {k : Nat} (h : kt k = 7) : rfs c k 6 = 33 := by unfold rfs; rw [h]; rfl
theorem rf_7_7 {c : Nat × Nat} {k : Nat} (h : kt k = 7) : rfs c k 7 = c.1 := by unfold rfs; rw [h]; rfl
theorem rf_7_8 {c : Nat × Nat} {k : Nat} (h : kt k = 7) : rfs c k 8 = c.2 := by unfold rfs; rw [h]; rfl
theorem rf_8_3 {c : Nat × Nat} {k : Nat} (h : kt k = 8) : rfs c k 3 = 66 := by unfold rfs; rw [h]; rfl
theorem rf_8_4 {c : Nat × Nat} {k : Nat} (h : kt k = 8) : rfs c k 4 = 67 := by unfold rfs; rw [h]; rfl
theorem rf_8_6 {c : Nat × Nat} {k : Nat} (h : kt k = 8) : rfs c k 6 = 68 := by unfold rfs; rw [h]; rfl
theorem rf_8_7 {c : Nat × Nat} {k : Nat} (h : kt k = 8) : rfs c k 7 = 69 := by unfold rfs; rw [h]; rfl
theorem rf_8_8 {c : Nat × Nat} {k : Nat} (h : kt k = 8) : rfs c k 8 = 70 := by unfold rfs; rw [h]; rfl
theorem rf_8_9 {c : Nat × Nat} {k : Nat} (h : kt k = 8) : rfs c k 9 = 71 := by unfold rfs; rw [h]; rfl
theorem rf_8_10 {c : Nat × Nat} {k : Nat} (h : kt k = 8) : rfs c k 10 = 72 := by unfold rfs; rw [h]; rfl
theorem rf_8_14 {c : Nat × Nat} {k : Nat} (h : kt k = 8) : rfs c k 14 = 73 := by unfold rfs; rw [h]; rfl
theorem rf_8_17 {c : Nat × Nat} {k : Nat} (h : kt k = 8) : rfs c k 17 = 74 := by unfold rfs; rw [h]; rfl
theorem rf_8_19 {c : Nat × Nat} {k : Nat} (h : kt k = 8) : rfs c k 19 = 75 := by unfold rfs; rw [h]; rfl
theorem rf_8_24 {c : Nat × Nat} {k : Nat} (h : kt k = 8) : rfs c k 24 = 76 := by unfold rfs; rw [h]; rfl
theorem rf_8_25 {c : Nat × Nat} {k : Nat} (h : kt k = 8) : rfs c k 25 = 77 := by unfold rfs; rw [h]; rfl
theorem rf_8_26 {c : Nat × Nat} {k : Nat} (h : kt k = 8) : rfs c k 26 = 78 := by unfold rfs; rw [h]; rfl
theorem rf_8_27 {c : Nat × Nat} {k : Nat} (h : kt k = 8) : rfs c k 27 = 79 := by unfold rfs; rw [h]; rfl
theorem rf_8_28 {c : Nat × Nat} {k : Nat} (h : kt k = 8) : rfs c k 28 = 80 := by unfold rfs; rw [h]; rfl
theorem rf_8_29 {c : Nat × Nat} {k : Nat} (h : kt k = 8) : rfs c k 29 = 81 := by unfold rfs; rw [h]; rfl
theorem rf_8_31 {c : Nat × Nat} {k : Nat} (h : kt k = 8) : rfs c k 31 = 82 := by unfold rfs; rw [h]; rfl
theorem rf_8_32 {c : Nat × Nat} {k : Nat} (h : kt k = 8) : rfs c k 32 = 83 := by unfold rfs; rw [h]; rfl
theorem rf_8_39 {c : Nat × Nat} {k : Nat} (h : kt k = 8) : rfs c k 39 = 84 := by unfold rfs; rw [h]; rfl
theorem rf_8_40 {c : Nat × Nat} {k : Nat} (h : kt k = 8) : rfs c k 40 = 85 := by unfold rfs; rw [h]; rfl
theorem rf_8_41 {c : Nat × Nat} {k : Nat} (h : kt k = 8) : rfs c k 41 = 86 := by unfold rfs; rw [h]; rfl
theorem rf_8_42 {c : Nat × Nat} {k : Nat} (h : kt k = 8) : rfs c k 42 = 87 := by unfold rfs; rw [h]; rfl
set_option maxRecDepth 100000 in
theorem fl_X7_12 : FLp RX7 12 7 0 := ⟨by decide, by decide, Or.inl (List.mem_of_getElem? (i := 16) rfl)⟩
set_option maxRecDepth 100000 in
theorem fl_X7_19 : FLp RX7 19 7 1 := ⟨by decide, by decide, Or.inl (List.mem_of_getElem? (i := 20) rfl)⟩
set_option maxRecDepth 100000 in
theorem fl_X7_26 : FLp RX7 26 7 2 := ⟨by decide, by decide, Or.inl (List.mem_of_getElem? (i := 24) rfl)⟩
set_option maxRecDepth 100000 in
theorem fl_X7_30 : FLp RX7 30 7 3 := ⟨by decide, by decide, Or.inl (List.mem_of_getElem? (i := 25) rfl)⟩
set_option maxRecDepth 100000 in
theorem fl_X7_33 : FLp RX7 33 7 4 := ⟨by decide, by decide, Or.inl (List.mem_of_getElem? (i := 26) rfl)⟩
set_option maxRecDepth 100000 in
theorem fl_X7_39 : FLp RX7 39 7 5 := ⟨by decide, by decide, Or.inl (List.mem_of_getElem? (i := 30) rfl)⟩
set_option maxRecDepth 100000 in
theorem fl_X7_46 : FLp RX7 46 7 6 := ⟨by decide, by decide, Or.inl (List.mem_of_getElem? (i := 34) rfl)⟩
set_option maxRecDepth 100000 in
theorem fl_X7_53 : FLp RX7 53 7 7 := ⟨by decide, by decide, Or.inl (List.mem_of_getElem? (i := 38) rfl)⟩
set_option maxRecDepth 100000 in
theorem fl_X7_57 : FLp RX7 57 7 8 := ⟨by decide, by decide, Or.inl (List.mem_of_getElem? (i := 39) rfl)⟩
set_option maxRecDepth 100000 in
theorem fl_X7_72 : FLp RX7 72 2 1 := ⟨by decide, by decide, Or.inr (List.mem_of_getElem? (i := 3) rfl)⟩
set_option maxRecDepth 100000 in
theorem fl_X7_80 : FLp RX7 80 7 9 := ⟨by decide, by decide, Or.inl (List.mem_of_getElem? (i := 219) rfl)⟩
set_option maxRecDepth 100000 in
theorem fl_X7_89 : FLp RX7 89 7 10 := ⟨by decide, by decide, Or.inl (List.mem_of_getElem? (i := 220) rfl)⟩
set_option maxRecDepth 100000 in
theorem fl_X7_106 : FLp RX7 106 0 0 := ⟨by decide, by decide, Or.inr (List.mem_of_getElem? (i := 20) rfl)⟩
set_option maxRecDepth 100000 in
theorem fl_X7_113 : FLp RX7 113 0 1 := ⟨by decide, by decide, Or.inr (List.mem_of_getElem? (i := 24) rfl)⟩
set_option maxRecDepth 100000 in
theorem fl_X7_129 : FLp RX7 129 4 0 := ⟨by decide, by decide, Or.inr (List.mem_of_getElem? (i := 11) rfl)⟩
set_option maxRecDepth 100000 in
theorem fl_X7_142 : FLp RX7 142 5 1 := ⟨by decide, by decide, Or.inr (List.mem_of_getElem? (i := 7) rfl)⟩
set_option maxRecDepth 100000 in
theorem fl_X7_161 : FLp RX7 161 4 3 := ⟨by decide, by decide, Or.inr (List.mem_of_getElem? (i := 14) rfl)⟩
set_option maxRecDepth 100000 in
theorem fl_X7_171 : FLp RX7 171 5 0 := ⟨by decide, by decide, Or.inr (List.mem_of_getElem? (i := 5) rfl)⟩
set_option maxRecDepth 100000 in
theorem fl_X7_203 : FLp RX7 203 4 1 := ⟨by decide, by decide, Or.inr (List.mem_of_getElem? (i := 12) rfl)⟩
set_option maxRecDepth 100000 in
theorem fl_X7_206 : FLp RX7 206 6 3 := ⟨by decide, by decide, Or.inr (List.mem_of_getElem? (i := 18) rfl)⟩
set_option maxRecDepth 100000 in
theorem fl_X7_212 : FLp RX7 212 6 1 := ⟨by decide, by decide, Or.inr (List.mem_of_getElem? (i := 17) rfl)⟩
set_option maxRecDepth 100000 in
theorem fl_X7_236 : FLp RX7 236 4 2 := ⟨by decide, by decide, Or.inr (List.mem_of_getElem? (i := 13) rfl)⟩
set_option maxRecDepth 100000 in
theorem fl_X7_239 : FLp RX7 239 4 4 := ⟨by decide, by decide, Or.inr (List.mem_of_getElem? (i := 15) rfl)⟩
set_option maxRecDepth 100000 in
theorem fl_X7_240 : FLp RX7 240 4 5 := ⟨by decide, by decide, Or.inr (List.mem_of_getElem? (i := 16) rfl)⟩
set_option maxRecDepth 100000 in
theorem fl_X7_266 : FLp RX7 266 2 0 := ⟨by decide, by decide, Or.inr (List.mem_of_getElem? (i := 1) rfl)⟩
set_option maxRecDepth 100000 in
theorem fl_X0_11 : FLp RX0 11 0 0 := ⟨by decide, by decide, Or.inl (List.mem_of_getElem? (i := 87) rfl)⟩
set_option maxRecDepth 100000 in
theorem fl_X0_16 : FLp RX0 16 0 1 := ⟨by decide, by decide, Or.inl (List.mem_of_getElem? (i := 88) rfl)⟩
set_option maxRecDepth 100000 in
theorem fl_X1_11 : FLp RX1 11 1 0 := ⟨by decide, by decide, Or.inl (List.mem_of_getElem? (i := 80) rfl)⟩
set_option maxRecDepth 100000 in
theorem fl_X1_16 : FLp RX1 16 1 1 := ⟨by decide, by decide, Or.inl (List.mem_of_getElem? (i := 81) rfl)⟩
set_option maxRecDepth 100000 in
theorem fl_X1_19 : FLp RX1 19 1 2 := ⟨by decide, by decide, Or.inl (List.mem_of_getElem? (i := 82) rfl)⟩
set_option maxRecDepth 100000 in
theorem fl_X1_23 : FLp RX1 23 1 3 := ⟨by decide, by decide, Or.inl (List.mem_of_getElem? (i := 457) rfl)⟩
set_option maxRecDepth 100000 in
theorem fl_X1_33 : FLp RX1 33 0 0 := ⟨by decide, by decide, Or.inr (List.mem_of_getElem? (i := 19) rfl)⟩
set_option maxRecDepth 100000 in
theorem fl_X2_9 : FLp RX2 9 2 0 := ⟨by decide, by decide, Or.inl (List.mem_of_getElem? (i := 44) rfl)⟩
set_option maxRecDepth 100000 in
theorem fl_X2_19 : FLp RX2 19 2 1 := ⟨by decide, by decide, Or.inl (List.mem_of_getElem? (i := 131) rfl)⟩
set_option maxRecDepth 100000 in
theorem fl_X3_16 : FLp RX3 16 3 0 := ⟨by decide, by decide, Or.inl (List.mem_of_getElem? (i := 162) rfl)⟩
set_option maxRecDepth 100000 in
theorem fl_X3_20 : FLp RX3 20 3 1 := ⟨by decide, by decide, Or.inl (List.mem_of_getElem? (i := 163) rfl)⟩
set_option maxRecDepth 100000 in
theorem fl_X3_23 : FLp RX3 23 2 1 := ⟨by decide, by decide, Or.inr (List.mem_of_getElem? (i := 2) rfl)⟩
set_option maxRecDepth 100000 in
theorem fl_X3_28 : FLp RX3 28 2 0 := ⟨by decide, by decide, Or.inr (List.mem_of_getElem? (i := 0) rfl)⟩
set_option maxRecDepth 100000 in
theorem fl_X3_54 : FLp RX3 54 0 1 := ⟨by decide, by decide, Or.inr (List.mem_of_getElem? (i := 23) rfl)⟩
set_option maxRecDepth 100000 in
theorem fl_X3_60 : FLp RX3 60 0 0 := ⟨by decide, by decide, Or.inr (List.mem_of_getElem? (i := 21) rfl)⟩
set_option maxRecDepth 100000 in
theorem fl_X4_11 : FLp RX4 11 4 0 := ⟨by decide, by decide, Or.inl (List.mem_of_getElem? (i := 52) rfl)⟩
set_option maxRecDepth 100000 in
theorem fl_X4_17 : FLp RX4 17 4 1 := ⟨by decide, by decide, Or.inl (List.mem_of_getElem? (i := 53) rfl)⟩
set_option maxRecDepth 100000 in
theorem fl_X4_31 : FLp RX4 31 4 2 := ⟨by decide, by decide, Or.inl (List.mem_of_getElem? (i := 64) rfl)⟩
set_option maxRecDepth 100000 in
theorem fl_X4_35 : FLp RX4 35 4 3 := ⟨by decide, by decide, Or.inl (List.mem_of_getElem? (i := 65) rfl)⟩
set_option maxRecDepth 100000 in
theorem fl_X4_38 : FLp RX4 38 4 4 := ⟨by decide, by decide, Or.inl (List.mem_of_getElem? (i := 66) rfl)⟩
set_option maxRecDepth 100000 in
theorem fl_X4_41 : FLp RX4 41 4 5 := ⟨by decide, by decide, Or.inl (List.mem_of_getElem? (i := 67) rfl)⟩
set_option maxRecDepth 100000 in
theorem fl_X4_64 : FLp RX4 64 5 1 := ⟨by decide, by decide, Or.inr (List.mem_of_getElem? (i := 6) rfl)⟩
set_option maxRecDepth 100000 in
theorem fl_X4_67 : FLp RX4 67 5 2 := ⟨by decide, by decide, Or.inr (List.mem_of_getElem? (i := 8) rfl)⟩
set_option maxRecDepth 100000 in
theorem fl_X4_84 : FLp RX4 84 5 0 := ⟨by decide, by decide, Or.inr (List.mem_of_getElem? (i := 4) rfl)⟩
set_option maxRecDepth 100000 in
theorem fl_X4_97 : FLp RX4 97 5 3 := ⟨by decide, by decide, Or.inr (List.mem_of_getElem? (i := 9) rfl)⟩
set_option maxRecDepth 100000 in
theorem fl_X4_100 : FLp RX4 100 5 4 := ⟨by decide, by decide, Or.inr (List.mem_of_getElem? (i := 10) rfl)⟩
set_option maxRecDepth 100000 in
theorem fl_X4_121 : FLp RX4 121 0 0 := ⟨by decide, by decide, Or.inr (List.mem_of_getElem? (i := 22) rfl)⟩
set_option maxRecDepth 100000 in
theorem fl_X5_9 : FLp RX5 9 5 2 := ⟨by decide, by decide, Or.inl (List.mem_of_getElem? (i := 59) rfl)⟩
set_option maxRecDepth 100000 in
theorem fl_X5_15 : FLp RX5 15 5 0 := ⟨by decide, by decide, Or.inl (List.mem_of_getElem? (i := 288) rfl)⟩
set_option maxRecDepth 100000 in
theorem fl_X5_18 : FLp RX5 18 5 1 := ⟨by decide, by decide, Or.inl (List.mem_of_getElem? (i := 289) rfl)⟩
set_option maxRecDepth 100000 in
theorem fl_X5_21 : FLp RX5 21 5 3 := ⟨by decide, by decide, Or.inl (List.mem_of_getElem? (i := 290) rfl)⟩
set_option maxRecDepth 100000 in
theorem fl_X5_24 : FLp RX5 24 5 4 := ⟨by decide, by decide, Or.inl (List.mem_of_getElem? (i := 291) rfl)⟩
set_option maxRecDepth 100000 in
theorem fl_X6_9 : FLp RX6 9 6 0 := ⟨by decide, by decide, Or.inl (List.mem_of_getElem? (i := 75) rfl)⟩
set_option maxRecDepth 100000 in
theorem fl_X6_15 : FLp RX6 15 6 1 := ⟨by decide, by decide, Or.inl (List.mem_of_getElem? (i := 227) rfl)⟩
set_option maxRecDepth 100000 in
theorem fl_X6_19 : FLp RX6 19 6 2 := ⟨by decide, by decide, Or.inl (List.mem_of_getElem? (i := 610) rfl)⟩
set_option maxRecDepth 100000 in
theorem fl_X6_23 : FLp RX6 23 6 3 := ⟨by decide, by decide, Or.inl (List.mem_of_getElem? (i := 228) rfl)⟩
set_option maxRecDepth 100000 in
theorem fl_X8_7 : FLp RX8 7 8 3 := ⟨by decide, by decide, Or.inl (List.mem_of_getElem? (i := 98) rfl)⟩
set_option maxRecDepth 100000 in
theorem fl_X8_13 : FLp RX8 13 8 4 := ⟨by decide, by decide, Or.inl (List.mem_of_getElem? (i := 99) rfl)⟩
set_option maxRecDepth 100000 in
theorem fl_X8_16 : FLp RX8 16 8 6 := ⟨by decide, by decide, Or.inl (List.mem_of_getElem? (i := 100) rfl)⟩
set_option maxRecDepth 100000 in
theorem fl_X8_19 : FLp RX8 19 8 7 := ⟨by decide, by decide, Or.inl (List.mem_of_getElem? (i := 101) rfl)⟩
set_option maxRecDepth 100000 in
theorem fl_X8_22 : FLp RX8 22 8 8 := ⟨by decide, by decide, Or.inl (List.mem_of_getElem? (i := 102) rfl)⟩
set_option maxRecDepth 100000 in
theorem fl_X8_25 : FLp RX8 25 8 9 := ⟨by decide, by decide, Or.inl (List.mem_of_getElem? (i := 103) rfl)⟩
set_option maxRecDepth 100000 in
theorem fl_X8_28 : FLp RX8 28 8 10 := ⟨by decide, by decide, Or.inl (List.mem_of_getElem? (i := 104) rfl)⟩
set_option maxRecDepth 100000 in
theorem fl_X8_31 : FLp RX8 31 8 14 := ⟨by decide, by decide, Or.inl (List.mem_of_getElem? (i := 105) rfl)⟩
set_option maxRecDepth 100000 in
theorem fl_X8_34 : FLp RX8 34 8 15 := ⟨by decide, by decide, Or.inl (List.mem_of_getElem? (i := 106) rfl)⟩
set_option maxRecDepth 100000 in
theorem fl_X8_38 : FLp RX8 38 8 17 := ⟨by decide, by decide, Or.inl (List.mem_of_getElem? (i := 107) rfl)⟩
set_option maxRecDepth 100000 in
theorem fl_X8_41 : FLp RX8 41 8 19 := ⟨by decide, by decide, Or.inl (List.mem_of_getElem? (i := 109) rfl)⟩
set_option maxRecDepth 100000 in
theorem fl_X8_45 : FLp RX8 45 8 24 := ⟨by decide, by decide, Or.inl (List.mem_of_getElem? (i := 110) rfl)⟩
set_option maxRecDepth 100000 in
theorem fl_X8_48 : FLp RX8 48 8 25 := ⟨by decide, by decide, Or.inl (List.mem_of_getElem? (i := 111) rfl)⟩
set_option maxRecDepth 100000 in
theorem fl_X8_51 : FLp RX8 51 8 26 := ⟨by decide, by decide, Or.inl (List.mem_of_getElem? (i := 113) rfl)⟩
set_option maxRecDepth 100000 in
theorem fl_X8_55 : FLp RX8 55 8 27 := ⟨by decide, by decide, Or.inl (List.mem_of_getElem? (i := 115) rfl)⟩
set_option maxRecDepth 100000 in
theorem fl_X8_59 : FLp RX8 59 8 28 := ⟨by decide, by decide, Or.inl (List.mem_of_getElem? (i := 116) rfl)⟩
set_option maxRecDepth 100000 in
theorem fl_X8_62 : FLp RX8 62 8 29 := ⟨by decide, by decide, Or.inl (List.mem_of_getElem? (i := 117) rfl)⟩
set_option maxRecDepth 100000 in
theorem fl_X8_65 : FLp RX8 65 8 31 := ⟨by decide, by decide, Or.inl (List.mem_of_getElem? (i := 118) rfl)⟩
set_option maxRecDepth 100000 in
theorem fl_X8_68 : FLp RX8 68 8 32 := ⟨by decide, by decide, Or.inl (List.mem_of_getElem? (i := 119) rfl)⟩
set_option maxRecDepth 100000 in
theorem fl_X8_71 : FLp RX8 71 8 39 := ⟨by decide, by decide, Or.inl (List.mem_of_getElem? (i := 120) rfl)⟩
set_option maxRecDepth 100000 in
theorem fl_X8_74 : FLp RX8 74 8 40 := ⟨by decide, by decide, Or.inl (List.mem_of_getElem? (i := 121) rfl)⟩
set_option maxRecDepth 100000 in
theorem fl_X8_77 : FLp RX8 77 8 41 := ⟨by decide, by decide, Or.inl (List.mem_of_getElem? (i := 122) rfl)⟩
set_option maxRecDepth 100000 in
theorem fl_X8_80 : FLp RX8 80 8 42 := ⟨by decide, by decide, Or.inl (List.mem_of_getElem? (i := 123) rfl)⟩
set_option maxRecDepth 100000 in
theorem fl_X8_85 : FLp RX8 85 8 18 := ⟨by decide, by decide, Or.inl (List.mem_of_getElem? (i := 143) rfl)⟩
set_option maxRecDepth 100000 in
theorem fl_X8_92 : FLp RX8 92 8 22 := ⟨by decide, by decide, Or.inl (List.mem_of_getElem? (i := 197) rfl)⟩
set_option maxRecDepth 100000 in
theorem fl_X8_95 : FLp RX8 95 8 23 := ⟨by decide, by decide, Or.inl (List.mem_of_getElem? (i := 198) rfl)⟩
set_option maxRecDepth 100000 in
theorem fl_X8_110 : FLp RX8 110 8 20 := ⟨by decide, by decide, Or.inl (List.mem_of_getElem? (i := 192) rfl)⟩
set_option maxRecDepth 100000 in
theorem fl_X8_113 : FLp RX8 113 8 21 := ⟨by decide, by decide, Or.inl (List.mem_of_getElem? (i := 199) rfl)⟩
set_option maxRecDepth 100000 in
theorem fl_X8_120 : FLp RX8 120 8 2 := ⟨by decide, by decide, Or.inl (List.mem_of_getElem? (i := 236) rfl)⟩
set_option maxRecDepth 100000 in
theorem fl_X8_123 : FLp RX8 123 8 0 := ⟨by decide, by decide, Or.inl (List.mem_of_getElem? (i := 237) rfl)⟩
set_option maxRecDepth 100000 in
theorem fl_X8_126 : FLp RX8 126 8 1 := ⟨by decide, by decide, Or.inl (List.mem_of_getElem? (i := 238) rfl)⟩
set_option maxRecDepth 100000 in
theorem fl_X8_129 : FLp RX8 129 8 5 := ⟨by decide, by decide, Or.inl (List.mem_of_getElem? (i := 239) rfl)⟩
set_option maxRecDepth 100000 in
theorem fl_X8_132 : FLp RX8 132 8 11 := ⟨by decide, by decide, Or.inl (List.mem_of_getElem? (i := 240) rfl)⟩
set_option maxRecDepth 100000 in
theorem fl_X8_135 : FLp RX8 135 8 12 := ⟨by decide, by decide, Or.inl (List.mem_of_getElem? (i := 241) rfl)⟩
set_option maxRecDepth 100000 in
theorem fl_X8_138 : FLp RX8 138 8 13 := ⟨by decide, by decide, Or.inl (List.mem_of_getElem? (i := 242) rfl)⟩
set_option maxRecDepth 100000 in
theorem fl_X8_141 : FLp RX8 141 8 16 := ⟨by decide, by decide, Or.inl (List.mem_of_getElem? (i := 243) rfl)⟩
set_option maxRecDepth 100000 in
theorem fl_X8_251 : FLp RX8 251 8 30 := ⟨by decide, by decide, Or.inl (List.mem_of_getElem? (i := 707) rfl)⟩
set_option maxRecDepth 100000 in
theorem fl_X8_273 : FLp RX8 273 8 33 := ⟨by decide, by decide, Or.inl (List.mem_of_getElem? (i := 732) rfl)⟩
set_option maxRecDepth 100000 in
theorem fl_X8_276 : FLp RX8 276 8 34 := ⟨by decide, by decide, Or.inl (List.mem_of_getElem? (i := 733) rfl)⟩
set_option maxRecDepth 100000 in
theorem fl_X8_279 : FLp RX8 279 8 35 := ⟨by decide, by decide, Or.inl (List.mem_of_getElem? (i := 734) rfl)⟩
set_option maxRecDepth 100000 in
theorem fl_X8_282 : FLp RX8 282 8 36 := ⟨by decide, by decide, Or.inl (List.mem_of_getElem? (i := 735) rfl)⟩
set_option maxRecDepth 100000 in
theorem fl_X8_285 : FLp RX8 285 8 37 := ⟨by decide, by decide, Or.inl (List.mem_of_getElem? (i := 736) rfl)⟩
set_option maxRecDepth 100000 in
theorem fl_X8_288 : FLp RX8 288 8 38 := ⟨by decide, by decide, Or.inl (List.mem_of_getElem? (i := 737) rfl)⟩
set_option maxRecDepth 100000 in
theorem fl_X8_296 : FLp RX8 296 8 43 := ⟨by decide, by decide, Or.inl (List.mem_of_getElem? (i := 786) rfl)⟩
set_option maxRecDepth 100000 in
theorem ml_X7_60 : MLv RX7 60 yX2_add cX2_add 5 (some .int) 1 := ⟨⟨Or.inr (List.mem_of_getElem? (i := 33) rfl), (List.mem_of_getElem? (i := 15) rfl), (List.mem_of_getElem? (i := 130) rfl), by decide, by decide +kernel, by decide⟩, (List.mem_of_getElem? (i := 128) rfl), (List.mem_of_getElem? (i := 129) rfl)⟩
set_option maxRecDepth 100000 in
theorem ml_X7_64 : MLv RX7 64 yX2_empty cX2_empty 2 (some .int) 0 := ⟨⟨Or.inr (List.mem_of_getElem? (i := 34) rfl), (List.mem_of_getElem? (i := 15) rfl), (List.mem_of_getElem? (i := 150) rfl), by decide, by decide +kernel, by decide⟩, (List.mem_of_getElem? (i := 148) rfl), (List.mem_of_getElem? (i := 149) rfl)⟩
set_option maxRecDepth 100000 in
theorem ml_X7_68 : MLv RX7 68 yX3_read cX3_read 4 (some .int) 2 := ⟨⟨Or.inr (List.mem_of_getElem? (i := 35) rfl), (List.mem_of_getElem? (i := 19) rfl), (List.mem_of_getElem? (i := 161) rfl), by decide, by decide +kernel, by decide⟩, (List.mem_of_getElem? (i := 159) rfl), (List.mem_of_getElem? (i := 160) rfl)⟩
set_option maxRecDepth 100000 in
theorem ml_X7_76 : MLv RX7 76 yX3_atEnd cX3_atEnd 1 (some .boolean) 0 := ⟨⟨Or.inr (List.mem_of_getElem? (i := 39) rfl), (List.mem_of_getElem? (i := 19) rfl), (List.mem_of_getElem? (i := 223) rfl), by decide, by decide +kernel, by decide⟩, (List.mem_of_getElem? (i := 221) rfl), (List.mem_of_getElem? (i := 222) rfl)⟩
set_option maxRecDepth 100000 in
theorem ml_X7_83 : MLv RX7 83 yX4_clear cX4_clear 1 none 0 := ⟨⟨Or.inr (List.mem_of_getElem? (i := 40) rfl), (List.mem_of_getElem? (i := 23) rfl), (List.mem_of_getElem? (i := 63) rfl), by decide, by decide +kernel, by decide⟩, (List.mem_of_getElem? (i := 61) rfl), (List.mem_of_getElem? (i := 62) rfl)⟩
set_option maxRecDepth 100000 in
theorem ml_X7_86 : MLv RX7 86 yX6_end cX6_end 1 none 0 := ⟨⟨Or.inr (List.mem_of_getElem? (i := 41) rfl), (List.mem_of_getElem? (i := 29) rfl), (List.mem_of_getElem? (i := 226) rfl), by decide, by decide +kernel, by decide⟩, (List.mem_of_getElem? (i := 224) rfl), (List.mem_of_getElem? (i := 225) rfl)⟩
set_option maxRecDepth 100000 in
theorem ml_X7_93 : MLv RX7 93 yX0_nameCount cX0_nameCount 3 (some .int) 0 := ⟨⟨Or.inr (List.mem_of_getElem? (i := 42) rfl), (List.mem_of_getElem? (i := 37) rfl), (List.mem_of_getElem? (i := 231) rfl), by decide, by decide +kernel, by decide⟩, (List.mem_of_getElem? (i := 229) rfl), (List.mem_of_getElem? (i := 230) rfl)⟩
set_option maxRecDepth 100000 in
theorem ml_X7_96 : MLs RX7 96 yX7_isWindOrCalm cX7_isWindOrCalm 1 (some .boolean) 1 := ⟨⟨Or.inl (List.mem_of_getElem? (i := 248) rfl), (List.mem_of_getElem? (i := 2) rfl), (List.mem_of_getElem? (i := 250) rfl), by decide, by decide +kernel, by decide⟩, (List.mem_of_getElem? (i := 249) rfl)⟩
set_option maxRecDepth 100000 in
theorem ml_X7_100 : MLs RX7 100 yX7_isSign cX7_isSign 1 (some .boolean) 1 := ⟨⟨Or.inl (List.mem_of_getElem? (i := 251) rfl), (List.mem_of_getElem? (i := 2) rfl), (List.mem_of_getElem? (i := 187) rfl), by decide, by decide +kernel, by decide⟩, (List.mem_of_getElem? (i := 186) rfl)⟩
set_option maxRecDepth 100000 in
theorem ml_X7_103 : MLv RX7 103 yX7_hasBook cX7_hasBook 1 (some .boolean) 0 := ⟨⟨Or.inl (List.mem_of_getElem? (i := 252) rfl), (List.mem_of_getElem? (i := 2) rfl), (List.mem_of_getElem? (i := 255) rfl), by decide, by decide +kernel, by decide⟩, (List.mem_of_getElem? (i := 253) rfl), (List.mem_of_getElem? (i := 254) rfl)⟩
set_option maxRecDepth 100000 in
theorem ml_X7_110 : MLs RX7 110 yX7_isName cX7_isName 1 (some .boolean) 1 := ⟨⟨Or.inl (List.mem_of_getElem? (i := 264) rfl), (List.mem_of_getElem? (i := 2) rfl), (List.mem_of_getElem? (i := 177) rfl), by decide, by decide +kernel, by decide⟩, (List.mem_of_getElem? (i := 176) rfl)⟩
set_option maxRecDepth 100000 in
theorem ml_X7_117 : MLs RX7 117 yX7_isPlace cX7_isPlace 1 (some .boolean) 1 := ⟨⟨Or.inl (List.mem_of_getElem? (i := 276) rfl), (List.mem_of_getElem? (i := 2) rfl), (List.mem_of_getElem? (i := 278) rfl), by decide, by decide +kernel, by decide⟩, (List.mem_of_getElem? (i := 277) rfl)⟩
set_option maxRecDepth 100000 in
theorem ml_X7_120 : MLs RX7 120 yX7_isKind cX7_isKind 1 (some .boolean) 1 := ⟨⟨Or.inl (List.mem_of_getElem? (i := 279) rfl), (List.mem_of_getElem? (i := 2) rfl), (List.mem_of_getElem? (i := 281) rfl), by decide, by decide +kernel, by decide⟩, (List.mem_of_getElem? (i := 280) rfl)⟩
set_option maxRecDepth 100000 in
theorem ml_X7_123 : MLv RX7 123 yX4_add cX4_add 3 (some .int) 2 := ⟨⟨Or.inr (List.mem_of_getElem? (i := 43) rfl), (List.mem_of_getElem? (i := 23) rfl), (List.mem_of_getElem? (i := 284) rfl), by decide, by decide +kernel, by decide⟩, (List.mem_of_getElem? (i := 282) rfl), (List.mem_of_getElem? (i := 283) rfl)⟩
set_option maxRecDepth 100000 in
theorem ml_X7_126 : MLv RX7 126 yX7_isShip cX7_isShip 2 (some .boolean) 1 := ⟨⟨Or.inl (List.mem_of_getElem? (i := 303) rfl), (List.mem_of_getElem? (i := 2) rfl), (List.mem_of_getElem? (i := 306) rfl), by decide, by decide +kernel, by decide⟩, (List.mem_of_getElem? (i := 304) rfl), (List.mem_of_getElem? (i := 305) rfl)⟩
set_option maxRecDepth 100000 in
theorem ml_X7_133 : MLv RX7 133 yX5_tell cX5_tell 2 (some .int) 1 := ⟨⟨Or.inr (List.mem_of_getElem? (i := 45) rfl), (List.mem_of_getElem? (i := 55) rfl), (List.mem_of_getElem? (i := 309) rfl), by decide, by decide +kernel, by decide⟩, (List.mem_of_getElem? (i := 307) rfl), (List.mem_of_getElem? (i := 308) rfl)⟩
set_option maxRecDepth 100000 in
theorem ml_X7_139 : MLv RX7 139 yX5_isA cX5_isA 2 (some .boolean) 1 := ⟨⟨Or.inr (List.mem_of_getElem? (i := 46) rfl), (List.mem_of_getElem? (i := 55) rfl), (List.mem_of_getElem? (i := 328) rfl), by decide, by decide +kernel, by decide⟩, (List.mem_of_getElem? (i := 326) rfl), (List.mem_of_getElem? (i := 327) rfl)⟩
set_option maxRecDepth 100000 in
theorem ml_X7_145 : MLv RX7 145 yX4_isSpent cX4_isSpent 2 (some .boolean) 1 := ⟨⟨Or.inr (List.mem_of_getElem? (i := 47) rfl), (List.mem_of_getElem? (i := 23) rfl), (List.mem_of_getElem? (i := 339) rfl), by decide, by decide +kernel, by decide⟩, (List.mem_of_getElem? (i := 337) rfl), (List.mem_of_getElem? (i := 338) rfl)⟩
set_option maxRecDepth 100000 in
theorem ml_X7_148 : MLv RX7 148 yX4_replaceCall cX4_replaceCall 4 (some .int) 2 := ⟨⟨Or.inr (List.mem_of_getElem? (i := 48) rfl), (List.mem_of_getElem? (i := 23) rfl), (List.mem_of_getElem? (i := 342) rfl), by decide, by decide +kernel, by decide⟩, (List.mem_of_getElem? (i := 340) rfl), (List.mem_of_getElem? (i := 341) rfl)⟩
set_option maxRecDepth 100000 in
theorem ml_X7_151 : MLv RX7 151 yX4_passDay cX4_passDay 5 none 2 := ⟨⟨Or.inr (List.mem_of_getElem? (i := 50) rfl), (List.mem_of_getElem? (i := 23) rfl), (List.mem_of_getElem? (i := 379) rfl), by decide, by decide +kernel, by decide⟩, (List.mem_of_getElem? (i := 377) rfl), (List.mem_of_getElem? (i := 378) rfl)⟩
set_option maxRecDepth 100000 in
theorem ml_X7_155 : MLv RX7 155 yX4_homeCount cX4_homeCount 3 (some .int) 0 := ⟨⟨Or.inr (List.mem_of_getElem? (i := 54) rfl), (List.mem_of_getElem? (i := 23) rfl), (List.mem_of_getElem? (i := 406) rfl), by decide, by decide +kernel, by decide⟩, (List.mem_of_getElem? (i := 404) rfl), (List.mem_of_getElem? (i := 405) rfl)⟩
set_option maxRecDepth 100000 in
theorem ml_X7_158 : MLv RX7 158 yX4_spentCount cX4_spentCount 1 (some .int) 0 := ⟨⟨Or.inr (List.mem_of_getElem? (i := 55) rfl), (List.mem_of_getElem? (i := 23) rfl), (List.mem_of_getElem? (i := 429) rfl), by decide, by decide +kernel, by decide⟩, (List.mem_of_getElem? (i := 427) rfl), (List.mem_of_getElem? (i := 428) rfl)⟩
set_option maxRecDepth 100000 in
theorem ml_X7_166 : MLs RX7 166 yX7_isPart cX7_isPart 1 (some .boolean) 1 := ⟨⟨Or.inl (List.mem_of_getElem? (i := 451) rfl), (List.mem_of_getElem? (i := 2) rfl), (List.mem_of_getElem? (i := 453) rfl), by decide, by decide +kernel, by decide⟩, (List.mem_of_getElem? (i := 452) rfl)⟩
set_option maxRecDepth 100000 in
theorem ml_X7_174 : MLv RX7 174 yX1_begin cX1_begin 6 none 3 := ⟨⟨Or.inr (List.mem_of_getElem? (i := 56) rfl), (List.mem_of_getElem? (i := 33) rfl), (List.mem_of_getElem? (i := 456) rfl), by decide, by decide +kernel, by decide⟩, (List.mem_of_getElem? (i := 454) rfl), (List.mem_of_getElem? (i := 455) rfl)⟩
set_option maxRecDepth 100000 in
theorem ml_X7_178 : MLv RX7 178 yX4_freeNames cX4_freeNames 1 (some .int) 0 := ⟨⟨Or.inr (List.mem_of_getElem? (i := 58) rfl), (List.mem_of_getElem? (i := 23) rfl), (List.mem_of_getElem? (i := 465) rfl), by decide, by decide +kernel, by decide⟩, (List.mem_of_getElem? (i := 463) rfl), (List.mem_of_getElem? (i := 464) rfl)⟩
set_option maxRecDepth 100000 in
theorem ml_X7_181 : MLv RX7 181 yX1_chances cX1_chances 7 (some .int) 3 := ⟨⟨Or.inr (List.mem_of_getElem? (i := 59) rfl), (List.mem_of_getElem? (i := 33) rfl), (List.mem_of_getElem? (i := 468) rfl), by decide, by decide +kernel, by decide⟩, (List.mem_of_getElem? (i := 466) rfl), (List.mem_of_getElem? (i := 467) rfl)⟩
set_option maxRecDepth 100000 in
theorem ml_X7_188 : MLs RX7 188 yX7_inLowestTerms cX7_inLowestTerms 5 (some .long) 3 := ⟨⟨Or.inl (List.mem_of_getElem? (i := 478) rfl), (List.mem_of_getElem? (i := 2) rfl), (List.mem_of_getElem? (i := 480) rfl), by decide, by decide +kernel, by decide⟩, (List.mem_of_getElem? (i := 479) rfl)⟩
set_option maxRecDepth 100000 in
theorem ml_X7_192 : MLv RX7 192 yX1_bestCall cX1_bestCall 9 (some .int) 4 := ⟨⟨Or.inr (List.mem_of_getElem? (i := 62) rfl), (List.mem_of_getElem? (i := 33) rfl), (List.mem_of_getElem? (i := 475) rfl), by decide, by decide +kernel, by decide⟩, (List.mem_of_getElem? (i := 470) rfl), (List.mem_of_getElem? (i := 471) rfl)⟩
set_option maxRecDepth 100000 in
theorem ml_X7_196 : MLv RX7 196 yX0_tellingSign cX0_tellingSign 3 (some .int) 0 := ⟨⟨Or.inr (List.mem_of_getElem? (i := 63) rfl), (List.mem_of_getElem? (i := 37) rfl), (List.mem_of_getElem? (i := 558) rfl), by decide, by decide +kernel, by decide⟩, (List.mem_of_getElem? (i := 556) rfl), (List.mem_of_getElem? (i := 557) rfl)⟩
set_option maxRecDepth 100000 in
theorem ml_X7_199 : MLs RX7 199 yX7_raceChances cX7_raceChances 9 (some .int) 4 := ⟨⟨Or.inl (List.mem_of_getElem? (i := 576) rfl), (List.mem_of_getElem? (i := 2) rfl), (List.mem_of_getElem? (i := 578) rfl), by decide, by decide +kernel, by decide⟩, (List.mem_of_getElem? (i := 577) rfl)⟩
set_option maxRecDepth 100000 in
theorem ml_X7_209 : MLv RX7 209 yX6_begin cX6_begin 3 none 2 := ⟨⟨Or.inr (List.mem_of_getElem? (i := 65) rfl), (List.mem_of_getElem? (i := 29) rfl), (List.mem_of_getElem? (i := 609) rfl), by decide, by decide +kernel, by decide⟩, (List.mem_of_getElem? (i := 607) rfl), (List.mem_of_getElem? (i := 608) rfl)⟩
set_option maxRecDepth 100000 in
theorem ml_X7_215 : MLv RX7 215 yX6_add cX6_add 2 (some .int) 1 := ⟨⟨Or.inr (List.mem_of_getElem? (i := 66) rfl), (List.mem_of_getElem? (i := 29) rfl), (List.mem_of_getElem? (i := 621) rfl), by decide, by decide +kernel, by decide⟩, (List.mem_of_getElem? (i := 619) rfl), (List.mem_of_getElem? (i := 620) rfl)⟩
set_option maxRecDepth 100000 in
theorem ml_X7_217 : MLv RX7 217 yX6_ways cX6_ways 6 (some .int) 1 := ⟨⟨Or.inr (List.mem_of_getElem? (i := 67) rfl), (List.mem_of_getElem? (i := 29) rfl), (List.mem_of_getElem? (i := 632) rfl), by decide, by decide +kernel, by decide⟩, (List.mem_of_getElem? (i := 630) rfl), (List.mem_of_getElem? (i := 631) rfl)⟩
set_option maxRecDepth 100000 in
theorem ml_X7_221 : MLv RX7 221 yX6_callOn cX6_callOn 6 (some .int) 2 := ⟨⟨Or.inr (List.mem_of_getElem? (i := 70) rfl), (List.mem_of_getElem? (i := 29) rfl), (List.mem_of_getElem? (i := 659) rfl), by decide, by decide +kernel, by decide⟩, (List.mem_of_getElem? (i := 657) rfl), (List.mem_of_getElem? (i := 658) rfl)⟩
set_option maxRecDepth 100000 in
theorem ml_X7_225 : MLv RX7 225 yX4_copyFrom cX4_copyFrom 3 none 1 := ⟨⟨Or.inr (List.mem_of_getElem? (i := 71) rfl), (List.mem_of_getElem? (i := 23) rfl), (List.mem_of_getElem? (i := 671) rfl), by decide, by decide +kernel, by decide⟩, (List.mem_of_getElem? (i := 669) rfl), (List.mem_of_getElem? (i := 670) rfl)⟩
set_option maxRecDepth 100000 in
theorem ml_X7_229 : MLv RX7 229 yX4_passYears cX4_passYears 9 (some .int) 3 := ⟨⟨Or.inr (List.mem_of_getElem? (i := 73) rfl), (List.mem_of_getElem? (i := 23) rfl), (List.mem_of_getElem? (i := 681) rfl), by decide, by decide +kernel, by decide⟩, (List.mem_of_getElem? (i := 679) rfl), (List.mem_of_getElem? (i := 680) rfl)⟩
set_option maxRecDepth 100000 in
theorem ml_X7_233 : MLv RX7 233 yX4_placesTogether cX4_placesTogether 3 (some .int) 0 := ⟨⟨Or.inr (List.mem_of_getElem? (i := 74) rfl), (List.mem_of_getElem? (i := 23) rfl), (List.mem_of_getElem? (i := 698) rfl), by decide, by decide +kernel, by decide⟩, (List.mem_of_getElem? (i := 696) rfl), (List.mem_of_getElem? (i := 697) rfl)⟩
set_option maxRecDepth 100000 in
theorem ml_X7_245 : MLv RX7 245 yX7_mixBook cX7_mixBook 7 (some .long) 1 := ⟨⟨Or.inl (List.mem_of_getElem? (i := 763) rfl), (List.mem_of_getElem? (i := 2) rfl), (List.mem_of_getElem? (i := 766) rfl), by decide, by decide +kernel, by decide⟩, (List.mem_of_getElem? (i := 764) rfl), (List.mem_of_getElem? (i := 765) rfl)⟩
set_option maxRecDepth 100000 in
theorem ml_X7_249 : MLv RX7 249 yX7_spent cX7_spent 2 (some .int) 1 := ⟨⟨Or.inl (List.mem_of_getElem? (i := 771) rfl), (List.mem_of_getElem? (i := 2) rfl), (List.mem_of_getElem? (i := 368) rfl), by decide, by decide +kernel, by decide⟩, (List.mem_of_getElem? (i := 366) rfl), (List.mem_of_getElem? (i := 367) rfl)⟩
set_option maxRecDepth 100000 in
theorem ml_X7_252 : MLs RX7 252 yX7_mix cX7_mix 4 (some .long) 2 := ⟨⟨Or.inl (List.mem_of_getElem? (i := 767) rfl), (List.mem_of_getElem? (i := 2) rfl), (List.mem_of_getElem? (i := 769) rfl), by decide, by decide +kernel, by decide⟩, (List.mem_of_getElem? (i := 768) rfl)⟩
set_option maxRecDepth 100000 in
theorem ml_X7_256 : MLv RX7 256 yX7_guess cX7_guess 2 (some .int) 1 := ⟨⟨Or.inl (List.mem_of_getElem? (i := 772) rfl), (List.mem_of_getElem? (i := 2) rfl), (List.mem_of_getElem? (i := 594) rfl), by decide, by decide +kernel, by decide⟩, (List.mem_of_getElem? (i := 592) rfl), (List.mem_of_getElem? (i := 593) rfl)⟩
set_option maxRecDepth 100000 in
theorem ml_X7_259 : MLv RX7 259 yX7_mixShip cX7_mixShip 7 (some .long) 2 := ⟨⟨Or.inl (List.mem_of_getElem? (i := 773) rfl), (List.mem_of_getElem? (i := 2) rfl), (List.mem_of_getElem? (i := 776) rfl), by decide, by decide +kernel, by decide⟩, (List.mem_of_getElem? (i := 774) rfl), (List.mem_of_getElem? (i := 775) rfl)⟩
set_option maxRecDepth 100000 in
theorem ml_X7_263 : MLv RX7 263 yX7_called cX7_called 1 (some .int) 0 := ⟨⟨Or.inl (List.mem_of_getElem? (i := 779) rfl), (List.mem_of_getElem? (i := 2) rfl), (List.mem_of_getElem? (i := 629) rfl), by decide, by decide +kernel, by decide⟩, (List.mem_of_getElem? (i := 627) rfl), (List.mem_of_getElem? (i := 628) rfl)⟩
set_option maxRecDepth 100000 in
theorem ml_X7_269 : MLv RX7 269 yX7_count cX7_count 2 (some .int) 1 := ⟨⟨Or.inl (List.mem_of_getElem? (i := 780) rfl), (List.mem_of_getElem? (i := 2) rfl), (List.mem_of_getElem? (i := 749) rfl), by decide, by decide +kernel, by decide⟩, (List.mem_of_getElem? (i := 747) rfl), (List.mem_of_getElem? (i := 748) rfl)⟩
set_option maxRecDepth 100000 in
theorem ml_X7_272 : MLv RX7 272 yX7_about cX7_about 3 (some .int) 2 := ⟨⟨Or.inl (List.mem_of_getElem? (i := 777) rfl), (List.mem_of_getElem? (i := 2) rfl), (List.mem_of_getElem? (i := 302) rfl), by decide, by decide +kernel, by decide⟩, (List.mem_of_getElem? (i := 300) rfl), (List.mem_of_getElem? (i := 301) rfl)⟩
set_option maxRecDepth 100000 in
theorem ml_X7_275 : MLv RX7 275 yX7_likely cX7_likely 5 (some .long) 3 := ⟨⟨Or.inl (List.mem_of_getElem? (i := 778) rfl), (List.mem_of_getElem? (i := 2) rfl), (List.mem_of_getElem? (i := 447) rfl), by decide, by decide +kernel, by decide⟩, (List.mem_of_getElem? (i := 445) rfl), (List.mem_of_getElem? (i := 446) rfl)⟩
set_option maxRecDepth 100000 in
theorem ml_X7_294 : MLv RX7 294 yX0_favours cX0_favours 3 (some .boolean) 2 := ⟨⟨Or.inr (List.mem_of_getElem? (i := 53) rfl), (List.mem_of_getElem? (i := 37) rfl), (List.mem_of_getElem? (i := 386) rfl), by decide, by decide +kernel, by decide⟩, (List.mem_of_getElem? (i := 384) rfl), (List.mem_of_getElem? (i := 385) rfl)⟩
set_option maxRecDepth 100000 in
theorem ml_X7_298 : MLs RX7 298 yX7_placeAhead cX7_placeAhead 4 (some .int) 3 := ⟨⟨Or.inl (List.mem_of_getElem? (i := 389) rfl), (List.mem_of_getElem? (i := 2) rfl), (List.mem_of_getElem? (i := 391) rfl), by decide, by decide +kernel, by decide⟩, (List.mem_of_getElem? (i := 390) rfl)⟩
set_option maxRecDepth 100000 in
theorem ml_X7_301 : MLs RX7 301 yX7_placeBehind cX7_placeBehind 4 (some .int) 3 := ⟨⟨Or.inl (List.mem_of_getElem? (i := 397) rfl), (List.mem_of_getElem? (i := 2) rfl), (List.mem_of_getElem? (i := 399) rfl), by decide, by decide +kernel, by decide⟩, (List.mem_of_getElem? (i := 398) rfl)⟩
set_option maxRecDepth 100000 in
theorem ml_X7_304 : MLv RX7 304 yX0_strengthInAll cX0_strengthInAll 4 (some .int) 1 := ⟨⟨Or.inr (List.mem_of_getElem? (i := 64) rfl), (List.mem_of_getElem? (i := 37) rfl), (List.mem_of_getElem? (i := 581) rfl), by decide, by decide +kernel, by decide⟩, (List.mem_of_getElem? (i := 579) rfl), (List.mem_of_getElem? (i := 580) rfl)⟩
set_option maxRecDepth 100000 in
theorem ml_X7_307 : MLs RX7 307 yX7_placeAfter cX7_placeAfter 5 (some .int) 5 := ⟨⟨Or.inl (List.mem_of_getElem? (i := 582) rfl), (List.mem_of_getElem? (i := 2) rfl), (List.mem_of_getElem? (i := 388) rfl), by decide, by decide +kernel, by decide⟩, (List.mem_of_getElem? (i := 387) rfl)⟩
set_option maxRecDepth 100000 in
theorem ml_X7_311 : MLs RX7 311 yX7_greatestShared cX7_greatestShared 6 (some .int) 2 := ⟨⟨Or.inl (List.mem_of_getElem? (i := 481) rfl), (List.mem_of_getElem? (i := 2) rfl), (List.mem_of_getElem? (i := 483) rfl), by decide, by decide +kernel, by decide⟩, (List.mem_of_getElem? (i := 482) rfl)⟩
set_option maxRecDepth 100000 in
theorem ml_X0_20 : MLv RX0 20 yX0_clear cX0_clear 2 none 0 := ⟨⟨Or.inl (List.mem_of_getElem? (i := 89) rfl), (List.mem_of_getElem? (i := 37) rfl), (List.mem_of_getElem? (i := 92) rfl), by decide, by decide +kernel, by decide⟩, (List.mem_of_getElem? (i := 90) rfl), (List.mem_of_getElem? (i := 91) rfl)⟩
set_option maxRecDepth 100000 in
theorem ml_X0_23 : MLs RX0 23 yJ7_fill_53178 cJ7_fill_53178 4 none 2 := ⟨⟨Or.inl (List.mem_of_getElem? (i := 93) rfl), (List.mem_of_getElem? (i := 70) rfl), (List.mem_of_getElem? (i := 71) rfl), by decide, by decide +kernel, by decide⟩, (List.mem_of_getElem? (i := 69) rfl)⟩
set_option maxRecDepth 100000 in
theorem ml_X0_29 : MLv RX0 29 yX0_favours cX0_favours 3 (some .boolean) 2 := ⟨⟨Or.inl (List.mem_of_getElem? (i := 462) rfl), (List.mem_of_getElem? (i := 37) rfl), (List.mem_of_getElem? (i := 386) rfl), by decide, by decide +kernel, by decide⟩, (List.mem_of_getElem? (i := 384) rfl), (List.mem_of_getElem? (i := 385) rfl)⟩
set_option maxRecDepth 100000 in
theorem ml_X0_33 : MLv RX0 33 yX0_strongest cX0_strongest 4 (some .int) 1 := ⟨⟨Or.inl (List.mem_of_getElem? (i := 559) rfl), (List.mem_of_getElem? (i := 37) rfl), (List.mem_of_getElem? (i := 562) rfl), by decide, by decide +kernel, by decide⟩, (List.mem_of_getElem? (i := 560) rfl), (List.mem_of_getElem? (i := 561) rfl)⟩
set_option maxRecDepth 100000 in
theorem ml_X1_27 : MLs RX1 27 yJ7_fill_53178 cJ7_fill_53178 4 none 2 := ⟨⟨Or.inl (List.mem_of_getElem? (i := 458) rfl), (List.mem_of_getElem? (i := 70) rfl), (List.mem_of_getElem? (i := 71) rfl), by decide, by decide +kernel, by decide⟩, (List.mem_of_getElem? (i := 69) rfl)⟩
set_option maxRecDepth 100000 in
theorem ml_X1_38 : MLv RX1 38 yX0_favour cX0_favour 5 (some .int) 2 := ⟨⟨Or.inr (List.mem_of_getElem? (i := 57) rfl), (List.mem_of_getElem? (i := 37) rfl), (List.mem_of_getElem? (i := 461) rfl), by decide, by decide +kernel, by decide⟩, (List.mem_of_getElem? (i := 459) rfl), (List.mem_of_getElem? (i := 460) rfl)⟩
set_option maxRecDepth 100000 in
theorem ml_X1_45 : MLv RX1 45 yX1_bestCall cX1_bestCall 9 (some .int) 4 := ⟨⟨Or.inl (List.mem_of_getElem? (i := 469) rfl), (List.mem_of_getElem? (i := 33) rfl), (List.mem_of_getElem? (i := 475) rfl), by decide, by decide +kernel, by decide⟩, (List.mem_of_getElem? (i := 470) rfl), (List.mem_of_getElem? (i := 471) rfl)⟩
set_option maxRecDepth 100000 in
theorem ml_X1_49 : MLv RX1 49 yX1_worth cX1_worth 11 (some .int) 5 := ⟨⟨Or.inl (List.mem_of_getElem? (i := 472) rfl), (List.mem_of_getElem? (i := 33) rfl), (List.mem_of_getElem? (i := 476) rfl), by decide, by decide +kernel, by decide⟩, (List.mem_of_getElem? (i := 473) rfl), (List.mem_of_getElem? (i := 474) rfl)⟩
set_option maxRecDepth 100000 in
theorem ml_X1_53 : MLs RX1 53 yX7_placeAhead cX7_placeAhead 4 (some .int) 3 := ⟨⟨Or.inr (List.mem_of_getElem? (i := 60) rfl), (List.mem_of_getElem? (i := 2) rfl), (List.mem_of_getElem? (i := 391) rfl), by decide, by decide +kernel, by decide⟩, (List.mem_of_getElem? (i := 390) rfl)⟩
set_option maxRecDepth 100000 in
theorem ml_X1_57 : MLv RX1 57 yX1_chances cX1_chances 7 (some .int) 3 := ⟨⟨Or.inl (List.mem_of_getElem? (i := 477) rfl), (List.mem_of_getElem? (i := 33) rfl), (List.mem_of_getElem? (i := 468) rfl), by decide, by decide +kernel, by decide⟩, (List.mem_of_getElem? (i := 466) rfl), (List.mem_of_getElem? (i := 467) rfl)⟩
set_option maxRecDepth 100000 in
theorem ml_X1_60 : MLs RX1 60 yX7_placeBehind cX7_placeBehind 4 (some .int) 3 := ⟨⟨Or.inr (List.mem_of_getElem? (i := 61) rfl), (List.mem_of_getElem? (i := 2) rfl), (List.mem_of_getElem? (i := 399) rfl), by decide, by decide +kernel, by decide⟩, (List.mem_of_getElem? (i := 398) rfl)⟩
set_option maxRecDepth 100000 in
theorem ml_X2_15 : MLs RX2 15 yX2_lettersIn cX2_lettersIn 5 (some .int) 1 := ⟨⟨Or.inl (List.mem_of_getElem? (i := 132) rfl), (List.mem_of_getElem? (i := 15) rfl), (List.mem_of_getElem? (i := 134) rfl), by decide, by decide +kernel, by decide⟩, (List.mem_of_getElem? (i := 133) rfl)⟩
set_option maxRecDepth 100000 in
theorem ml_X2_23 : MLs RX2 23 yX2_byteAt cX2_byteAt 3 (some .int) 2 := ⟨⟨Or.inl (List.mem_of_getElem? (i := 135) rfl), (List.mem_of_getElem? (i := 15) rfl), (List.mem_of_getElem? (i := 137) rfl), by decide, by decide +kernel, by decide⟩, (List.mem_of_getElem? (i := 136) rfl)⟩
set_option maxRecDepth 100000 in
theorem ml_X3_11 : MLv RX3 11 yX0_clear cX0_clear 2 none 0 := ⟨⟨Or.inr (List.mem_of_getElem? (i := 36) rfl), (List.mem_of_getElem? (i := 37) rfl), (List.mem_of_getElem? (i := 92) rfl), by decide, by decide +kernel, by decide⟩, (List.mem_of_getElem? (i := 90) rfl), (List.mem_of_getElem? (i := 91) rfl)⟩
set_option maxRecDepth 100000 in
theorem ml_X3_32 : MLv RX3 32 yX3_takes cX3_takes 3 (some .boolean) 2 := ⟨⟨Or.inl (List.mem_of_getElem? (i := 164) rfl), (List.mem_of_getElem? (i := 19) rfl), (List.mem_of_getElem? (i := 167) rfl), by decide, by decide +kernel, by decide⟩, (List.mem_of_getElem? (i := 165) rfl), (List.mem_of_getElem? (i := 166) rfl)⟩
set_option maxRecDepth 100000 in
theorem ml_X3_36 : MLv RX3 36 yX3_takesMark cX3_takesMark 4 (some .boolean) 3 := ⟨⟨Or.inl (List.mem_of_getElem? (i := 168) rfl), (List.mem_of_getElem? (i := 19) rfl), (List.mem_of_getElem? (i := 171) rfl), by decide, by decide +kernel, by decide⟩, (List.mem_of_getElem? (i := 169) rfl), (List.mem_of_getElem? (i := 170) rfl)⟩
set_option maxRecDepth 100000 in
theorem ml_X3_40 : MLv RX3 40 yX3_takesName cX3_takesName 5 (some .boolean) 3 := ⟨⟨Or.inl (List.mem_of_getElem? (i := 172) rfl), (List.mem_of_getElem? (i := 19) rfl), (List.mem_of_getElem? (i := 175) rfl), by decide, by decide +kernel, by decide⟩, (List.mem_of_getElem? (i := 173) rfl), (List.mem_of_getElem? (i := 174) rfl)⟩
set_option maxRecDepth 100000 in
theorem ml_X3_44 : MLv RX3 44 yX3_takesNextWind cX3_takesNextWind 2 (some .boolean) 1 := ⟨⟨Or.inl (List.mem_of_getElem? (i := 178) rfl), (List.mem_of_getElem? (i := 19) rfl), (List.mem_of_getElem? (i := 181) rfl), by decide, by decide +kernel, by decide⟩, (List.mem_of_getElem? (i := 179) rfl), (List.mem_of_getElem? (i := 180) rfl)⟩
set_option maxRecDepth 100000 in
theorem ml_X3_48 : MLv RX3 48 yX3_takesTenths cX3_takesTenths 5 (some .boolean) 2 := ⟨⟨Or.inl (List.mem_of_getElem? (i := 182) rfl), (List.mem_of_getElem? (i := 19) rfl), (List.mem_of_getElem? (i := 185) rfl), by decide, by decide +kernel, by decide⟩, (List.mem_of_getElem? (i := 183) rfl), (List.mem_of_getElem? (i := 184) rfl)⟩
set_option maxRecDepth 100000 in
theorem ml_X3_51 : MLs RX3 51 yX7_isName cX7_isName 1 (some .boolean) 1 := ⟨⟨Or.inr (List.mem_of_getElem? (i := 37) rfl), (List.mem_of_getElem? (i := 2) rfl), (List.mem_of_getElem? (i := 177) rfl), by decide, by decide +kernel, by decide⟩, (List.mem_of_getElem? (i := 176) rfl)⟩
set_option maxRecDepth 100000 in
theorem ml_X3_57 : MLs RX3 57 yX7_isSign cX7_isSign 1 (some .boolean) 1 := ⟨⟨Or.inr (List.mem_of_getElem? (i := 38) rfl), (List.mem_of_getElem? (i := 2) rfl), (List.mem_of_getElem? (i := 187) rfl), by decide, by decide +kernel, by decide⟩, (List.mem_of_getElem? (i := 186) rfl)⟩
set_option maxRecDepth 100000 in
theorem ml_X4_22 : MLv RX4 22 yX4_clear cX4_clear 1 none 0 := ⟨⟨Or.inl (List.mem_of_getElem? (i := 60) rfl), (List.mem_of_getElem? (i := 23) rfl), (List.mem_of_getElem? (i := 63) rfl), by decide, by decide +kernel, by decide⟩, (List.mem_of_getElem? (i := 61) rfl), (List.mem_of_getElem? (i := 62) rfl)⟩
set_option maxRecDepth 100000 in
theorem ml_X4_25 : MLs RX4 25 yJ7_fill_53178 cJ7_fill_53178 4 none 2 := ⟨⟨Or.inl (List.mem_of_getElem? (i := 68) rfl), (List.mem_of_getElem? (i := 70) rfl), (List.mem_of_getElem? (i := 71) rfl), by decide, by decide +kernel, by decide⟩, (List.mem_of_getElem? (i := 69) rfl)⟩
set_option maxRecDepth 100000 in
theorem ml_X4_44 : MLv RX4 44 yX5_copyFrom cX5_copyFrom 2 none 1 := ⟨⟨Or.inr (List.mem_of_getElem? (i := 72) rfl), (List.mem_of_getElem? (i := 55) rfl), (List.mem_of_getElem? (i := 678) rfl), by decide, by decide +kernel, by decide⟩, (List.mem_of_getElem? (i := 676) rfl), (List.mem_of_getElem? (i := 677) rfl)⟩
set_option maxRecDepth 100000 in
theorem ml_X4_54 : MLv RX4 54 yX5_begin cX5_begin 3 none 2 := ⟨⟨Or.inr (List.mem_of_getElem? (i := 44) rfl), (List.mem_of_getElem? (i := 55) rfl), (List.mem_of_getElem? (i := 287) rfl), by decide, by decide +kernel, by decide⟩, (List.mem_of_getElem? (i := 285) rfl), (List.mem_of_getElem? (i := 286) rfl)⟩
set_option maxRecDepth 100000 in
theorem ml_X4_58 : MLs RX4 58 yJ6_bitCount_0f7a4 cJ6_bitCount_0f7a4 1 (some .int) 1 := ⟨⟨Or.inl (List.mem_of_getElem? (i := 430) rfl), (List.mem_of_getElem? (i := 432) rfl), (List.mem_of_getElem? (i := 433) rfl), by decide, by decide +kernel, by decide⟩, (List.mem_of_getElem? (i := 431) rfl)⟩
set_option maxRecDepth 100000 in
theorem ml_X4_70 : MLv RX4 70 yX4_isSpentToday cX4_isSpentToday 3 (some .boolean) 1 := ⟨⟨Or.inl (List.mem_of_getElem? (i := 343) rfl), (List.mem_of_getElem? (i := 23) rfl), (List.mem_of_getElem? (i := 346) rfl), by decide, by decide +kernel, by decide⟩, (List.mem_of_getElem? (i := 344) rfl), (List.mem_of_getElem? (i := 345) rfl)⟩
set_option maxRecDepth 100000 in
theorem ml_X4_74 : MLv RX4 74 yX4_beginCall cX4_beginCall 3 none 2 := ⟨⟨Or.inl (List.mem_of_getElem? (i := 350) rfl), (List.mem_of_getElem? (i := 23) rfl), (List.mem_of_getElem? (i := 353) rfl), by decide, by decide +kernel, by decide⟩, (List.mem_of_getElem? (i := 351) rfl), (List.mem_of_getElem? (i := 352) rfl)⟩
set_option maxRecDepth 100000 in
theorem ml_X4_77 : MLv RX4 77 yX5_spends cX5_spends 2 (some .boolean) 1 := ⟨⟨Or.inr (List.mem_of_getElem? (i := 49) rfl), (List.mem_of_getElem? (i := 55) rfl), (List.mem_of_getElem? (i := 349) rfl), by decide, by decide +kernel, by decide⟩, (List.mem_of_getElem? (i := 347) rfl), (List.mem_of_getElem? (i := 348) rfl)⟩
set_option maxRecDepth 100000 in
theorem ml_X4_80 : MLv RX4 80 yX4_answer cX4_answer 5 none 3 := ⟨⟨Or.inl (List.mem_of_getElem? (i := 380) rfl), (List.mem_of_getElem? (i := 23) rfl), (List.mem_of_getElem? (i := 383) rfl), by decide, by decide +kernel, by decide⟩, (List.mem_of_getElem? (i := 381) rfl), (List.mem_of_getElem? (i := 382) rfl)⟩
set_option maxRecDepth 100000 in
theorem ml_X4_87 : MLs RX4 87 yX7_placeAfter cX7_placeAfter 5 (some .int) 5 := ⟨⟨Or.inr (List.mem_of_getElem? (i := 52) rfl), (List.mem_of_getElem? (i := 2) rfl), (List.mem_of_getElem? (i := 388) rfl), by decide, by decide +kernel, by decide⟩, (List.mem_of_getElem? (i := 387) rfl)⟩
set_option maxRecDepth 100000 in
theorem ml_X4_91 : MLv RX4 91 yX0_favours cX0_favours 3 (some .boolean) 2 := ⟨⟨Or.inr (List.mem_of_getElem? (i := 51) rfl), (List.mem_of_getElem? (i := 37) rfl), (List.mem_of_getElem? (i := 386) rfl), by decide, by decide +kernel, by decide⟩, (List.mem_of_getElem? (i := 384) rfl), (List.mem_of_getElem? (i := 385) rfl)⟩
set_option maxRecDepth 100000 in
theorem ml_X4_103 : MLs RX4 103 yX4_nextSeed cX4_nextSeed 1 (some .int) 1 := ⟨⟨Or.inl (List.mem_of_getElem? (i := 682) rfl), (List.mem_of_getElem? (i := 23) rfl), (List.mem_of_getElem? (i := 684) rfl), by decide, by decide +kernel, by decide⟩, (List.mem_of_getElem? (i := 683) rfl)⟩
set_option maxRecDepth 100000 in
theorem ml_X4_106 : MLs RX4 106 yX4_drawOf cX4_drawOf 2 (some .int) 2 := ⟨⟨Or.inl (List.mem_of_getElem? (i := 688) rfl), (List.mem_of_getElem? (i := 23) rfl), (List.mem_of_getElem? (i := 690) rfl), by decide, by decide +kernel, by decide⟩, (List.mem_of_getElem? (i := 689) rfl)⟩
set_option maxRecDepth 100000 in
theorem ml_X4_110 : MLv RX4 110 yX4_isSpent cX4_isSpent 2 (some .boolean) 1 := ⟨⟨Or.inl (List.mem_of_getElem? (i := 691) rfl), (List.mem_of_getElem? (i := 23) rfl), (List.mem_of_getElem? (i := 339) rfl), by decide, by decide +kernel, by decide⟩, (List.mem_of_getElem? (i := 337) rfl), (List.mem_of_getElem? (i := 338) rfl)⟩
set_option maxRecDepth 100000 in
theorem ml_X4_113 : MLs RX4 113 yX4_windDrawn cX4_windDrawn 5 (some .int) 3 := ⟨⟨Or.inl (List.mem_of_getElem? (i := 692) rfl), (List.mem_of_getElem? (i := 23) rfl), (List.mem_of_getElem? (i := 694) rfl), by decide, by decide +kernel, by decide⟩, (List.mem_of_getElem? (i := 693) rfl)⟩
set_option maxRecDepth 100000 in
theorem ml_X4_117 : MLv RX4 117 yX4_passDay cX4_passDay 5 none 2 := ⟨⟨Or.inl (List.mem_of_getElem? (i := 695) rfl), (List.mem_of_getElem? (i := 23) rfl), (List.mem_of_getElem? (i := 379) rfl), by decide, by decide +kernel, by decide⟩, (List.mem_of_getElem? (i := 377) rfl), (List.mem_of_getElem? (i := 378) rfl)⟩
set_option maxRecDepth 100000 in
theorem ml_X6_26 : MLv RX6 26 yX6_waysBy cX6_waysBy 7 (some .int) 3 := ⟨⟨Or.inl (List.mem_of_getElem? (i := 633) rfl), (List.mem_of_getElem? (i := 29) rfl), (List.mem_of_getElem? (i := 636) rfl), by decide, by decide +kernel, by decide⟩, (List.mem_of_getElem? (i := 634) rfl), (List.mem_of_getElem? (i := 635) rfl)⟩
set_option maxRecDepth 100000 in
theorem ml_X6_30 : MLv RX6 30 yX0_strengthInAll cX0_strengthInAll 4 (some .int) 1 := ⟨⟨Or.inr (List.mem_of_getElem? (i := 68) rfl), (List.mem_of_getElem? (i := 37) rfl), (List.mem_of_getElem? (i := 581) rfl), by decide, by decide +kernel, by decide⟩, (List.mem_of_getElem? (i := 579) rfl), (List.mem_of_getElem? (i := 580) rfl)⟩
set_option maxRecDepth 100000 in
theorem ml_X6_36 : MLs RX6 36 yX7_placeAfter cX7_placeAfter 5 (some .int) 5 := ⟨⟨Or.inr (List.mem_of_getElem? (i := 69) rfl), (List.mem_of_getElem? (i := 2) rfl), (List.mem_of_getElem? (i := 388) rfl), by decide, by decide +kernel, by decide⟩, (List.mem_of_getElem? (i := 387) rfl)⟩
set_option maxRecDepth 100000 in
theorem ml_X6_40 : MLv RX6 40 yX6_ways cX6_ways 6 (some .int) 1 := ⟨⟨Or.inl (List.mem_of_getElem? (i := 660) rfl), (List.mem_of_getElem? (i := 29) rfl), (List.mem_of_getElem? (i := 632) rfl), by decide, by decide +kernel, by decide⟩, (List.mem_of_getElem? (i := 630) rfl), (List.mem_of_getElem? (i := 631) rfl)⟩
set_option maxRecDepth 100000 in
theorem ml_X8_88 : MLs RX8 88 yX8_within cX8_within 3 (some .boolean) 3 := ⟨⟨Or.inl (List.mem_of_getElem? (i := 208) rfl), (List.mem_of_getElem? (i := 5) rfl), (List.mem_of_getElem? (i := 210) rfl), by decide, by decide +kernel, by decide⟩, (List.mem_of_getElem? (i := 209) rfl)⟩
set_option maxRecDepth 100000 in
theorem ml_X8_98 : MLv RX8 98 yX8_takesName cX8_takesName 3 (some .boolean) 1 := ⟨⟨Or.inl (List.mem_of_getElem? (i := 204) rfl), (List.mem_of_getElem? (i := 5) rfl), (List.mem_of_getElem? (i := 207) rfl), by decide, by decide +kernel, by decide⟩, (List.mem_of_getElem? (i := 205) rfl), (List.mem_of_getElem? (i := 206) rfl)⟩
set_option maxRecDepth 100000 in
theorem ml_X8_102 : MLv RX8 102 yX8_takesTenths cX8_takesTenths 5 (some .boolean) 2 := ⟨⟨Or.inl (List.mem_of_getElem? (i := 211) rfl), (List.mem_of_getElem? (i := 5) rfl), (List.mem_of_getElem? (i := 214) rfl), by decide, by decide +kernel, by decide⟩, (List.mem_of_getElem? (i := 212) rfl), (List.mem_of_getElem? (i := 213) rfl)⟩
set_option maxRecDepth 100000 in
theorem ml_X8_106 : MLv RX8 106 yX8_nextState cX8_nextState 3 (some .int) 2 := ⟨⟨Or.inl (List.mem_of_getElem? (i := 200) rfl), (List.mem_of_getElem? (i := 5) rfl), (List.mem_of_getElem? (i := 203) rfl), by decide, by decide +kernel, by decide⟩, (List.mem_of_getElem? (i := 201) rfl), (List.mem_of_getElem? (i := 202) rfl)⟩
set_option maxRecDepth 100000 in
theorem ml_X8_117 : MLv RX8 117 yX8_readBook cX8_readBook 5 none 0 := ⟨⟨Or.inl (List.mem_of_getElem? (i := 193) rfl), (List.mem_of_getElem? (i := 5) rfl), (List.mem_of_getElem? (i := 196) rfl), by decide, by decide +kernel, by decide⟩, (List.mem_of_getElem? (i := 194) rfl), (List.mem_of_getElem? (i := 195) rfl)⟩
set_option maxRecDepth 100000 in
theorem ml_X8_144 : MLs RX8 144 yX8_isName cX8_isName 1 (some .boolean) 1 := ⟨⟨Or.inl (List.mem_of_getElem? (i := 269) rfl), (List.mem_of_getElem? (i := 5) rfl), (List.mem_of_getElem? (i := 271) rfl), by decide, by decide +kernel, by decide⟩, (List.mem_of_getElem? (i := 270) rfl)⟩
set_option maxRecDepth 100000 in
theorem ml_X8_147 : MLs RX8 147 yX8_isPlace cX8_isPlace 1 (some .boolean) 1 := ⟨⟨Or.inl (List.mem_of_getElem? (i := 296) rfl), (List.mem_of_getElem? (i := 5) rfl), (List.mem_of_getElem? (i := 298) rfl), by decide, by decide +kernel, by decide⟩, (List.mem_of_getElem? (i := 297) rfl)⟩
set_option maxRecDepth 100000 in
theorem ml_X8_150 : MLv RX8 150 yX8_isShip cX8_isShip 2 (some .boolean) 1 := ⟨⟨Or.inl (List.mem_of_getElem? (i := 314) rfl), (List.mem_of_getElem? (i := 5) rfl), (List.mem_of_getElem? (i := 317) rfl), by decide, by decide +kernel, by decide⟩, (List.mem_of_getElem? (i := 315) rfl), (List.mem_of_getElem? (i := 316) rfl)⟩
set_option maxRecDepth 100000 in
theorem ml_X8_153 : MLv RX8 153 yX8_shipNow cX8_shipNow 3 (some .int) 2 := ⟨⟨Or.inl (List.mem_of_getElem? (i := 318) rfl), (List.mem_of_getElem? (i := 5) rfl), (List.mem_of_getElem? (i := 321) rfl), by decide, by decide +kernel, by decide⟩, (List.mem_of_getElem? (i := 319) rfl), (List.mem_of_getElem? (i := 320) rfl)⟩
set_option maxRecDepth 100000 in
theorem ml_X8_156 : MLs RX8 156 yX8_has cX8_has 2 (some .boolean) 2 := ⟨⟨Or.inl (List.mem_of_getElem? (i := 358) rfl), (List.mem_of_getElem? (i := 5) rfl), (List.mem_of_getElem? (i := 360) rfl), by decide, by decide +kernel, by decide⟩, (List.mem_of_getElem? (i := 359) rfl)⟩
set_option maxRecDepth 100000 in
theorem ml_X8_159 : MLv RX8 159 yX8_isCalledToo cX8_isCalledToo 5 (some .boolean) 2 := ⟨⟨Or.inl (List.mem_of_getElem? (i := 361) rfl), (List.mem_of_getElem? (i := 5) rfl), (List.mem_of_getElem? (i := 364) rfl), by decide, by decide +kernel, by decide⟩, (List.mem_of_getElem? (i := 362) rfl), (List.mem_of_getElem? (i := 363) rfl)⟩
set_option maxRecDepth 100000 in
theorem ml_X8_162 : MLv RX8 162 yX8_answer cX8_answer 5 none 2 := ⟨⟨Or.inl (List.mem_of_getElem? (i := 411) rfl), (List.mem_of_getElem? (i := 5) rfl), (List.mem_of_getElem? (i := 414) rfl), by decide, by decide +kernel, by decide⟩, (List.mem_of_getElem? (i := 412) rfl), (List.mem_of_getElem? (i := 413) rfl)⟩
set_option maxRecDepth 100000 in
theorem ml_X8_166 : MLv RX8 166 yX8_behind cX8_behind 7 (some .int) 4 := ⟨⟨Or.inl (List.mem_of_getElem? (i := 415) rfl), (List.mem_of_getElem? (i := 5) rfl), (List.mem_of_getElem? (i := 418) rfl), by decide, by decide +kernel, by decide⟩, (List.mem_of_getElem? (i := 416) rfl), (List.mem_of_getElem? (i := 417) rfl)⟩
set_option maxRecDepth 100000 in
theorem ml_X8_170 : MLv RX8 170 yX8_homeMany cX8_homeMany 3 (some .int) 0 := ⟨⟨Or.inl (List.mem_of_getElem? (i := 419) rfl), (List.mem_of_getElem? (i := 5) rfl), (List.mem_of_getElem? (i := 422) rfl), by decide, by decide +kernel, by decide⟩, (List.mem_of_getElem? (i := 420) rfl), (List.mem_of_getElem? (i := 421) rfl)⟩
set_option maxRecDepth 100000 in
theorem ml_X8_174 : MLs RX8 174 yX8_size cX8_size 3 (some .int) 1 := ⟨⟨Or.inl (List.mem_of_getElem? (i := 441) rfl), (List.mem_of_getElem? (i := 5) rfl), (List.mem_of_getElem? (i := 443) rfl), by decide, by decide +kernel, by decide⟩, (List.mem_of_getElem? (i := 442) rfl)⟩
set_option maxRecDepth 100000 in
theorem ml_X8_178 : MLs RX8 178 yX8_spentBy cX8_spentBy 3 (some .int) 3 := ⟨⟨Or.inl (List.mem_of_getElem? (i := 515) rfl), (List.mem_of_getElem? (i := 5) rfl), (List.mem_of_getElem? (i := 517) rfl), by decide, by decide +kernel, by decide⟩, (List.mem_of_getElem? (i := 516) rfl)⟩
set_option maxRecDepth 100000 in
theorem ml_X8_182 : MLs RX8 182 yX8_at cX8_at 3 (some .int) 3 := ⟨⟨Or.inl (List.mem_of_getElem? (i := 499) rfl), (List.mem_of_getElem? (i := 5) rfl), (List.mem_of_getElem? (i := 501) rfl), by decide, by decide +kernel, by decide⟩, (List.mem_of_getElem? (i := 500) rfl)⟩
set_option maxRecDepth 100000 in
theorem ml_X8_185 : MLv RX8 185 yX8_chanceBy cX8_chanceBy 10 (some .long) 6 := ⟨⟨Or.inl (List.mem_of_getElem? (i := 511) rfl), (List.mem_of_getElem? (i := 5) rfl), (List.mem_of_getElem? (i := 514) rfl), by decide, by decide +kernel, by decide⟩, (List.mem_of_getElem? (i := 512) rfl), (List.mem_of_getElem? (i := 513) rfl)⟩
set_option maxRecDepth 100000 in
theorem ml_X8_191 : MLv RX8 191 yX8_overSigns cX8_overSigns 8 (some .long) 4 := ⟨⟨Or.inl (List.mem_of_getElem? (i := 502) rfl), (List.mem_of_getElem? (i := 5) rfl), (List.mem_of_getElem? (i := 505) rfl), by decide, by decide +kernel, by decide⟩, (List.mem_of_getElem? (i := 503) rfl), (List.mem_of_getElem? (i := 504) rfl)⟩
set_option maxRecDepth 100000 in
theorem ml_X8_197 : MLv RX8 197 yX8_bestCall cX8_bestCall 12 (some .int) 5 := ⟨⟨Or.inl (List.mem_of_getElem? (i := 506) rfl), (List.mem_of_getElem? (i := 5) rfl), (List.mem_of_getElem? (i := 509) rfl), by decide, by decide +kernel, by decide⟩, (List.mem_of_getElem? (i := 507) rfl), (List.mem_of_getElem? (i := 508) rfl)⟩
set_option maxRecDepth 100000 in
theorem ml_X8_201 : MLv RX8 201 yX8_layChances cX8_layChances 8 none 2 := ⟨⟨Or.inl (List.mem_of_getElem? (i := 494) rfl), (List.mem_of_getElem? (i := 5) rfl), (List.mem_of_getElem? (i := 497) rfl), by decide, by decide +kernel, by decide⟩, (List.mem_of_getElem? (i := 495) rfl), (List.mem_of_getElem? (i := 496) rfl)⟩
set_option maxRecDepth 100000 in
theorem ml_X8_204 : MLs RX8 204 yX8_power cX8_power 4 (some .long) 1 := ⟨⟨Or.inl (List.mem_of_getElem? (i := 518) rfl), (List.mem_of_getElem? (i := 5) rfl), (List.mem_of_getElem? (i := 520) rfl), by decide, by decide +kernel, by decide⟩, (List.mem_of_getElem? (i := 519) rfl)⟩
set_option maxRecDepth 100000 in
theorem ml_X8_208 : MLs RX8 208 yX8_lowest cX8_lowest 11 (some .long) 3 := ⟨⟨Or.inl (List.mem_of_getElem? (i := 521) rfl), (List.mem_of_getElem? (i := 5) rfl), (List.mem_of_getElem? (i := 523) rfl), by decide, by decide +kernel, by decide⟩, (List.mem_of_getElem? (i := 522) rfl)⟩
set_option maxRecDepth 100000 in
theorem ml_X8_214 : MLv RX8 214 yX8_likelyNow cX8_likelyNow 4 (some .long) 3 := ⟨⟨Or.inl (List.mem_of_getElem? (i := 490) rfl), (List.mem_of_getElem? (i := 5) rfl), (List.mem_of_getElem? (i := 493) rfl), by decide, by decide +kernel, by decide⟩, (List.mem_of_getElem? (i := 491) rfl), (List.mem_of_getElem? (i := 492) rfl)⟩
set_option maxRecDepth 100000 in
theorem ml_X8_220 : MLv RX8 220 yX8_sureBy cX8_sureBy 9 (some .boolean) 6 := ⟨⟨Or.inl (List.mem_of_getElem? (i := 548) rfl), (List.mem_of_getElem? (i := 5) rfl), (List.mem_of_getElem? (i := 551) rfl), by decide, by decide +kernel, by decide⟩, (List.mem_of_getElem? (i := 549) rfl), (List.mem_of_getElem? (i := 550) rfl)⟩
set_option maxRecDepth 100000 in
theorem ml_X8_224 : MLv RX8 224 yX8_isSure cX8_isSure 9 (some .boolean) 4 := ⟨⟨Or.inl (List.mem_of_getElem? (i := 544) rfl), (List.mem_of_getElem? (i := 5) rfl), (List.mem_of_getElem? (i := 547) rfl), by decide, by decide +kernel, by decide⟩, (List.mem_of_getElem? (i := 545) rfl), (List.mem_of_getElem? (i := 546) rfl)⟩
set_option maxRecDepth 100000 in
theorem ml_X8_228 : MLv RX8 228 yX8_sureNow cX8_sureNow 5 (some .int) 1 := ⟨⟨Or.inl (List.mem_of_getElem? (i := 540) rfl), (List.mem_of_getElem? (i := 5) rfl), (List.mem_of_getElem? (i := 543) rfl), by decide, by decide +kernel, by decide⟩, (List.mem_of_getElem? (i := 541) rfl), (List.mem_of_getElem? (i := 542) rfl)⟩
set_option maxRecDepth 100000 in
theorem ml_X8_231 : MLv RX8 231 yX8_tellsNow cX8_tellsNow 5 (some .int) 0 := ⟨⟨Or.inl (List.mem_of_getElem? (i := 568) rfl), (List.mem_of_getElem? (i := 5) rfl), (List.mem_of_getElem? (i := 571) rfl), by decide, by decide +kernel, by decide⟩, (List.mem_of_getElem? (i := 569) rfl), (List.mem_of_getElem? (i := 570) rfl)⟩
set_option maxRecDepth 100000 in
theorem ml_X8_234 : MLv RX8 234 yX8_raceNow cX8_raceNow 10 (some .long) 3 := ⟨⟨Or.inl (List.mem_of_getElem? (i := 587) rfl), (List.mem_of_getElem? (i := 5) rfl), (List.mem_of_getElem? (i := 590) rfl), by decide, by decide +kernel, by decide⟩, (List.mem_of_getElem? (i := 588) rfl), (List.mem_of_getElem? (i := 589) rfl)⟩
set_option maxRecDepth 100000 in
theorem ml_X8_237 : MLv RX8 237 yX8_guessNow cX8_guessNow 5 (some .int) 1 := ⟨⟨Or.inl (List.mem_of_getElem? (i := 599) rfl), (List.mem_of_getElem? (i := 5) rfl), (List.mem_of_getElem? (i := 602) rfl), by decide, by decide +kernel, by decide⟩, (List.mem_of_getElem? (i := 600) rfl), (List.mem_of_getElem? (i := 601) rfl)⟩
set_option maxRecDepth 100000 in
theorem ml_X8_240 : MLv RX8 240 yX8_canBlow cX8_canBlow 2 (some .boolean) 1 := ⟨⟨Or.inl (List.mem_of_getElem? (i := 649) rfl), (List.mem_of_getElem? (i := 5) rfl), (List.mem_of_getElem? (i := 652) rfl), by decide, by decide +kernel, by decide⟩, (List.mem_of_getElem? (i := 650) rfl), (List.mem_of_getElem? (i := 651) rfl)⟩
set_option maxRecDepth 100000 in
theorem ml_X8_243 : MLv RX8 243 yX8_waysBy cX8_waysBy 6 (some .int) 2 := ⟨⟨Or.inl (List.mem_of_getElem? (i := 645) rfl), (List.mem_of_getElem? (i := 5) rfl), (List.mem_of_getElem? (i := 648) rfl), by decide, by decide +kernel, by decide⟩, (List.mem_of_getElem? (i := 646) rfl), (List.mem_of_getElem? (i := 647) rfl)⟩
set_option maxRecDepth 100000 in
theorem ml_X8_246 : MLv RX8 246 yX8_calledNow cX8_calledNow 5 (some .int) 0 := ⟨⟨Or.inl (List.mem_of_getElem? (i := 641) rfl), (List.mem_of_getElem? (i := 5) rfl), (List.mem_of_getElem? (i := 644) rfl), by decide, by decide +kernel, by decide⟩, (List.mem_of_getElem? (i := 642) rfl), (List.mem_of_getElem? (i := 643) rfl)⟩
set_option maxRecDepth 100000 in
theorem ml_X8_261 : MLv RX8 261 yX8_draw cX8_draw 2 (some .int) 1 := ⟨⟨Or.inl (List.mem_of_getElem? (i := 712) rfl), (List.mem_of_getElem? (i := 5) rfl), (List.mem_of_getElem? (i := 715) rfl), by decide, by decide +kernel, by decide⟩, (List.mem_of_getElem? (i := 713) rfl), (List.mem_of_getElem? (i := 714) rfl)⟩
set_option maxRecDepth 100000 in
theorem ml_X8_264 : MLv RX8 264 yX8_drawnWind cX8_drawnWind 4 (some .int) 1 := ⟨⟨Or.inl (List.mem_of_getElem? (i := 720) rfl), (List.mem_of_getElem? (i := 5) rfl), (List.mem_of_getElem? (i := 723) rfl), by decide, by decide +kernel, by decide⟩, (List.mem_of_getElem? (i := 721) rfl), (List.mem_of_getElem? (i := 722) rfl)⟩
set_option maxRecDepth 100000 in
theorem ml_X8_267 : MLv RX8 267 yX8_goYearDay cX8_goYearDay 4 none 0 := ⟨⟨Or.inl (List.mem_of_getElem? (i := 708) rfl), (List.mem_of_getElem? (i := 5) rfl), (List.mem_of_getElem? (i := 711) rfl), by decide, by decide +kernel, by decide⟩, (List.mem_of_getElem? (i := 709) rfl), (List.mem_of_getElem? (i := 710) rfl)⟩
set_option maxRecDepth 100000 in
theorem ml_X8_270 : MLv RX8 270 yX8_yearsNow cX8_yearsNow 8 (some .int) 3 := ⟨⟨Or.inl (List.mem_of_getElem? (i := 703) rfl), (List.mem_of_getElem? (i := 5) rfl), (List.mem_of_getElem? (i := 706) rfl), by decide, by decide +kernel, by decide⟩, (List.mem_of_getElem? (i := 704) rfl), (List.mem_of_getElem? (i := 705) rfl)⟩
set_option maxRecDepth 100000 in
theorem ml_X8_291 : MLv RX8 291 yX8_howMany cX8_howMany 2 (some .int) 1 := ⟨⟨Or.inl (List.mem_of_getElem? (i := 754) rfl), (List.mem_of_getElem? (i := 5) rfl), (List.mem_of_getElem? (i := 757) rfl), by decide, by decide +kernel, by decide⟩, (List.mem_of_getElem? (i := 755) rfl), (List.mem_of_getElem? (i := 756) rfl)⟩
set_option maxRecDepth 100000 in
theorem ml_X8_301 : MLv RX8 301 yX8_mix cX8_mix 3 none 1 := ⟨⟨Or.inl (List.mem_of_getElem? (i := 787) rfl), (List.mem_of_getElem? (i := 5) rfl), (List.mem_of_getElem? (i := 790) rfl), by decide, by decide +kernel, by decide⟩, (List.mem_of_getElem? (i := 788) rfl), (List.mem_of_getElem? (i := 789) rfl)⟩
set_option maxRecDepth 100000 in
theorem mm_X7_283 : Cond.methodLink RX7 283 Lib.Math.min.name ∈ wsL_law ∧ Cond.static Lib.Math.min.name ∈ wsL_law ∧ Cond.initialized "java/lang/Math" ∈ wsL_law ∧ Cond.code Lib.Math.min.name Lib.Math.min.code 2 (some .int) ∈ wsL_law := ⟨(List.mem_of_getElem? (i := 393) rfl), (List.mem_of_getElem? (i := 394) rfl), (List.mem_of_getElem? (i := 395) rfl), (List.mem_of_getElem? (i := 396) rfl)⟩
set_option maxRecDepth 100000 in
theorem mm_X7_291 : Cond.methodLink RX7 291 Lib.Math.max.name ∈ wsL_law ∧ Cond.static Lib.Math.max.name ∈ wsL_law ∧ Cond.initialized "java/lang/Math" ∈ wsL_law ∧ Cond.code Lib.Math.max.name Lib.Math.max.code 2 (some .int) ∈ wsL_law := ⟨(List.mem_of_getElem? (i := 401) rfl), (List.mem_of_getElem? (i := 402) rfl), (List.mem_of_getElem? (i := 395) rfl), (List.mem_of_getElem? (i := 403) rfl)⟩
set_option maxRecDepth 100000 in
theorem mm_X0_37 : Cond.methodLink RX0 37 Lib.Math.max.name ∈ wsL_law ∧ Cond.static Lib.Math.max.name ∈ wsL_law ∧ Cond.initialized "java/lang/Math" ∈ wsL_law ∧ Cond.code Lib.Math.max.name Lib.Math.max.code 2 (some .int) ∈ wsL_law := ⟨(List.mem_of_getElem? (i := 563) rfl), (List.mem_of_getElem? (i := 402) rfl), (List.mem_of_getElem? (i := 395) rfl), (List.mem_of_getElem? (i := 403) rfl)⟩
set_option maxRecDepth 100000 in
theorem gs_X7_185 : Cond.fieldLink RX7 185 "NamedWind" (stN 90) "[I" ∈ wsL_law := (List.mem_of_getElem? (i := 450) rfl)
set_option maxRecDepth 100000 in
theorem gs_X7_280 : Cond.fieldLink RX7 280 "NamedWind" (stN 88) "[I" ∈ wsL_law := (List.mem_of_getElem? (i := 392) rfl)
set_option maxRecDepth 100000 in
theorem gs_X7_288 : Cond.fieldLink RX7 288 "NamedWind" (stN 89) "[I" ∈ wsL_law := (List.mem_of_getElem? (i := 400) rfl)
theorem gs_X1_42 : Cond.fieldLinkNest RX1 42 "NamedWind" (stN 90) "[I" "NamedWind" ∈ nestW := List.mem_of_getElem? (i := 25) rfl
set_option maxRecDepth 100000 in
theorem ct_X7_164 : Cond.constantLong RX7 164 (-101) ∈ wsL_law := (List.mem_of_getElem? (i := 448) rfl)
set_option maxRecDepth 100000 in
theorem ct_X7_169 : Cond.constantLong RX7 169 (-102) ∈ wsL_law := (List.mem_of_getElem? (i := 449) rfl)
set_option maxRecDepth 100000 in
theorem ct_X7_243 : Cond.constantLong RX7 243 (661) ∈ wsL_law := (List.mem_of_getElem? (i := 762) rfl)
set_option maxRecDepth 100000 in
theorem ct_X7_278 : Cond.constantLong RX7 278 (31) ∈ wsL_law := (List.mem_of_getElem? (i := 770) rfl)
set_option maxRecDepth 100000 in
theorem ct_X4_125 : Cond.constantLong RX4 125 (1103515245) ∈ wsL_law := (List.mem_of_getElem? (i := 685) rfl)
set_option maxRecDepth 100000 in
theorem ct_X4_127 : Cond.constantLong RX4 127 (12345) ∈ wsL_law := (List.mem_of_getElem? (i := 686) rfl)
set_option maxRecDepth 100000 in
theorem ct_X4_129 : Cond.constantLong RX4 129 (2147483647) ∈ wsL_law := (List.mem_of_getElem? (i := 687) rfl)
set_option maxRecDepth 100000 in
theorem ct_L_13 : Cond.constantLong RL 13 (4294967295) ∈ wsL_law := (List.mem_of_getElem? (i := 6) rfl)
set_option maxRecDepth 100000 in
theorem ct_X8_83 : Cond.constantLong RX8 83 (255) ∈ wsL_law := (List.mem_of_getElem? (i := 142) rfl)
set_option maxRecDepth 100000 in
theorem ct_X8_189 : Cond.constantLong RX8 189 (-1) ∈ wsL_law := (List.mem_of_getElem? (i := 510) rfl)
set_option maxRecDepth 100000 in
theorem ct_X8_195 : Cond.constantLong RX8 195 (30) ∈ wsL_law := (List.mem_of_getElem? (i := 498) rfl)
set_option maxRecDepth 100000 in
theorem ct_X8_212 : Cond.constantLong RX8 212 (-101) ∈ wsL_law := (List.mem_of_getElem? (i := 488) rfl)
set_option maxRecDepth 100000 in
theorem ct_X8_218 : Cond.constantLong RX8 218 (-102) ∈ wsL_law := (List.mem_of_getElem? (i := 489) rfl)
set_option maxRecDepth 100000 in
theorem ct_X8_249 : Cond.constantLong RX8 249 (1103515245) ∈ wsL_law := (List.mem_of_getElem? (i := 716) rfl)
set_option maxRecDepth 100000 in
theorem ct_X8_255 : Cond.constantLong RX8 255 (12345) ∈ wsL_law := (List.mem_of_getElem? (i := 717) rfl)
set_option maxRecDepth 100000 in
theorem ct_X8_257 : Cond.constantLong RX8 257 (2147483647) ∈ wsL_law := (List.mem_of_getElem? (i := 718) rfl)
set_option maxRecDepth 100000 in
theorem ct_X8_259 : Cond.constantLong RX8 259 (65536) ∈ wsL_law := (List.mem_of_getElem? (i := 719) rfl)
set_option maxRecDepth 100000 in
theorem ct_X8_294 : Cond.constantLong RX8 294 (31) ∈ wsL_law := (List.mem_of_getElem? (i := 791) rfl)
set_option maxRecDepth 100000 in
theorem ct_X8_299 : Cond.constantLong RX8 299 (661) ∈ wsL_law := (List.mem_of_getElem? (i := 785) rfl)
set_option maxRecDepth 100000 in
theorem ct_J6_265 : Cond.constant RJ6 265 (1431655765) ∈ wsL_law := (List.mem_of_getElem? (i := 434) rfl)
set_option maxRecDepth 100000 in
theorem ct_J6_266 : Cond.constant RJ6 266 (858993459) ∈ wsL_law := (List.mem_of_getElem? (i := 435) rfl)
set_option maxRecDepth 100000 in
theorem ct_J6_267 : Cond.constant RJ6 267 (252645135) ∈ wsL_law := (List.mem_of_getElem? (i := 436) rfl)
