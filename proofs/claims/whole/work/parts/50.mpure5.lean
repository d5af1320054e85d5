
/-! ===== the reference's page, wakes, keeping ===== -/
theorem ssh_low (w : BitVec 64) (n : Nat) (hn : n ≤ 56) : (w.sshiftRight n).toNat % 256 = w.toNat / 2 ^ n % 256 := by
  apply Nat.eq_of_testBit_eq
  intro i
  rw [show (256 : Nat) = 2 ^ 8 from rfl, Nat.testBit_mod_two_pow, Nat.testBit_mod_two_pow, ← Nat.shiftRight_eq_div_pow, Nat.testBit_shiftRight, BitVec.testBit_toNat, BitVec.testBit_toNat, BitVec.getLsbD_sshiftRight]
  by_cases h : i < 8
  · simp [h, show n + i < 64 by omega, show ¬ 64 ≤ i by omega]
  · simp [h]
theorem shr_bv : ∀ k, k < 8 → ((((8 : Int32) * nI k).toInt64 &&& 63).toBitVec.smod 64).toNat = 8 * k := by decide +kernel
theorem shr_low (w : Int64) {k : Nat} (hk : k < 8) : uN (w >>> (((8 : Int32) * nI k).toInt64 &&& 63)) % 256 = byN w k := by
  show ((w >>> (((8 : Int32) * nI k).toInt64 &&& 63)).toBitVec).toNat % 256 = _
  rw [Int64.toBitVec_shiftRight]
  show (w.toBitVec.sshiftRight ((((8 : Int32) * nI k).toInt64 &&& 63).toBitVec.smod 64).toNat).toNat % 256 = _
  rw [shr_bv k hk, ssh_low _ _ (by omega)]
  rfl
theorem msk_low (x : Int64) : (x &&& 255).toInt32 = nI (uN x % 256) := by
  have e : x &&& 255 = lN (uN x % 256) := by
    apply Int64.toBitVec_inj.mp
    apply BitVec.eq_of_toNat_eq
    rw [Int64.toBitVec_and]
    show (x.toBitVec &&& 255#64).toNat = (BitVec.ofNat 64 (uN x % 256)).toNat
    rw [BitVec.toNat_and, show (255#64).toNat = 2 ^ 8 - 1 from rfl, Nat.and_two_pow_sub_one_eq_mod, BitVec.toNat_ofNat]
    show x.toBitVec.toNat % 256 = x.toBitVec.toNat % 256 % 2 ^ 64
    omega
  have h : uN x % 256 < 256 := Nat.mod_lt _ (by decide)
  rw [e]
  generalize uN x % 256 = n at h
  apply Int32.toBitVec_inj.mp
  apply BitVec.eq_of_toNat_eq
  show ((lN n).toBitVec.signExtend 32).toNat = (BitVec.ofNat 32 n).toNat
  rw [BitVec.signExtend_eq_setWidth_of_le _ (by decide), BitVec.toNat_setWidth, BitVec.toNat_ofNat]
  show (BitVec.ofNat 64 n).toNat % 2 ^ 32 = _
  rw [BitVec.toNat_ofNat]
  omega
theorem cod_eq (w : Int64) {k : Nat} (hk : k < 8) : ((w >>> (((8 : Int32) * nI k).toInt64 &&& 63)) &&& 255).toInt32 = nI (byN w k) := by rw [msk_low, shr_low w hk]
theorem byt_nI : ∀ b, b < 127 → (nI b).toInt8.toInt32 = nI b ∧ vp_nar .byte (nI b) = nI b := by decide +kernel
theorem byt_low (x : Int64) : x.toInt32.toInt8 = (nI (uN x % 256)).toInt8 := by
  apply Int8.toBitVec_inj.mp
  apply BitVec.eq_of_toNat_eq
  show ((x.toBitVec.signExtend 32).signExtend 8).toNat = ((BitVec.ofNat 32 (uN x % 256)).signExtend 8).toNat
  rw [BitVec.signExtend_eq_setWidth_of_le _ (by decide), BitVec.signExtend_eq_setWidth_of_le _ (by decide), BitVec.signExtend_eq_setWidth_of_le _ (by decide), BitVec.toNat_setWidth, BitVec.toNat_setWidth, BitVec.toNat_setWidth, BitVec.toNat_ofNat]
  show x.toBitVec.toNat % 2 ^ 32 % 2 ^ 8 = x.toBitVec.toNat % 256 % 2 ^ 32 % 2 ^ 8
  omega
theorem byt_eq (w : Int64) {k : Nat} (hk : k < 8) (hb : byN w k ≤ 126) : vp_nar .byte ((w >>> (((8 : Int32) * nI k).toInt64 &&& 63)).toInt32.toInt8.toInt32) = nI (byN w k) := by
  rw [byt_low, shr_low w hk, (byt_nI _ (by omega)).1, (byt_nI _ (by omega)).2]
def FrJ (S : Nat → Nat → Prop) (μ μ' : Mm) : Prop := (∀ k j, ¬ S k j → μ'.1 k j = μ.1 k j) ∧ μ'.2 = μ.2
theorem FrJ.rf {S : Nat → Nat → Prop} {μ : Mm} : FrJ S μ μ := ⟨fun _ _ _ => rfl, rfl⟩
theorem FrJ.set {S : Nat → Nat → Prop} {μ μ' : Mm} (h : FrJ S μ μ') {k j : Nat} {v : Int32} (hk : S k j) : FrJ S μ (setI μ' k j v) := ⟨fun x y hn => by
  rw [get_ne (fun q => hn (by rw [q.1, q.2]; exact hk))]; exact h.1 x y hn, h.2⟩
theorem FrJ.X {S : Nat → Nat → Prop} {μ μ' : Mm} (h : FrJ S μ μ') (hS : ∀ k j, S k j → 65 ≤ k) : FrX μ μ' := ⟨fun k hk => by funext j; exact h.1 k j (fun q => by have := hS k j q; omega), by rw [h.2]⟩
theorem FrJ.row {S : Nat → Nat → Prop} {μ μ' : Mm} (h : FrJ S μ μ') {k : Nat} (hk : ∀ j, ¬ S k j) : μ'.1 k = μ.1 k := by funext j; exact h.1 k j (hk j)
def pageP (k j : Nat) : Prop := k = 75 ∨ (k = 65 ∧ j = 18)
theorem pageX : ∀ k j, pageP k j → 65 ≤ k := fun k j h => by unfold pageP at h; omega
theorem RM.page {μ μ' : Mm} {a : AT} {n : Nat} {cd : Nat → Nat} (h : RM μ a) (hf : FrJ pageP μ μ') (e1 : μ'.1 65 18 = nI n) (e2 : ∀ j, j < 30 → μ'.1 75 j = nI (cd j)) : RM μ' (setP a n cd) := by
  obtain ⟨h1, h2, h3, h4, h5, h6, h7, h8, h9, h10, h11, h12, h13⟩ := h
  have z : ∀ j, j ≠ 18 → μ'.1 65 j = μ.1 65 j := fun j hj => hf.1 65 j (by unfold pageP; omega)
  have r : ∀ k, k ≠ 65 → k ≠ 75 → μ'.1 k = μ.1 k := fun k q1 q2 => hf.row (fun j => by unfold pageP; omega)
  refine ⟨by rw [z 0 (by omega)]; exact h1, by rw [z 1 (by omega)]; exact h2, by rw [z 2 (by omega)]; exact h3, fun hb => ⟨fun w s hw hs => by rw [r 66 (by omega) (by omega)]; exact (h4 hb).1 w s hw hs, fun n hn => by rw [r 67 (by omega) (by omega)]; exact (h4 hb).2 n hn⟩, by rw [z 5 (by omega)]; exact h5, fun i hi => ?_, by rw [z 11 (by omega)]; exact h7, by rw [z 12 (by omega)]; exact h8, by rw [z 13 (by omega)]; exact h9, h10.kept (r 73 (by omega) (by omega)), ?_, ⟨e1, e2⟩, ?_⟩
  · unfold ShM
    rw [r 68 (by omega) (by omega), r 69 (by omega) (by omega), r 70 (by omega) (by omega), r 71 (by omega) (by omega), r 72 (by omega) (by omega)]
    exact h6 i hi
  · unfold WkM
    rw [z 15 (by omega), z 16 (by omega), r 74 (by omega) (by omega)]
    exact h11
  · unfold KpM at h13 ⊢
    rw [z 33 (by omega), z 34 (by omega), z 35 (by omega), z 36 (by omega), z 37 (by omega), z 38 (by omega), r 84 (by omega) (by omega), r 85 (by omega) (by omega), r 86 (by omega) (by omega)]
    show if aKf a then _ else _
    split
    · rename_i hk
      rw [if_pos hk] at h13
      exact ⟨h13.1, h13.2.1, h13.2.2.1, h13.2.2.2.1, h13.2.2.2.2.1, h13.2.2.2.2.2.1, h13.2.2.2.2.2.2.1.kept (r 87 (by omega) (by omega)), h13.2.2.2.2.2.2.2⟩
    · rename_i hk
      rw [if_neg hk] at h13
      exact h13
def wakeP (k j : Nat) : Prop := k = 74 ∨ (k = 65 ∧ (j = 15 ∨ j = 16))
theorem wakeX : ∀ k j, wakeP k j → 65 ≤ k := fun k j h => by unfold wakeP at h; omega
theorem RM.wk {μ μ' : Mm} {a : AT} {bg : Bool} {κ m : Nat} {pl : Nat → Nat} (h : RM μ a) (hf : FrJ wakeP μ μ') (hw : WkM μ' (setW a bg κ m pl)) : RM μ' (setW a bg κ m pl) := by
  obtain ⟨h1, h2, h3, h4, h5, h6, h7, h8, h9, h10, h11, h12, h13⟩ := h
  have z : ∀ j, j ≠ 15 ∧ j ≠ 16 → μ'.1 65 j = μ.1 65 j := fun j hj => hf.1 65 j (by unfold wakeP; omega)
  have r : ∀ k, k ≠ 65 → k ≠ 74 → μ'.1 k = μ.1 k := fun k q1 q2 => hf.row (fun j => by unfold wakeP; omega)
  refine ⟨by rw [z 0 (by omega)]; exact h1, by rw [z 1 (by omega)]; exact h2, by rw [z 2 (by omega)]; exact h3, fun hb => ⟨fun w s hw hs => by rw [r 66 (by omega) (by omega)]; exact (h4 hb).1 w s hw hs, fun n hn => by rw [r 67 (by omega) (by omega)]; exact (h4 hb).2 n hn⟩, by rw [z 5 (by omega)]; exact h5, fun i hi => ?_, by rw [z 11 (by omega)]; exact h7, by rw [z 12 (by omega)]; exact h8, by rw [z 13 (by omega)]; exact h9, h10.kept (r 73 (by omega) (by omega)), hw, ⟨by rw [z 18 (by omega)]; exact h12.1, fun j hj => by rw [r 75 (by omega) (by omega)]; exact h12.2 j hj⟩, ?_⟩
  · unfold ShM
    rw [r 68 (by omega) (by omega), r 69 (by omega) (by omega), r 70 (by omega) (by omega), r 71 (by omega) (by omega), r 72 (by omega) (by omega)]
    exact h6 i hi
  · unfold KpM at h13 ⊢
    rw [z 33 (by omega), z 34 (by omega), z 35 (by omega), z 36 (by omega), z 37 (by omega), z 38 (by omega), r 84 (by omega) (by omega), r 85 (by omega) (by omega), r 86 (by omega) (by omega)]
    show if aKf a then _ else _
    split
    · rename_i hk
      rw [if_pos hk] at h13
      exact ⟨h13.1, h13.2.1, h13.2.2.1, h13.2.2.2.1, h13.2.2.2.2.1, h13.2.2.2.2.2.1, h13.2.2.2.2.2.2.1.kept (r 87 (by omega) (by omega)), h13.2.2.2.2.2.2.2⟩
    · rename_i hk
      rw [if_neg hk] at h13
      exact h13
def keepP (k j : Nat) : Prop := (84 ≤ k ∧ k ≤ 87) ∨ (k = 65 ∧ 33 ≤ j ∧ j ≤ 38)
theorem keepX : ∀ k j, keepP k j → 65 ≤ k := fun k j h => by unfold keepP at h; omega
theorem RM.kp {μ μ' : Mm} {a : AT} {kf : Bool} {ks : SeaT} (h : RM μ a) (hf : FrJ keepP μ μ') (hw : KpM μ' (setK a kf ks)) : RM μ' (setK a kf ks) := by
  obtain ⟨h1, h2, h3, h4, h5, h6, h7, h8, h9, h10, h11, h12, h13⟩ := h
  have z : ∀ j, j < 33 → μ'.1 65 j = μ.1 65 j := fun j hj => hf.1 65 j (by unfold keepP; omega)
  have r : ∀ k, k ≠ 65 → k < 84 → μ'.1 k = μ.1 k := fun k q1 q2 => hf.row (fun j => by unfold keepP; omega)
  refine ⟨by rw [z 0 (by omega)]; exact h1, by rw [z 1 (by omega)]; exact h2, by rw [z 2 (by omega)]; exact h3, fun hb => ⟨fun w s hw hs => by rw [r 66 (by omega) (by omega)]; exact (h4 hb).1 w s hw hs, fun n hn => by rw [r 67 (by omega) (by omega)]; exact (h4 hb).2 n hn⟩, by rw [z 5 (by omega)]; exact h5, fun i hi => ?_, by rw [z 11 (by omega)]; exact h7, by rw [z 12 (by omega)]; exact h8, by rw [z 13 (by omega)]; exact h9, h10.kept (r 73 (by omega) (by omega)), ?_, ⟨by rw [z 18 (by omega)]; exact h12.1, fun j hj => by rw [r 75 (by omega) (by omega)]; exact h12.2 j hj⟩, hw⟩
  · unfold ShM
    rw [r 68 (by omega) (by omega), r 69 (by omega) (by omega), r 70 (by omega) (by omega), r 71 (by omega) (by omega), r 72 (by omega) (by omega)]
    exact h6 i hi
  · unfold WkM
    rw [z 15 (by omega), z 16 (by omega), r 74 (by omega) (by omega)]
    exact h11

def swP (k j : Nat) : Prop := (68 ≤ k ∧ k ≤ 74) ∨ (k = 65 ∧ (j = 5 ∨ j = 11 ∨ j = 12 ∨ j = 13 ∨ j = 15 ∨ j = 16))
theorem swX : ∀ k j, swP k j → 65 ≤ k := fun k j h => by unfold swP at h; omega
theorem RM.sw {μ μ' : Mm} {a a' : AT} (h : RM μ a) (hf : FrJ swP μ μ') (q1 : a'.1 = a.1) (q2 : a'.2.1 = a.2.1) (q3 : a'.2.2.2.1 = a.2.2.2.1) (e5 : μ'.1 65 5 = nI (sN (aS a'))) (es : ∀ i, i < sN (aS a') → ShM μ' i (sK (aS a') i) (sP (aS a') i) (sC (aS a') i) (sV (aS a') i) (sT (aS a') i)) (e11 : μ'.1 65 11 = nI (sS (aS a'))) (e12 : μ'.1 65 12 = sD (aS a')) (e13 : μ'.1 65 13 = nI (sA (aS a'))) (ea : AnR μ' 73 (sA (aS a')) (sG (aS a'))) (hw : WkM μ' a') (hk : aKf a = true → sN (aKs a) ≤ sN (aS a') ∧ ∀ i, i < sN (aKs a) → sK (aS a') i = sK (aS a) i) : RM μ' a' := by
  obtain ⟨h1, h2, h3, h4, h5, h6, h7, h8, h9, h10, h11, h12, h13⟩ := h
  have z : ∀ j, (j < 5 ∨ 17 < j) → μ'.1 65 j = μ.1 65 j := fun j hj => hf.1 65 j (by unfold swP; omega)
  have r : ∀ k, (k ≠ 65 ∧ k < 68 ∨ 74 < k) → μ'.1 k = μ.1 k := fun k q1 => hf.row (fun j => by unfold swP; omega)
  have n1 : aNb a' = aNb a := congrArg (fun z => z.1) q2
  have n2 : aTn a' = aTn a := congrArg (fun z => z.2.1) q2
  have n3 : aOw a' = aOw a := congrArg (fun z => z.2.2) q2
  have n4 : aPn a' = aPn a := congrArg (fun z => z.1) q1
  have n5 : aPc a' = aPc a := congrArg (fun z => z.2) q1
  have n6 : aKf a' = aKf a := congrArg (fun z => z.1) q3
  have n7 : aKs a' = aKs a := congrArg (fun z => z.2) q3
  refine ⟨by rw [z 0 (by omega), n1]; exact h1, by rw [z 1 (by omega), n1]; exact h2, by rw [z 2 (by omega), n3]; exact h3, fun hb => ⟨fun w s hw hs => by rw [r 66 (by omega), n2]; exact (h4 (n1 ▸ hb)).1 w s hw hs, fun n hn => by rw [r 67 (by omega), n3]; exact (h4 (n1 ▸ hb)).2 n hn⟩, e5, es, e11, e12, e13, ea, hw, ⟨by rw [z 18 (by omega), n4]; exact h12.1, fun j hj => by rw [r 75 (by omega), n5]; exact h12.2 j hj⟩, ?_⟩
  unfold KpM at h13 ⊢
  rw [z 33 (by omega), z 34 (by omega), z 35 (by omega), z 36 (by omega), z 37 (by omega), z 38 (by omega), r 84 (by omega), r 85 (by omega), r 86 (by omega), n6, n7, n1]
  split
  · rename_i hq
    rw [if_pos hq] at h13
    obtain ⟨k1, k2, k3, k4, k5, k6, k7, k8, k9⟩ := h13
    exact ⟨k1, k2, k3, k4, k5, k6, k7.kept (r 87 (by omega)), fun i hi => ⟨(k8 i hi).1, (k8 i hi).2.1, (k8 i hi).2.2.1, by rw [(hk hq).2 i hi]; exact (k8 i hi).2.2.2⟩, (hk hq).1⟩
  · rename_i hq
    rw [if_neg hq] at h13
    exact h13
theorem FrJ.ofK {S : Nat → Nat → Prop} {K : Nat} {μ μ' : Mm} (h : FrK K μ μ') (hS : ∀ j, S K j) : FrJ S μ μ' := ⟨fun k j hn => by
  by_cases e : k = K
  · exact absurd (by rw [e]; exact hS j) hn
  · rw [h.1 k e], h.2⟩
theorem FrJ.wk {S S' : Nat → Nat → Prop} {μ μ' : Mm} (h : FrJ S μ μ') (hS : ∀ k j, S k j → S' k j) : FrJ S' μ μ' := ⟨fun k j hn => h.1 k j (fun q => hn (hS k j q)), h.2⟩
theorem FrJ.tr {S : Nat → Nat → Prop} {μ μ' μ2 : Mm} (h : FrJ S μ μ') (h2 : FrJ S μ' μ2) : FrJ S μ μ2 := ⟨fun x y hn => (h2.1 x y hn).trans (h.1 x y hn), h2.2.trans h.2⟩
def KpH (μ : Mm) (a : AT) : Prop := μ.1 65 33 = 1 ∧ μ.1 65 34 = nI (aNb a) ∧ μ.1 65 35 = nI (sN (aS a)) ∧ μ.1 65 36 = nI (sS (aS a)) ∧ μ.1 65 37 = sD (aS a) ∧ μ.1 65 38 = nI (sA (aS a))
theorem KpH.kept {μ μ' : Mm} {a : AT} (h : KpH μ a) (e : μ'.1 65 = μ.1 65) : KpH μ' a := by unfold KpH; rw [e]; exact h
def RsH (μ : Mm) (σ : SeaT) : Prop := μ.1 65 5 = nI (sN σ) ∧ μ.1 65 11 = nI (sS σ) ∧ μ.1 65 12 = sD σ ∧ μ.1 65 13 = nI (sA σ) ∧ μ.1 65 15 = -1 ∧ μ.1 65 16 = 0
theorem RsH.kept {μ μ' : Mm} {σ : SeaT} (h : RsH μ σ) (e : μ'.1 65 = μ.1 65) : RsH μ' σ := by unfold RsH; rw [e]; exact h
theorem row_set {μ : Mm} {k j : Nat} {v : Int32} {a : Nat} (h : a ≠ k) : (setI μ k j v).1 a = μ.1 a := up2_ne h

theorem nI_m1ne {n : Nat} (h : n < 2 ^ 31) : ¬ nI n = -1 := fun q => by
  have e := congrArg Int32.toInt q
  rw [nI_toInt h, show (-1 : Int32).toInt = -1 by decide] at e
  omega
