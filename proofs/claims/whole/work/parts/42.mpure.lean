
/-! ===== what changes the reference's sea ===== -/
def seaP (k j : Nat) : Prop := (68 ≤ k ∧ k ≤ 73) ∨ (k = 65 ∧ (j = 5 ∨ j = 11 ∨ j = 12 ∨ j = 13))
def FrS (μ μ' : Mm) : Prop := (∀ k j, ¬ seaP k j → μ'.1 k j = μ.1 k j) ∧ μ'.2 = μ.2
theorem FrS.rf {μ : Mm} : FrS μ μ := ⟨fun _ _ _ => rfl, rfl⟩
theorem FrS.set {μ μ' : Mm} (h : FrS μ μ') {k j : Nat} {v : Int32} (hk : seaP k j) : FrS μ (setI μ' k j v) := ⟨fun x y hn => by
  rw [get_ne (fun q => hn (by rw [q.1, q.2]; exact hk))]; exact h.1 x y hn, h.2⟩
theorem FrS.tr {μ μ' μ2 : Mm} (h : FrS μ μ') (h2 : FrS μ' μ2) : FrS μ μ2 := ⟨fun x y hn => (h2.1 x y hn).trans (h.1 x y hn), h2.2.trans h.2⟩
theorem FrS.X {μ μ' : Mm} (h : FrS μ μ') : FrX μ μ' := ⟨fun k hk => by funext j; exact h.1 k j (by unfold seaP; omega), by rw [h.2]⟩
theorem FrS.row {μ μ' : Mm} (h : FrS μ μ') {k : Nat} (hk : k ≠ 65 ∧ ¬ (68 ≤ k ∧ k ≤ 73)) : μ'.1 k = μ.1 k := by funext j; exact h.1 k j (by unfold seaP; omega)
theorem RM.sea {μ μ' : Mm} {a : AT} {σ : SeaT} (h : RM μ a) (hf : FrS μ μ') (e5 : μ'.1 65 5 = nI (sN σ)) (es : ∀ i, i < sN σ → ShM μ' i (sK σ i) (sP σ i) (sC σ i) (sV σ i) (sT σ i)) (e11 : μ'.1 65 11 = nI (sS σ)) (e12 : μ'.1 65 12 = sD σ) (e13 : μ'.1 65 13 = nI (sA σ)) (ea : AnR μ' 73 (sA σ) (sG σ)) (hn : sN (aS a) ≤ sN σ) (hk : ∀ i, i < sN (aS a) → sK σ i = sK (aS a) i) : RM μ' (setA a σ) := by
  obtain ⟨h1, h2, h3, h4, h5, h6, h7, h8, h9, h10, h11, h12, h13⟩ := h
  have z : ∀ j, ¬ (j = 5 ∨ j = 11 ∨ j = 12 ∨ j = 13) → μ'.1 65 j = μ.1 65 j := fun j hj => hf.1 65 j (by unfold seaP; omega)
  refine ⟨by rw [z 0 (by omega)]; exact h1, by rw [z 1 (by omega)]; exact h2, by rw [z 2 (by omega)]; exact h3, fun hb => ⟨fun w s hw hs => by rw [hf.row (k := 66) (by omega)]; exact (h4 hb).1 w s hw hs, fun n hn => by rw [hf.row (k := 67) (by omega)]; exact (h4 hb).2 n hn⟩, e5, es, e11, e12, e13, ea, ?_, ⟨by rw [z 18 (by omega)]; exact h12.1, fun j hj => by rw [hf.row (k := 75) (by omega)]; exact h12.2 j hj⟩, ?_⟩
  · obtain ⟨q1, q2, q3⟩ := h11
    refine ⟨?_, by rw [z 16 (by omega)]; exact q2, fun j hj => by rw [hf.row (k := 74) (by omega)]; exact q3 j hj⟩
    show if aWb a then _ else _
    rw [z 15 (by omega)]
    split
    · rename_i hw
      rw [if_pos hw] at q1
      obtain ⟨x, x1, x2, x3⟩ := q1
      exact ⟨x, Nat.lt_of_lt_of_le x1 hn, x2, by rw [show aS (setA a σ) = σ from rfl, hk x x1]; exact x3⟩
    · rename_i hw
      rw [if_neg hw] at q1
      exact q1
  · unfold KpM at h13 ⊢
    rw [z 33 (by omega), z 34 (by omega), z 35 (by omega), z 36 (by omega), z 37 (by omega), z 38 (by omega), hf.row (k := 84) (by omega), hf.row (k := 85) (by omega), hf.row (k := 86) (by omega)]
    show if aKf a then _ else _
    split
    · rename_i hq
      rw [if_pos hq] at h13
      obtain ⟨k1, k2, k3, k4, k5, k6, k7, k8, k9⟩ := h13
      exact ⟨k1, k2, k3, k4, k5, k6, k7.kept (hf.row (k := 87) (by omega)), fun i hi => ⟨(k8 i hi).1, (k8 i hi).2.1, (k8 i hi).2.2.1, by rw [show aS (setA a σ) = σ from rfl, hk i (by have hi2 : i < sN (aKs a) := hi; omega)]; exact (k8 i hi).2.2.2⟩, Nat.le_trans k9 hn⟩
    · rename_i hq
      rw [if_neg hq] at h13
      exact h13
theorem add_int {p : Nat} {v : Int32} (hp : p ≤ 9) (h1 : -2 ≤ v.toInt) (h2 : v.toInt ≤ 3) : (nI p + v).toInt = (p : Int) + v.toInt := by
  rw [Int32.toInt_add, nI_toInt (by omega)]
  exact Int.bmod_eq_of_le (by omega) (by omega)
theorem eq_nI {v : Int32} {t : Nat} (ht : t < 2 ^ 31) (h : v.toInt = (t : Int)) : v = nI t := Int32.toInt_inj.mp (by rw [h, nI_toInt ht])
theorem aft_up {ow : Nat → Nat} {κ p k w : Nat} (h4 : w ≠ 4) (hf : fav ow k w = true) : aft ow κ p k w = min 9 (p + if k = 0 then 1 else sbK κ) := by unfold aft; rw [if_neg h4, if_pos hf]; rfl
theorem aft_dn {ow : Nat → Nat} {κ p k w : Nat} (h4 : w ≠ 4) (h9 : p ≠ 9) (hf : fav ow k w = false) : aft ow κ p k w = p - (if k = 0 then 1 else tbK κ) := by unfold aft bhd; rw [if_neg h4, hf, if_neg (by decide), if_neg h9]

theorem aft9 {ow : Nat → Nat} {κ p k w : Nat} (h : p = 9) : aft ow κ p k w = p := by
  unfold aft
  split
  · rfl
  · split
    · unfold ahd; omega
    · unfold bhd; rw [if_pos h]; omega
