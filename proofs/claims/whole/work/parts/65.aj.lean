
/-! ===== what runs of calls keep ===== -/
def AI (a : AT) : Prop := AJ a ∧ (aKf a = true → 0 < aNb a)
def Nx (a a' : AT) : Prop := AI a' ∧ aNb a' ≤ aNb a + 1
theorem Nx.rf {a : AT} (h : AI a) : Nx a a := ⟨h, Nat.le_succ _⟩
theorem anyC_iff {σ : SeaT} {k : Nat} : ∀ n, anyC σ k n = true ↔ ∃ i, i < n ∧ sC σ i = k ∧ sK σ i ≠ 4
  | 0 => by
    constructor
    · intro h
      cases h
    · rintro ⟨i, h, -⟩
      exact absurd h (Nat.not_lt_zero i)
  | n + 1 => by
    show (anyC σ k n || (sC σ n == k && sK σ n != 4)) = true ↔ _
    rw [Bool.or_eq_true, anyC_iff n, Bool.and_eq_true, beq_iff_eq, bne_iff_ne]
    constructor
    · rintro (⟨i, h1, h2⟩ | h)
      · exact ⟨i, by omega, h2⟩
      · exact ⟨n, by omega, h⟩
    · rintro ⟨i, h1, h2⟩
      by_cases e : i = n
      · subst e; exact Or.inr h2
      · exact Or.inl ⟨i, by omega, h2⟩
theorem tb_clr : ∀ S, S < 64 → ∀ n, n < 6 → ∀ m, m < 6 → (clr S n).testBit m = (S.testBit m && (m != n)) := by decide +kernel
theorem tb_or : ∀ S, S < 64 → ∀ n, n < 6 → ∀ m, m < 6 → (S ||| 2 ^ n).testBit m = true → S.testBit m = true ∨ m = n := by decide +kernel
theorem Nx.same {a a' : AT} (h : AI a) (e1 : aNb a' = aNb a) (e2 : aS a' = aS a) (e3 : aWb a' = aWb a) (e4 : aKf a' = aKf a) : Nx a a' := by
  unfold Nx AI AJ
  rw [e1, e2, e3, e4]
  exact ⟨h, Nat.le_succ _⟩
/-- a sea whose calls are none -/
theorem Nx.none {a a' : AT} (h : AI a) (e1 : aNb a' = aNb a) (e3 : aNb a = 0 → sN (aS a') = 0 ∧ aWb a' = false) (e4 : aKf a' = aKf a) (hc : ∀ i, i < sN (aS a') → sC (aS a') i = 0) : Nx a a' := by
  refine ⟨⟨⟨fun q => e3 (by rw [← e1]; exact q), fun c i hi he h0 _ => absurd ((hc i hi).symm.trans he).symm h0⟩, fun q => ?_⟩, by rw [e1]; exact Nat.le_succ _⟩
  rw [e1]
  exact h.2 (by rw [← e4]; exact q)
theorem nx_letters {a : AT} {w : Int64} (h : AI a) : Nx a (fLetters a w).2 := by
  unfold fLetters
  split
  · exact Nx.rf h
  · split
    · exact Nx.rf h
    · exact Nx.same h rfl rfl rfl rfl
theorem nx_blank {a : AT} {n : Nat} {cd : Nat → Nat} (h : AI a) : Nx a (setP a n cd) := Nx.same h rfl rfl rfl rfl
theorem nx_book {a : AT} (h : AI a) : Nx a (fBook a).2 := by
  have hn : ∀ tn ow, Nx a (newA a tn ow) := fun tn ow => ⟨⟨⟨fun q => absurd q (by show ¬ aNb a + 1 = 0; omega), fun c i hi _ _ _ => absurd hi (Nat.not_lt_zero i)⟩, fun q => by show 0 < aNb a + 1; omega⟩, Nat.le_refl _⟩
  unfold fBook
  split
  · exact Nx.rf h
  · split
    · exact hn _ _
    · exact Nx.rf h
theorem nx_ship {a : AT} {x y : Int32} (h : AI a) (hO : AOK a) : Nx a (fShip a x y).2 := by
  unfold fShip
  split
  · split
    · split
      · rename_i hb
        split
        · exact Nx.rf h
        · refine ⟨⟨⟨fun q => absurd (show aNb a = 0 from q) (by omega), fun c i hi he h0 ht => ?_⟩, h.2⟩, Nat.le_succ _⟩
          have hi : i < sN (aS a) + 1 := hi
          have he : up1 (sC (aS a)) (sN (aS a)) 0 i = c := he
          have ht : (sS (aS a)).testBit (c - 1) = true := ht
          show anyC _ c (sN (aS a) + 1) = true
          by_cases e : i = sN (aS a)
          · subst e
            rw [up1_eq] at he
            exact absurd he.symm h0
          · rw [up1_ne e] at he
            obtain ⟨k, k1, k2, k3⟩ := (anyC_iff _).mp (h.1.2 c i (by omega) he h0 ht)
            refine (anyC_iff _).mpr ⟨k, by omega, ?_, ?_⟩
            · show up1 (sC (aS a)) (sN (aS a)) 0 k = c
              rw [up1_ne (by omega)]; exact k2
            · show up1 (sK (aS a)) (sN (aS a)) _ k ≠ 4
              rw [up1_ne (by omega)]; exact k3
      · exact Nx.rf h
    · exact Nx.rf h
  · exact Nx.rf h
theorem nx_rep {a : AT} {i c' : Nat} (h : AI a) (hO : AOK a) (hi : i < sN (aS a)) (hc6 : c' ≤ 6) (hno : c' ≠ 0 → (sS (aS a)).testBit (c' - 1) = false) : Nx a (setA a (repC (aS a) i c')) := by
  rw [repC_ref h.1 hi]
  obtain ⟨o1, o2, o3, o4, o5, ⟨s1, s2, s3, s4⟩, oK, o8, o9, o10⟩ := id hO
  refine ⟨⟨⟨fun q => absurd ((h.1.1 q).1) (by omega), fun c j hj he h0 ht => ?_⟩, h.2⟩, Nat.le_succ _⟩
  have hj : j < sN (aS a) := hj
  have he : up1 (sC (aS a)) i c' j = c := he
  have ht : (refS (aS a) i c').testBit (c - 1) = true := ht
  show anyC (wS (wC (aS a) i c') _) c (sN (aS a)) = true
  have hjc := (s4 j (by omega)).2.2
  have hbc := (s4 i (by omega)).2.2
  have hc7 : c ≤ 6 := by
    by_cases e : j = i
    · subst e; rw [up1_eq] at he; omega
    · rw [up1_ne e] at he; omega
  have me : sK (aS a) i ≠ 4 → c = c' → anyC (wS (wC (aS a) i c') (refS (aS a) i c')) c (sN (aS a)) = true := fun k4 e => (anyC_iff _).mpr ⟨i, hi, by show up1 (sC (aS a)) i c' i = c; rw [up1_eq, e], k4⟩
  have hr1 : (refS1 (aS a) i).testBit (c - 1) = true → (sS (aS a)).testBit (c - 1) = true ∧ (sC (aS a) i ≠ 0 ∧ sK (aS a) i ≠ 4 ∧ anyC (wC (aS a) i 0) (sC (aS a) i) (sN (aS a)) = false → c ≠ sC (aS a) i) := fun q => by
    unfold refS1 at q
    split at q
    · rename_i hh
      rw [tb_clr _ s2 (sC (aS a) i - 1) (by omega) (c - 1) (by omega), Bool.and_eq_true, bne_iff_ne] at q
      exact ⟨q.1, fun _ e => q.2 (by rw [e])⟩
    · rename_i hh
      exact ⟨q, fun z => absurd z hh⟩
  rw [refS_eq] at ht
  have hcase : (sK (aS a) i ≠ 4 ∧ c = c') ∨ (refS1 (aS a) i).testBit (c - 1) = true := by
    by_cases hh : c' ≠ 0 ∧ sK (aS a) i ≠ 4
    · rw [if_pos hh] at ht
      rcases tb_or _ (refS1_lt s2 hbc) (c' - 1) (by omega) (c - 1) (by omega) ht with q | q
      · exact Or.inr q
      · exact Or.inl ⟨hh.2, by omega⟩
    · rw [if_neg hh] at ht
      exact Or.inr ht
  rcases hcase with hq | hq
  · exact me hq.1 hq.2
  · obtain ⟨t1, t2⟩ := hr1 hq
    by_cases e : j = i
    · subst e
      rw [up1_eq] at he
      subst he
      rw [hno h0] at t1
      exact absurd t1 (by decide)
    · rw [up1_ne e] at he
      obtain ⟨k, k1, k2, k3⟩ := (anyC_iff _).mp (h.1.2 c j hj he h0 t1)
      by_cases ek : k = i
      · subst ek
        have hb0 : sC (aS a) k ≠ 0 := by rw [k2]; exact h0
        cases hany : anyC (wC (aS a) k 0) (sC (aS a) k) (sN (aS a)) with
        | false => exact absurd k2.symm (t2 ⟨hb0, k3, hany⟩)
        | true =>
          obtain ⟨z, z1, z2, z3⟩ := (anyC_iff _).mp hany
          have z2 : up1 (sC (aS a)) k 0 z = sC (aS a) k := z2
          have ez : z ≠ k := fun q => by subst q; rw [up1_eq] at z2; exact hb0 z2.symm
          rw [up1_ne ez] at z2
          exact (anyC_iff _).mpr ⟨z, z1, by show up1 (sC (aS a)) k c' z = c; rw [up1_ne ez, z2, k2], z3⟩
      · exact (anyC_iff _).mpr ⟨k, k1, by show up1 (sC (aS a)) i c' k = c; rw [up1_ne ek]; exact k2, k3⟩
theorem nx_call {a : AT} {x y : Int32} (h : AI a) (hO : AOK a) : Nx a (fCall a x y).2 := by
  unfold fCall
  split
  · rename_i hc
    split
    · exact Nx.rf h
    · rename_i hn
      rw [Bool.and_eq_true] at hc
      obtain ⟨i, hi, rfl⟩ := inN_of (by have := hO.2.2.2.2.2.1.1; omega) hc.1
      have h6 := hO.2.2.2.2.2.1.1
      show Nx a (setA a (repC (aS a) (nn (nI i)) (cCode y)))
      rw [nn_nI (by omega)]
      by_cases e : y = -1
      · have e0 : cCode y = 0 := if_pos e
        rw [e0]
        exact nx_rep h hO hi (by omega) (fun q => absurd rfl q)
      · have hy : inN y 6 = true := by
          have q := hc.2
          rw [decide_eq_false e] at q
          exact q
        obtain ⟨n, hn6, rfl⟩ := inN_of (by decide) hy
        have e0 : cCode (nI n) = n + 1 := by unfold cCode; rw [if_neg e, nn_nI (by omega)]
        rw [e0]
        refine nx_rep h hO hi (by omega) (fun _ => ?_)
        show (sS (aS a)).testBit n = false
        cases hb : (sS (aS a)).testBit n with
        | false => rfl
        | true => exact absurd (Or.inr ⟨e, by rw [nn_nI (by omega)]; exact hb⟩) hn
  · exact Nx.rf h
theorem nx_blow {a : AT} {x : Int32} (h : AI a) : Nx a (fBlow a x).2 := by
  unfold fBlow
  split
  · split
    · obtain ⟨d1, d2, d3, d4, d5⟩ := dayT_f (ow := aOw a) (w := nn x) (σ := aS a)
      refine Nx.none h rfl (fun q => ⟨?_, (h.1.1 q).2⟩) rfl (fun i hi => ?_)
      · show sN (dayT _ _ _) = 0
        rw [d1]; exact (h.1.1 q).1
      · have hi : i < sN (dayT (aOw a) (nn x) (aS a)) := hi
        rw [d1] at hi
        show sC (dayT _ _ _) i = 0
        rw [d5, if_pos hi]
    · exact Nx.rf h
  · exact Nx.rf h
theorem nx_moon {a : AT} (h : AI a) : Nx a (fMoon a).2 := ⟨⟨⟨h.1.1, fun c i hi he h0 ht => by
  have ht : (0 : Nat).testBit (c - 1) = true := ht
  rw [Nat.zero_testBit] at ht
  exact absurd ht (by decide)⟩, h.2⟩, Nat.le_succ _⟩
theorem nx_wake {a : AT} {x y : Int32} (h : AI a) : Nx a (fWake a x y).2 := by
  unfold fWake
  split
  · rename_i hc
    rw [Bool.and_eq_true] at hc
    refine ⟨⟨⟨fun q => ?_, h.1.2⟩, h.2⟩, Nat.le_succ _⟩
    have e0 := (h.1.1 q).1
    rw [e0] at hc
    have := of_decide_eq_true hc.1
    omega
  · exact Nx.rf h
theorem nx_then {a : AT} {x : Int32} (h : AI a) : Nx a (fThen a x).2 := by
  unfold fThen
  split
  · rename_i hb
    split
    · split
      · exact Nx.rf h
      · refine ⟨⟨⟨fun q => ?_, h.1.2⟩, h.2⟩, Nat.le_succ _⟩
        have e0 := (h.1.1 q).2
        rw [e0] at hb
        exact absurd hb (by decide)
    · exact Nx.rf h
  · exact Nx.rf h
theorem nx_image {a : AT} (h : AI a) : Nx a (fImage a).2 := by
  unfold fImage
  split
  · rename_i hb
    exact ⟨⟨⟨h.1.1, h.1.2⟩, fun _ => hb⟩, Nat.le_succ _⟩
  · exact Nx.rf h
theorem nx_restore {a : AT} (h : AI a) : Nx a (fRestore a).2 := by
  unfold fRestore
  split
  · rename_i hb
    exact Nx.none h rfl (fun q => absurd q (by have := h.2 hb; omega)) rfl (fun i hi => rfl)
  · exact Nx.rf h
theorem RM.C {μ μ' : Mm} {a : AT} (h : RM μ a) (hf : FrC μ μ') : RM μ' a := h.kept (fun j _ => by rw [hf.1 65 (by omega)]) (fun k hk => hf.1 k (by omega))
