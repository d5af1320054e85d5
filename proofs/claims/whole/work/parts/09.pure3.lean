
/-! ===== what changes a sea ===== -/
theorem nI_small {a : Nat} (h : a ≤ 6) : a < 2 ^ 31 := by omega
theorem ShR.kept {μ μ' : Mm} {z κ p c : Nat} {v t : Int32} (h : ShR μ z κ p c v t) (e : ∀ j, μ'.1 z j = μ.1 z j) : ShR μ' z κ p c v t := by
  obtain ⟨h1, h2, h3, h4, h5, h6, h7, h8⟩ := h
  exact ⟨by rw [e]; exact h1, h2, by rw [e]; exact h3, h4, by rw [e]; exact h5, h6, by rw [e]; exact h7, by rw [e]; exact h8⟩
def up1 {α : Type} (f : Nat → α) (k : Nat) (v : α) : Nat → α := fun j => if j = k then v else f j
theorem up1_eq {α : Type} {f : Nat → α} {k : Nat} {v : α} : up1 f k v k = v := if_pos rfl
theorem up1_ne {α : Type} {f : Nat → α} {k j : Nat} {v : α} (h : j ≠ k) : up1 f k v j = f j := if_neg h
def mkSea (n : Nat) (κ p c : Nat → Nat) (v t : Nat → Int32) (S : Nat) (d : Int32) (a : Nat) (g : Nat → Int32) : SeaT := (n, κ, p, c, v, t, S, d, a, g)
/-- ship i calls c -/
def wC (σ : SeaT) (i c : Nat) : SeaT := mkSea (sN σ) (sK σ) (sP σ) (up1 (sC σ) i c) (sV σ) (sT σ) (sS σ) (sD σ) (sA σ) (sG σ)
def wS (σ : SeaT) (S : Nat) : SeaT := mkSea (sN σ) (sK σ) (sP σ) (sC σ) (sV σ) (sT σ) S (sD σ) (sA σ) (sG σ)
def wN (σ : SeaT) (n : Nat) : SeaT := mkSea n (sK σ) (sP σ) (sC σ) (sV σ) (sT σ) (sS σ) (sD σ) (sA σ) (sG σ)
def wD (σ : SeaT) (d : Int32) : SeaT := mkSea (sN σ) (sK σ) (sP σ) (sC σ) (sV σ) (sT σ) (sS σ) d (sA σ) (sG σ)
def wShip (σ : SeaT) (i κ p c : Nat) (v t : Int32) : SeaT := mkSea (sN σ) (up1 (sK σ) i κ) (up1 (sP σ) i p) (up1 (sC σ) i c) (up1 (sV σ) i v) (up1 (sT σ) i t) (sS σ) (sD σ) (sA σ) (sG σ)
/-- a ship's cell has changed, no other -/
theorem SeaR.ship {μ μ' : Mm} {s i κ p c : Nat} {v t : Int32} {σ : SeaT} (h : SeaR μ s σ) (hi : i < 6) (hz : ShR μ' (s + 1 + 1 + i) κ p c v t) (hf : ∀ k, k ≠ s + 1 + 1 + i → μ'.1 k = μ.1 k) : SeaR μ' s (wShip σ i κ p c v t) := by
  obtain ⟨h1, h2, h3, h4, h5, h6, h7, h8, h9⟩ := h
  have e0 := hf s (by omega)
  refine ⟨by rw [e0]; exact h1, h2, by rw [e0]; exact h3, h4, by rw [e0]; exact h5, by rw [e0]; exact h6, h7, fun j hj => ?_, fun n hn => ?_⟩
  · by_cases e : j = i
    · subst e
      show ShR μ' _ (up1 _ j _ j) (up1 _ j _ j) (up1 _ j _ j) (up1 _ j _ j) (up1 _ j _ j)
      rw [up1_eq, up1_eq, up1_eq, up1_eq, up1_eq]
      exact hz
    · show ShR μ' _ (up1 _ i _ j) (up1 _ i _ j) (up1 _ i _ j) (up1 _ i _ j) (up1 _ i _ j)
      rw [up1_ne e, up1_ne e, up1_ne e, up1_ne e, up1_ne e]
      exact (h8 j hj).kept (fun q => by rw [hf _ (by omega)])
  · rw [hf (s + 8) (by omega)]
    exact h9 n hn
theorem wShip_C (σ : SeaT) (i c : Nat) : wShip σ i (sK σ i) (sP σ i) c (sV σ i) (sT σ i) = wC σ i c := by
  have e : ∀ {α : Type} (f : Nat → α), up1 f i (f i) = f := fun f => by funext j; unfold up1; split <;> simp_all
  unfold wShip wC
  rw [e, e, e, e]
theorem SeaR.setC {μ : Mm} {s i c : Nat} {x : Int32} {σ : SeaT} (h : SeaR μ s σ) (hi : i < 6) (hc : c ≤ 6) (hx : x = cI c) : SeaR (setI μ (s + 1 + 1 + i) 2 x) s (wC σ i c) := by
  subst hx
  rw [← wShip_C]
  obtain ⟨z1, z2, z3, z4, z5, z6, z7, z8⟩ := h.2.2.2.2.2.2.2.1 i hi
  refine h.ship hi ⟨?_, z2, ?_, z4, get_eq, hc, ?_, ?_⟩ (fun k hk => by show up2 _ _ _ _ _ = _; rw [up2_ne hk])
  · rw [get_ne (by omega)]; exact z1
  · rw [get_ne (by omega)]; exact z3
  · rw [get_ne (by omega)]; exact z7
  · rw [get_ne (by omega)]; exact z8
theorem SeaR.head {μ μ' : Mm} {s : Nat} {σ : SeaT} (h : SeaR μ s σ) (hf : ∀ k, k ≠ s → μ'.1 k = μ.1 k) {n S a : Nat} {d : Int32} (e2 : μ'.1 s 2 = nI n) (hn : n ≤ 6) (e3 : μ'.1 s 3 = nI S) (hS : S < 64) (e4 : μ'.1 s 4 = d) (e5 : μ'.1 s 5 = nI a) (ha : a ≤ 40) : SeaR μ' s (mkSea n (sK σ) (sP σ) (sC σ) (sV σ) (sT σ) S d a (sG σ)) := by
  obtain ⟨h1, h2, h3, h4, h5, h6, h7, h8, h9⟩ := h
  refine ⟨e2, hn, e3, hS, e4, e5, ha, fun j hj => (h8 j hj).kept (fun q => by rw [hf _ (by omega)]), fun n hn => ?_⟩
  rw [hf (s + 8) (by omega)]
  exact h9 n hn
theorem SeaR.setS {μ : Mm} {s S : Nat} {x : Int32} {σ : SeaT} (h : SeaR μ s σ) (hS : S < 64) (hx : x = nI S) : SeaR (setI μ s 3 x) s (wS σ S) := by
  obtain ⟨h1, h2, h3, h4, h5, h6, h7, h8, h9⟩ := id h
  exact h.head (fun k hk => by show up2 _ _ _ _ _ = _; rw [up2_ne hk]) (by rw [get_ne (by omega)]; exact h1) h2 (by rw [get_eq, hx]) hS (by rw [get_ne (by omega)]; exact h5) (by rw [get_ne (by omega)]; exact h6) h7
theorem SeaR.setN {μ : Mm} {s n : Nat} {x : Int32} {σ : SeaT} (h : SeaR μ s σ) (hn : n ≤ 6) (hx : x = nI n) : SeaR (setI μ s 2 x) s (wN σ n) := by
  obtain ⟨h1, h2, h3, h4, h5, h6, h7, h8, h9⟩ := id h
  exact h.head (fun k hk => by show up2 _ _ _ _ _ = _; rw [up2_ne hk]) (by rw [get_eq, hx]) hn (by rw [get_ne (by omega)]; exact h3) h4 (by rw [get_ne (by omega)]; exact h5) (by rw [get_ne (by omega)]; exact h6) h7
theorem SeaR.setD {μ : Mm} {s : Nat} {x : Int32} {σ : SeaT} (h : SeaR μ s σ) : SeaR (setI μ s 4 x) s (wD σ x) := by
  obtain ⟨h1, h2, h3, h4, h5, h6, h7, h8, h9⟩ := id h
  exact h.head (fun k hk => by show up2 _ _ _ _ _ = _; rw [up2_ne hk]) (by rw [get_ne (by omega)]; exact h1) h2 (by rw [get_ne (by omega)]; exact h3) h4 get_eq (by rw [get_ne (by omega)]; exact h6) h7
/-- ship i calls c (name + 1, or none), and spends it -/
def begC (σ : SeaT) (i c : Nat) : SeaT := if c ≠ 0 ∧ sK σ i ≠ 4 then wS (wC σ i c) (sS σ ||| 2 ^ (c - 1)) else wC σ i c
def repC (σ : SeaT) (i c : Nat) : SeaT :=
  let b := sC σ i
  let σ1 := wC σ i 0
  let σ2 := if b ≠ 0 ∧ anyC σ1 b (sN σ1) = false then wS σ1 (clr (sS σ1) (b - 1)) else σ1
  begC σ2 i c
