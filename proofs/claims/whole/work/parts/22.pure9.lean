
theorem msk_t (w : Nat) : (1 : Int32) <<< (nI w &&& 31) = msk true w := rfl
theorem msk_f (w : Nat) : ((1 : Int32) <<< (nI w &&& 31)) ^^^ (-1) = msk false w := rfl
theorem SeaR.ext {μ : Mm} {s : Nat} {σ σ' : SeaT} (h : SeaR μ s σ) (e : σ = σ') : SeaR μ s σ' := e ▸ h
theorem SeaR.sv {μ : Mm} {s i : Nat} {x : Int32} {σ : SeaT} (h : SeaR μ s σ) (hi : i < 6) : SeaR (setI μ (s + 1 + 1 + i) 3 x) s (wShip σ i (sK σ i) (sP σ i) (sC σ i) x (sT σ i)) := by
  obtain ⟨z1, z2, z3, z4, z5, z6, z7, z8⟩ := h.2.2.2.2.2.2.2.1 i hi
  refine h.ship hi ⟨?_, z2, ?_, z4, ?_, z6, get_eq, ?_⟩ (fun k hk => by show up2 _ _ _ _ _ = _; rw [up2_ne hk])
  · rw [get_ne (by omega)]; exact z1
  · rw [get_ne (by omega)]; exact z3
  · rw [get_ne (by omega)]; exact z5
  · rw [get_ne (by omega)]; exact z8
theorem SeaR.st {μ : Mm} {s i : Nat} {x : Int32} {σ : SeaT} (h : SeaR μ s σ) (hi : i < 6) : SeaR (setI μ (s + 1 + 1 + i) 4 x) s (wShip σ i (sK σ i) (sP σ i) (sC σ i) (sV σ i) x) := by
  obtain ⟨z1, z2, z3, z4, z5, z6, z7, z8⟩ := h.2.2.2.2.2.2.2.1 i hi
  refine h.ship hi ⟨?_, z2, ?_, z4, ?_, z6, ?_, get_eq⟩ (fun k hk => by show up2 _ _ _ _ _ = _; rw [up2_ne hk])
  · rw [get_ne (by omega)]; exact z1
  · rw [get_ne (by omega)]; exact z3
  · rw [get_ne (by omega)]; exact z5
  · rw [get_ne (by omega)]; exact z7
theorem SeaR.sp {μ : Mm} {s i p : Nat} {x : Int32} {σ : SeaT} (h : SeaR μ s σ) (hi : i < 6) (hp : p ≤ 9) (hx : x = nI p) : SeaR (setI μ (s + 1 + 1 + i) 1 x) s (wShip σ i (sK σ i) p (sC σ i) (sV σ i) (sT σ i)) := by
  subst hx
  obtain ⟨z1, z2, z3, z4, z5, z6, z7, z8⟩ := h.2.2.2.2.2.2.2.1 i hi
  refine h.ship hi ⟨?_, z2, get_eq, hp, ?_, z6, ?_, ?_⟩ (fun k hk => by show up2 _ _ _ _ _ = _; rw [up2_ne hk])
  · rw [get_ne (by omega)]; exact z1
  · rw [get_ne (by omega)]; exact z5
  · rw [get_ne (by omega)]; exact z7
  · rw [get_ne (by omega)]; exact z8
theorem up1_up1 {α : Type} (f : Nat → α) (i : Nat) (v w : α) : up1 (up1 f i v) i w = up1 f i w := by
  funext j
  unfold up1
  split <;> rfl
theorem up1_id {α : Type} (f : Nat → α) (i : Nat) : up1 f i (f i) = f := by
  funext j
  unfold up1
  split <;> simp_all
theorem up1_up1' {α : Type} (f : Nat → α) (i : Nat) (v : α) : up1 (up1 f i v) i (up1 f i v i) = up1 f i v := up1_id _ _
