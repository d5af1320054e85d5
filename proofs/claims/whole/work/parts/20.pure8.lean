
/-! ===== arrays copied ===== -/
def cpyI (μ : Mm) (k1 k0 n : Nat) : Mm := (fun a b => if a = k1 ∧ b < n then μ.1 k0 b else μ.1 a b, μ.2)
theorem cpyI_ne {μ : Mm} {k1 k0 n a : Nat} (h : a ≠ k1) : (cpyI μ k1 k0 n).1 a = μ.1 a := by
  funext b
  show (if a = k1 ∧ b < n then μ.1 k0 b else μ.1 a b) = _
  rw [if_neg (fun q => h q.1)]
set_option maxRecDepth 100000 in
theorem acopyW : Cond.methodLink RX4 48 arraycopyName ∈ wsL_law ∧ Cond.native arraycopyName ∈ wsL_law ∧ Cond.static arraycopyName ∈ wsL_law ∧ Cond.initialized "java/lang/System" ∈ wsL_law := ⟨(List.mem_of_getElem? (i := 672) rfl), (List.mem_of_getElem? (i := 673) rfl), (List.mem_of_getElem? (i := 674) rfl), (List.mem_of_getElem? (i := 675) rfl)⟩
theorem V_acopy {l : Launch} {g : GW} {own : String} {cc : ByteArray} {nL : Nat} {rt : Option FieldType} {d pc : Nat} {lv st : List Value} {μ : Mm} {Q : Option Value → Mm → Prop} {idx k0 k1 n : Nat} {x y z : Int32} (dg : decode cc pc = .ok (.invokestatic idx, 3)) (hw : Cond.methodLink own idx arraycopyName ∈ wsL_law ∧ Cond.native arraycopyName ∈ wsL_law ∧ Cond.static arraycopyName ∈ wsL_law ∧ Cond.initialized "java/lang/System" ∈ wsL_law) (h0 : k0 < 88) (h1 : k1 < 88) (t0 : kt k0 = 10) (t1 : kt k1 = 10) (hx : x = 0) (hy : y = 0) (hz : z = nI n) (n0 : n ≤ kn k0) (n1 : n ≤ kn k1) (hd : 1 ≤ d) (hst : st = []) (K : V l g own cc nL rt d (pc + 3) lv st (cpyI μ k1 k0 n) Q) : V l g own cc nL rt d pc lv (.int z :: .int y :: .ref k1 :: .int x :: .ref k0 :: st) μ Q := by
  intro p e s m args below meth c C H locs ls hP hS hl
  obtain ⟨hx9, hb, hr0, hml, hown, hlk, hts, hO⟩ := id C
  subst hx; subst hy; subst hz; subst hst
  have hl0 := kn_lt k0
  have e0 := Wd_at g μ h0
  rw [cellE_10 t0] at e0
  have e1 := Wd_at g μ h1
  rw [cellE_10 t1] at e1
  have c0 : (0 : Int32).toNatClampNeg = 0 := by decide
  have cn : (nI n).toNatClampNeg = n := nI_clamp (by omega)
  refine va_copyi (D := g.1) (cl := vwCl) (tys := tysW g) hx9 hb (hml.trans hl.1.symm) hown (hts _ hw.1) (hts _ hw.2.1) (hts _ hw.2.2.1) (hts _ hw.2.2.2) hO.1 hP (hO.D μ) hS k0 k1 0 0 (ty := .int) e0 e1 rfl rfl rfl (by decide) (by decide) (nI_pos (by omega)) (by rw [c0, cn]; omega) (by rw [c0, cn]; omega) (fun i hi => rfl) hd (by show _ ≤ 48 * d; exact Nat.le_trans (show 0 + (nativeFrameWords "java/lang/System" "arraycopy" 5 + 11) ≤ 48 * 1 by decide +kernel) (Nat.mul_le_mul_left 48 hd)) dg (fun H1 locs1 p1 _ s1 => ?_)
  rw [c0, cn, Wd_set (μ' := cpyI μ k1 k0 n) ?_ (fun a _ hn => ?_)] at p1
  · exact K p e s m args below meth c C H1 locs1 ls p1 s1 hl
  · show cellE g μ.2.2 k1 ((cpyI μ k1 k0 n).1 k1) (μ.2.1 k1) = _
    rw [cellE_10 t1]
    refine congrArg (fun f => Sum.inl (g.2.1 0, kn k1, Sum.inl f)) (funext fun b => ?_)
    show (if k1 = k1 ∧ b < n then μ.1 k0 b else μ.1 k1 b) = va_cpy (μ.1 k0) (μ.1 k1) 0 0 n b
    unfold va_cpy
    by_cases h : b < n
    · rw [if_pos ⟨rfl, h⟩, if_pos ⟨Nat.zero_le _, by omega⟩, show 0 + (b - 0) = b by omega]
    · rw [if_neg (fun q => h q.2), if_neg (fun q => h (by omega))]
  · show cellE g μ.2.2 a ((cpyI μ k1 k0 n).1 a) (μ.2.1 a) = _
    rw [cpyI_ne hn]
/-! ===== days ===== -/
def msk (b : Bool) (w : Nat) : Int32 := if b then (1 : Int32) <<< (nI w &&& 31) else ((1 : Int32) <<< (nI w &&& 31)) ^^^ (-1)
/-- ship i's answer to a wind -/
def ansT (ow : Nat → Nat) (w i : Nat) (σ : SeaT) : SeaT :=
  let b := fav ow (sC σ i) w
  let σ1 := wShip σ i (sK σ i) (sP σ i) (sC σ i) (if b then sV σ i + 1 else sV σ i) (if b then sT σ i else sT σ i + 1)
  if sA σ < 40 then mkSea (sN σ1) (sK σ1) (sP σ1) (sC σ1) (sV σ1) (sT σ1) (sS σ1) (sD σ1) (sA σ + 1) (up1 (sG σ) (sC σ i - 1) (sG σ (sC σ i - 1) &&& msk b w)) else σ1
def pdT (ow : Nat → Nat) (w : Nat) (σ : SeaT) : Nat → SeaT
  | 0 => σ
  | i + 1 =>
    let σ1 := pdT ow w σ i
    let σ2 := if sC σ1 i ≠ 0 ∧ w ≠ 4 then ansT ow w i σ1 else σ1
    wShip σ2 i (sK σ2 i) (aft ow (sK σ2 i) (sP σ2 i) (sC σ2 i) w) 0 (sV σ2 i) (sT σ2 i)
def dayT (ow : Nat → Nat) (w : Nat) (σ : SeaT) : SeaT := wD (pdT ow w σ (sN σ)) (sD (pdT ow w σ (sN σ)) + 1)
theorem ansT_N (ow : Nat → Nat) (w i : Nat) (σ : SeaT) : sN (ansT ow w i σ) = sN σ := by unfold ansT; simp only; split <;> rfl
theorem pdT_N (ow : Nat → Nat) (w : Nat) (σ : SeaT) : ∀ i, sN (pdT ow w σ i) = sN σ
  | 0 => rfl
  | i + 1 => by
    simp only [pdT]
    show sN (if _ then _ else _) = _
    split
    · rw [ansT_N]; exact pdT_N ow w σ i
    · exact pdT_N ow w σ i
def yrS (σ : SeaT) (seed : Nat) : Nat → SeaT × Nat
  | 0 => (σ, seed)
  | i + 1 =>
    let q := yrS σ seed i
    if sP q.1 i = 9 then q else
      let x := nxS q.2
      let n := x / 65536 % 7
      (begC q.1 i (if n = 6 ∨ (sS q.1).testBit n = true then 0 else n + 1), x)
def yrT (tn : Nat → Nat → Nat) (ow : Nat → Nat) (σ : SeaT) (seed : Nat) : Nat → SeaT × Nat
  | 0 => (σ, seed)
  | d + 1 =>
    let q := yrT tn ow σ seed d
    let x := nxS q.2
    let q2 := yrS q.1 x (sN q.1)
    let y := nxS q2.2
    (dayT ow (widT tn (x / 65536 % 3) (y / 65536 % 10)) q2.1, y)
theorem begC_N (σ : SeaT) (i c : Nat) : sN (begC σ i c) = sN σ := by unfold begC; split <;> rfl
theorem yrS_N (σ : SeaT) (seed : Nat) : ∀ i, sN (yrS σ seed i).1 = sN σ
  | 0 => rfl
  | i + 1 => by
    simp only [yrS]
    split
    · exact yrS_N σ seed i
    · rw [begC_N]; exact yrS_N σ seed i
/-- a wind's answer is kept -/
theorem SeaR.ans {μ μ' : Mm} {s n a : Nat} {x : Int32} {σ : SeaT} (h : SeaR μ s σ) (hn : n < 6) (ha : a ≤ 40) (hf : ∀ k j, ¬ (k = s ∧ j = 5) → ¬ (k = s + 8 ∧ j = n) → μ'.1 k j = μ.1 k j) (e5 : μ'.1 s 5 = nI a) (e8 : μ'.1 (s + 8) n = x) : SeaR μ' s (mkSea (sN σ) (sK σ) (sP σ) (sC σ) (sV σ) (sT σ) (sS σ) (sD σ) a (up1 (sG σ) n x)) := by
  obtain ⟨h1, h2, h3, h4, h5, h6, h7, h8, h9⟩ := h
  refine ⟨by rw [hf s 2 (by omega) (by omega)]; exact h1, h2, by rw [hf s 3 (by omega) (by omega)]; exact h3, h4, by rw [hf s 4 (by omega) (by omega)]; exact h5, e5, ha, fun j hj => (h8 j hj).kept (fun q => hf _ _ (by omega) (by omega)), fun m hm => ?_⟩
  by_cases e : m = n
  · subst e
    show _ = up1 _ m x m
    rw [up1_eq]; exact e8
  · show _ = up1 _ n x m
    rw [up1_ne e, hf _ _ (by omega) (fun q => e q.2)]
    exact h9 m hm
