
/-! ===== the calls that change a sea ===== -/
def setP (a : AT) (n : Nat) (cd : Nat → Nat) : AT := ((n, cd), a.2)
def setA (a : AT) (σ : SeaT) : AT := (a.1, a.2.1, σ, a.2.2.2)
def setW (a : AT) (bg : Bool) (κ n : Nat) (pl : Nat → Nat) : AT := (a.1, a.2.1, a.2.2.1, a.2.2.2.1, (bg, κ, n, pl))
def setK (a : AT) (kf : Bool) (ks : SeaT) : AT := (a.1, a.2.1, a.2.2.1, (kf, ks), a.2.2.2.2)
def cal0 (σ : SeaT) : SeaT := mkSea (sN σ) (sK σ) (sP σ) (fun _ => 0) (sV σ) (sT σ) (sS σ) (sD σ) (sA σ) (sG σ)
theorem RC.parts {S : Nat → Prop} {μ μ' : Mm} {a a' : AT} (h : RC μ a) (hf : FrM S μ μ') (h0 : ¬ S 0) (hb : ∀ k, 49 ≤ k → k ≤ 64 → ¬ S k) (h22 : ∀ k, 22 ≤ k → k ≤ 30 → ¬ S k) (e1 : a'.2.1 = a.2.1) (e2 : aKf a' = aKf a) (c1 : PgR μ' (aPn a') (aPc a')) (c2 : SeaR μ' 4 (aS a')) (c3 : SeaR μ' 13 (aKs a')) (c4 : WkR μ' (aWb a') (aWk a') (aWn a') (aWp a')) : RC μ' a' := by
  obtain ⟨a1, a2, a3, a4, ⟨b, hb1, hcur, hdrf, hB⟩, hA, hK, ⟨τ, hD⟩, hW⟩ := h
  have q1 : aNb a' = aNb a := congrArg (fun z => z.1) e1
  have q2 : aTn a' = aTn a := congrArg (fun z => z.2.1) e1
  have q3 : aOw a' = aOw a := congrArg (fun z => z.2.2) e1
  exact ⟨c1, by rw [hf.1 0 h0, q1]; exact a2, by rw [q1]; exact a3, by rw [hf.1 0 h0, e2]; exact a4, ⟨b, hb1, by rw [hf.2]; exact hcur, by rw [hf.2]; exact hdrf, by rw [q2, q3]; exact hB.kept hf (fun k h1 h2 => hb k (by omega) (by omega))⟩, c2, c3, ⟨τ, hD.kept hf (fun k hk => h22 k (by rcases hk with z | z <;> omega) (by rcases hk with z | z <;> omega))⟩, c4⟩
theorem RC.page {μ μ' : Mm} {a : AT} {n : Nat} {cd : Nat → Nat} (h : RC μ a) (hf : FrM (fun k => k = 1 ∨ k = 2) μ μ') (hp : PgR μ' n cd) : RC μ' (setP a n cd) := by
  have hh := h
  obtain ⟨a1, a2, a3, a4, -, hA, hK, hD, hW⟩ := hh
  exact h.parts (a' := setP a n cd) hf (fun q => by omega) (fun k h1 h2 q => by omega) (fun k h1 h2 q => by omega) rfl rfl hp (hA.kept hf (fun k hk q => by rcases hk with z | z <;> omega)) (hK.kept hf (fun k hk q => by rcases hk with z | z <;> omega)) (hW.kept hf (fun q => by omega) (fun q => by omega))
theorem RC.sea {μ μ' : Mm} {a : AT} {σ : SeaT} (h : RC μ a) (hf : FrM (seaS 4) μ μ') (hp : SeaR μ' 4 σ) : RC μ' (setA a σ) := by
  have hh := h
  obtain ⟨a1, a2, a3, a4, -, hA, hK, hD, hW⟩ := hh
  have n : ∀ k, k < 4 ∨ 12 < k → ¬ seaS 4 k := fun k hk q => by rcases q with z | z <;> omega
  exact h.parts (a' := setA a σ) hf (n 0 (by omega)) (fun k h1 h2 => n k (by omega)) (fun k h1 h2 => n k (by omega)) rfl rfl (a1.kept hf (n 1 (by omega)) (n 2 (by omega))) hp (hK.kept hf (fun k hk => n k (by rcases hk with z | z <;> omega))) (hW.kept hf (n 31 (by omega)) (n 32 (by omega)))
theorem RC.wk {μ μ' : Mm} {a : AT} {bg : Bool} {κ m : Nat} {pl : Nat → Nat} (h : RC μ a) (hf : FrM (fun k => k = 31 ∨ k = 32) μ μ') (hp : WkR μ' bg κ m pl) : RC μ' (setW a bg κ m pl) := by
  have hh := h
  obtain ⟨a1, a2, a3, a4, -, hA, hK, hD, hW⟩ := hh
  exact h.parts (a' := setW a bg κ m pl) hf (fun q => by omega) (fun k h1 h2 q => by omega) (fun k h1 h2 q => by omega) rfl rfl (a1.kept hf (fun q => by omega) (fun q => by omega)) (hA.kept hf (fun k hk q => by rcases hk with z | z <;> omega)) (hK.kept hf (fun k hk q => by rcases hk with z | z <;> omega)) hp
theorem seaC {s : Nat} (h : s = 4 ∨ s = 13 ∨ s = 22) : ∀ k, seaS s k → k < 65 := fun k hk => by rcases hk with z | z <;> omega
def fLetters (a : AT) (w : Int64) : Int32 × AT := if leK w = 0 then (-102, a) else if 30 < aPn a + (leK w - 1) then (-104, a) else (nI (aPn a + (leK w - 1)), setP a (aPn a + (leK w - 1)) (pgW (aPn a) (leK w - 1) w (aPc a)))
def fShip (a : AT) (x y : Int32) : Int32 × AT := if inN y 10 then (if inN x 5 then (if 0 < aNb a then (if sN (aS a) = 6 then (-104, a) else (nI (sN (aS a)), setA a (wN (wShip (aS a) (sN (aS a)) (nn x) (nn y) 0 0 0) (sN (aS a) + 1)))) else (-103, a)) else (-102, a)) else (-101, a)
def cCode (y : Int32) : Nat := if y = -1 then 0 else nn y + 1
def fCall (a : AT) (x y : Int32) : Int32 × AT := if inN x (sN (aS a)) && (decide (y = -1) || inN y 6) then (if sP (aS a) (nn x) = 9 ∨ (y ≠ -1 ∧ (sS (aS a)).testBit (nn y) = true) then (-103, a) else (cI (sC (aS a) (nn x)), setA a (repC (aS a) (nn x) (cCode y)))) else (-101, a)
def fBlow (a : AT) (x : Int32) : Int32 × AT := if inN x 5 then (if 0 < aNb a then (let σ := dayT (aOw a) (nn x) (aS a); (nI (homeT (sP σ) (sN σ)), setA a σ)) else (-103, a)) else (-101, a)
def fMoon (a : AT) : Int32 × AT := (nI (cntB (sS (aS a))), setA a (wS (aS a) 0))
def fWake (a : AT) (x y : Int32) : Int32 × AT := if inN x (sN (aS a)) && inN y 10 then (nI (aWn a), setW a true (sK (aS a) (nn x)) 0 (up1 (aWp a) 0 (nn y))) else (-101, a)
def fThen (a : AT) (x : Int32) : Int32 × AT := if aWb a then (if inN x 10 then (if aWn a = 6 then (-104, a) else (nI (aWn a + 1), setW a true (aWk a) (aWn a + 1) (up1 (aWp a) (aWn a + 1) (nn x)))) else (-101, a)) else (-103, a)
def fImage (a : AT) : Int32 × AT := if 0 < aNb a then (nI (sN (aS a)), setK a true (cal0 (aS a))) else (-103, a)
def fRestore (a : AT) : Int32 × AT := if aKf a then (nI (sN (aKs a)), setW (setA a (cal0 (aKs a))) false (aWk a) 0 (aWp a)) else (-103, a)
def newA (a : AT) (tn : Nat → Nat → Nat) (ow : Nat → Nat) : AT := mkA 0 (aPc a) (aNb a + 1) tn ow (mkSea 0 (sK (aS a)) (sP (aS a)) (sC (aS a)) (sV (aS a)) (sT (aS a)) 0 0 0 (fun _ => 31)) false (aKs a) false (aWk a) 0 (aWp a)
def fBook (a : AT) : Int32 × AT := match prT (aPc a) (aPn a) with
  | none => (-103, a)
  | some q => if q.2.1 = 3 ∧ q.1 = 6 then (nI (nmT q.2.2.2 6), newA a q.2.2.1 q.2.2.2) else (-103, a)
theorem rfs_c {c c' : Nat × Nat} {k : Nat} (h : kt k ≠ 7) : rfs c k = rfs c' k := by
  funext j
  unfold rfs
  generalize kt k = t at h ⊢
  split <;> first | rfl | exact absurd rfl h
theorem cellE_c {g : GW} {c c' : Nat × Nat} {k : Nat} {i : Nat → Int32} {l : Nat → Int64} (h : kt k ≠ 7) : cellE g c k i l = cellE g c' k i l := by
  unfold cellE
  rw [rfs_c (c := c) (c' := c') h]
theorem kt7 : ∀ k, k < 88 → k ≠ 0 → kt k ≠ 7 := by decide +kernel

theorem V_putC {l : Launch} {g : GW} {own : String} {cc : ByteArray} {nL : Nat} {rt : Option FieldType} {d pc : Nat} {lv st : List Value} {μ : Mm} {Q : Option Value → Mm → Prop} {idx z : Nat} (dg : decode cc pc = .ok (.putfield idx, 3)) (fl : FLp own idx 7 7) (K : V l g own cc nL rt d (pc + 3) lv st (setC μ z) Q) : V l g own cc nL rt d pc lv (.ref z :: .ref 0 :: st) μ Q := by
  intro p e s m args below meth c C H locs ls hP hS hl
  obtain ⟨hx, hb, hr0, hml, hown, hlk, hts, hO⟩ := id C
  obtain ⟨f1, f2, f3⟩ := fl
  obtain ⟨c1, c2, c3, c4⟩ := CLo_all 7 f1
  have he := Wd_at g μ (k := 0) (by decide)
  rw [cellE_obj (ci := 7) rfl f1] at he
  have hset : (Wd g μ).set 0 (g.2.2 0, .inr (7, (flds 7 g.2.2 (μ.1 0) (μ.2.1 0) (rfs μ.2.2 0)).set 7 (.ref (g.2.2 z)))) = Wd g (setC μ z) := by
    refine Wd_set ?_ (fun a ha hn => ?_)
    · show cellE g (z, μ.2.2.2) 0 (μ.1 0) (μ.2.1 0) = _
      rw [cellE_obj (ci := 7) rfl f1]
      rfl
    · show cellE g (z, μ.2.2.2) a (μ.1 a) (μ.2.1 a) = _
      exact cellE_c (kt7 a ha hn)
  have KK : ∀ (H1 : Heap) (locs1 : List Loc), va_P g.1 vwCl ((Wd g μ).set 0 (g.2.2 0, .inr (7, (flds 7 g.2.2 (μ.1 0) (μ.2.1 0) (rfs μ.2.2 0)).set 7 (.ref (g.2.2 z))))) H1 → va_D (AW g) ((Wd g μ).set 0 (g.2.2 0, .inr (7, (flds 7 g.2.2 (μ.1 0) (μ.2.1 0) (rfs μ.2.2 0)).set 7 (.ref (g.2.2 z))))) → va_S (AW g) s.heap H1 locs1 → W p l e (rmv d) s m args below meth c H1 locs1 0 0 (MQ below (Qvw g Q) args s 0 0 (AW g)) (F0 m (pc + 3) ls (st.map (conc g))) := by
    intro H1 locs1 p1 _ s1
    rw [hset] at p1
    exact K p e s m args below meth c C H1 locs1 ls p1 s1 hl
  rcases f3 with f3 | f3
  · exact va_put (D := g.1) (cl := vwCl) (tys := tysW g) (ty := .object "NamedWind$Book") hx hb hts c2 (clTy 7) c3 c4 hown hO.1 hP (hO.D μ) hS 0 he c1 7 f2 (hts _ f3) (fun _ q => q) rfl ((c3 7 f2).trans rfl) rfl rfl (Nat.le_of_ble_eq_true rfl) dg KK
  · exact va_putN (D := g.1) (cl := vwCl) (tys := tysW g) (ty := .object "NamedWind$Book") hx hb hts c2 (clTy 7) c3 c4 hown hO.1 hP (hO.D μ) hS 0 he c1 7 f2 (va_Nw.use rfl (hO.2.1 _ f3)) (fun _ q => q) rfl ((c3 7 f2).trans rfl) rfl rfl (Nat.le_of_ble_eq_true rfl) dg KK

theorem V_putD {l : Launch} {g : GW} {own : String} {cc : ByteArray} {nL : Nat} {rt : Option FieldType} {d pc : Nat} {lv st : List Value} {μ : Mm} {Q : Option Value → Mm → Prop} {idx z : Nat} (dg : decode cc pc = .ok (.putfield idx, 3)) (fl : FLp own idx 7 8) (K : V l g own cc nL rt d (pc + 3) lv st (setD μ z) Q) : V l g own cc nL rt d pc lv (.ref z :: .ref 0 :: st) μ Q := by
  intro p e s m args below meth c C H locs ls hP hS hl
  obtain ⟨hx, hb, hr0, hml, hown, hlk, hts, hO⟩ := id C
  obtain ⟨f1, f2, f3⟩ := fl
  obtain ⟨c1, c2, c3, c4⟩ := CLo_all 7 f1
  have he := Wd_at g μ (k := 0) (by decide)
  rw [cellE_obj (ci := 7) rfl f1] at he
  have hset : (Wd g μ).set 0 (g.2.2 0, .inr (7, (flds 7 g.2.2 (μ.1 0) (μ.2.1 0) (rfs μ.2.2 0)).set 8 (.ref (g.2.2 z)))) = Wd g (setD μ z) := by
    refine Wd_set ?_ (fun a ha hn => ?_)
    · show cellE g (μ.2.2.1, z) 0 (μ.1 0) (μ.2.1 0) = _
      rw [cellE_obj (ci := 7) rfl f1]
      rfl
    · show cellE g (μ.2.2.1, z) a (μ.1 a) (μ.2.1 a) = _
      exact cellE_c (kt7 a ha hn)
  have KK : ∀ (H1 : Heap) (locs1 : List Loc), va_P g.1 vwCl ((Wd g μ).set 0 (g.2.2 0, .inr (7, (flds 7 g.2.2 (μ.1 0) (μ.2.1 0) (rfs μ.2.2 0)).set 8 (.ref (g.2.2 z))))) H1 → va_D (AW g) ((Wd g μ).set 0 (g.2.2 0, .inr (7, (flds 7 g.2.2 (μ.1 0) (μ.2.1 0) (rfs μ.2.2 0)).set 8 (.ref (g.2.2 z))))) → va_S (AW g) s.heap H1 locs1 → W p l e (rmv d) s m args below meth c H1 locs1 0 0 (MQ below (Qvw g Q) args s 0 0 (AW g)) (F0 m (pc + 3) ls (st.map (conc g))) := by
    intro H1 locs1 p1 _ s1
    rw [hset] at p1
    exact K p e s m args below meth c C H1 locs1 ls p1 s1 hl
  rcases f3 with f3 | f3
  · exact va_put (D := g.1) (cl := vwCl) (tys := tysW g) (ty := .object "NamedWind$Book") hx hb hts c2 (clTy 7) c3 c4 hown hO.1 hP (hO.D μ) hS 0 he c1 8 f2 (hts _ f3) (fun _ q => q) rfl ((c3 8 f2).trans rfl) rfl rfl (Nat.le_of_ble_eq_true rfl) dg KK
  · exact va_putN (D := g.1) (cl := vwCl) (tys := tysW g) (ty := .object "NamedWind$Book") hx hb hts c2 (clTy 7) c3 c4 hown hO.1 hP (hO.D μ) hS 0 he c1 8 f2 (va_Nw.use rfl (hO.2.1 _ f3)) (fun _ q => q) rfl ((c3 8 f2).trans rfl) rfl rfl (Nat.le_of_ble_eq_true rfl) dg KK
