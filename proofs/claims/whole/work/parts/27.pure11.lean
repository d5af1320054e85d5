
/-! ===== reading a page, letter by letter ===== -/
def PsOK (q : PsT) : Prop := q.1 ≤ 6 ∧ q.2.1 ≤ 3 ∧ ∀ w s, w < 4 → (q.2.1 < w ∨ (w = q.2.1 ∧ q.1 ≤ s + 3)) → q.2.2.1 w s = 0
theorem ps0_ok : PsOK ps0 := ⟨by decide, by decide, fun w s hw _ => by show (if w = 4 then 10 else 0) = 0; rw [if_neg (by omega)]⟩
theorem psOK_low {q : PsT} {x : Nat} {g : Nat → Nat} (hx : x ≤ 6) (h : PsOK q) (h3 : q.1 ≤ 3) : PsOK (x, q.2.1, q.2.2.1, g) := ⟨hx, h.2.1, fun w s hw hq => h.2.2 w s hw (by
  rcases hq with q1 | q1
  · exact Or.inl q1
  · exact Or.inr ⟨q1.1, by omega⟩)⟩
theorem nmP_ok {c x : Nat} {q q' : PsT} (hx : x ≤ 3) (h : PsOK q) (h3 : q.1 ≤ 3) (e : nmP c x q = some q') : PsOK q' := by
  unfold nmP at e
  split at e
  · cases e
    exact psOK_low (by omega) h h3
  · cases e
theorem pst_ok {c : Nat} {q q' : PsT} (h : PsOK q) (e : pst c q = some q') : PsOK q' := by
  obtain ⟨x, w, tn, ow⟩ := q
  obtain ⟨h1, h2, h3⟩ := id h
  dsimp only at h1 h2 h3
  unfold pst at e
  dsimp only at e
  by_cases e0 : x = 0
  · rw [if_pos e0] at e
    by_cases c0 : c = 45
    · rw [if_pos c0] at e; cases e
      exact psOK_low (q := (x, w, tn, ow)) (by omega) h (by show x ≤ 3; omega)
    · rw [if_neg c0] at e
      exact nmP_ok (by omega) h (by show x ≤ 3; omega) e
  rw [if_neg e0] at e
  by_cases e1 : x = 1
  · rw [if_pos e1] at e
    by_cases c0 : c = 58
    · rw [if_pos c0] at e; cases e
      exact psOK_low (q := (x, w, tn, ow)) (by omega) h (by show x ≤ 3; omega)
    · rw [if_neg c0] at e
      exact nmP_ok (by omega) h (by show x ≤ 3; omega) e
  rw [if_neg e1] at e
  by_cases e2 : x = 2
  · rw [if_pos e2] at e
    by_cases c0 : c = 58
    · rw [if_pos c0] at e; cases e
      exact psOK_low (q := (x, w, tn, ow)) (by omega) h (by show x ≤ 3; omega)
    · rw [if_neg c0] at e; cases e
  rw [if_neg e2] at e
  by_cases e6 : x = 6
  · rw [if_pos e6] at e
    by_cases c0 : w < 3 ∧ c = 47
    · rw [if_pos c0] at e; cases e
      exact ⟨by show 0 ≤ 6; omega, by show w + 1 ≤ 3; omega, fun w' s hw hq => h3 w' s hw (Or.inl (by
        rcases hq with q1 | q1
        · have : w + 1 < w' := q1; omega
        · have : w' = w + 1 := q1.1; omega))⟩
    · rw [if_neg c0] at e; cases e
  rw [if_neg e6] at e
  by_cases c0 : 48 ≤ c ∧ c ≤ 57 ∧ c - 48 ≤ tn 4 (x - 3)
  · rw [if_pos c0] at e; cases e
    refine ⟨by show x + 1 ≤ 6; omega, h2, fun w' s hw hq => ?_⟩
    show (if w' = 4 ∧ s = x - 3 then _ else if w' = w ∧ s = x - 3 then _ else tn w' s) = 0
    have hq : w < w' ∨ (w' = w ∧ x + 1 ≤ s + 3) := hq
    rw [if_neg (by omega), if_neg (by omega)]
    exact h3 w' s hw (by omega)
  · rw [if_neg c0] at e; cases e
theorem prT_ok {cd : Nat → Nat} : ∀ {n : Nat} {q : PsT}, prT cd n = some q → PsOK q
  | 0, q, h => by cases h; exact ps0_ok
  | n + 1, q, h => by
    simp only [prT] at h
    cases hq : prT cd n with
    | none => rw [hq] at h; cases h
    | some q0 => rw [hq] at h; exact pst_ok (prT_ok hq) h
theorem inR_name : ∀ c, c < 127 → inR (nI c - 48) 6 = decide (48 ≤ c ∧ c < 54) := by decide +kernel
theorem sub48 : ∀ c, c < 127 → 48 ≤ c → nI c - 48 = nI (c - 48) := by decide +kernel
theorem sub48_lt : ∀ c, c < 127 → (nI c - 48 < 0 ↔ c < 48) := by decide +kernel
theorem sub48_gt : ∀ c, c < 127 → ((9 : Int32) < nI c - 48 ↔ 57 < c) := by decide +kernel
theorem BkR.own {μ : Mm} {b n w : Nat} {tn : Nat → Nat → Nat} {ow : Nat → Nat} {v : Int32} (h : BkR μ b tn ow) (hn : n < 6) (hw : w ≤ 3) (hv : v = nI w) : BkR (setI μ (b + 7) n v) b tn (up1 ow n (w + 1)) := by
  subst hv
  obtain ⟨h1, h2, h3, h4⟩ := h
  refine ⟨fun a s ha hs => by rw [get_ne (by omega)]; exact h1 a s ha hs, fun m hm => ?_, fun m hm => ?_, h4⟩
  · by_cases e : m = n
    · rw [e, get_eq, up1_eq, cI_s]
    · rw [get_ne (by omega), up1_ne e]; exact h2 m hm
  · by_cases e : m = n
    · rw [e, up1_eq]; omega
    · rw [up1_ne e]; exact h3 m hm
theorem BkR.ten {μ : Mm} {b s w v : Nat} {tn : Nat → Nat → Nat} {ow : Nat → Nat} (h : BkR μ b tn ow) (hs : s < 3) (hw : w ≤ 3) (h0 : tn w s = 0) (hv : v ≤ tn 4 s) {x y : Int32} (hx : x = nI v) (hy : y = nI (tn 4 s - v)) : BkR (setI (setI μ (b + 1 + 1 + w) s x) (b + 1 + 1 + 4) s y) b (up2N (up2N tn w s v) 4 s (tn 4 s - v)) ow := by
  subst hx; subst hy
  obtain ⟨h1, h2, h3, h4⟩ := h
  refine ⟨fun a t ha ht => ?_, fun m hm => by rw [get_ne (by omega), get_ne (by omega)]; exact h2 m hm, h3, fun t ht => ?_⟩
  · show _ = nI (if a = 4 ∧ t = s then _ else if a = w ∧ t = s then _ else tn a t)
    by_cases e : a = 4 ∧ t = s
    · rw [if_pos e, e.1, e.2, get_eq]
    · rw [if_neg e, get_ne (by omega)]
      by_cases e2 : a = w ∧ t = s
      · rw [if_pos e2, e2.1, e2.2, get_eq]
      · rw [if_neg e2, get_ne (by omega)]; exact h1 a t ha ht
  · have q := h4 t ht
    simp only [up2N]
    by_cases e : t = s
    · subst e
      rcases (show w = 0 ∨ w = 1 ∨ w = 2 ∨ w = 3 by omega) with rfl | rfl | rfl | rfl <;> simp <;> omega
    · simp [e]; omega
theorem RdR.setX {μ : Mm} {x w t : Nat} {v : Int32} (h : RdR μ x w) (ht : t ≤ 6) (hv : v = nI t) : RdR (setI μ 3 0 v) t w := ⟨by rw [get_eq, hv], ht, by rw [get_ne (by omega)]; exact h.2.2.1, h.2.2.2⟩
theorem RdR.kept {μ μ' : Mm} {x w : Nat} (h : RdR μ x w) (e : ∀ j, μ'.1 3 j = μ.1 3 j) : RdR μ' x w := ⟨by rw [e]; exact h.1, h.2.1, by rw [e]; exact h.2.2.1, h.2.2.2⟩
theorem pst_t {c x w : Nat} {tn : Nat → Nat → Nat} {ow : Nat → Nat} (h0 : x ≠ 0) (h1 : x ≠ 1) (h2 : x ≠ 2) (h6 : x ≠ 6) : pst c (x, w, tn, ow) = if 48 ≤ c ∧ c ≤ 57 ∧ c - 48 ≤ tn 4 (x - 3) then some (x + 1, w, up2N (up2N tn w (x - 3) (c - 48)) 4 (x - 3) (tn 4 (x - 3) - (c - 48)), ow) else none := by
  unfold pst
  dsimp only
  rw [if_neg h0, if_neg h1, if_neg h2, if_neg h6]
def tkQ (b c : Nat) (q : PsT) (μ : Mm) : Option Value → Mm → Prop := fun r μ' => FrM (rdS b) μ μ' ∧ match pst c q with
  | none => r = some (.int 0)
  | some q' => r = some (.int 1) ∧ RdR μ' q'.1 q'.2.1 ∧ BkR μ' b q'.2.2.1 q'.2.2.2
theorem tkQ_no {b c : Nat} {q : PsT} {μ μ' : Mm} (hf : FrM (rdS b) μ μ') (h : pst c q = none) : tkQ b c q μ (some (.int 0)) μ' := ⟨hf, by rw [h]⟩
theorem tkQ_yes {b c x w : Nat} {tn : Nat → Nat → Nat} {ow : Nat → Nat} {q : PsT} {μ μ' : Mm} (hf : FrM (rdS b) μ μ') (h : pst c q = some (x, w, tn, ow)) (hr : RdR μ' x w) (hb : BkR μ' b tn ow) : tkQ b c q μ (some (.int 1)) μ' := ⟨hf, by rw [h]; exact ⟨rfl, hr, hb⟩⟩
