/-! ===== the first state ===== -/
def i0F : Nat → Nat → Int32 := fun k => match k with
  | 6 => fun j => if j = 2 then -1 else 0
  | 7 => fun j => if j = 2 then -1 else 0
  | 8 => fun j => if j = 2 then -1 else 0
  | 9 => fun j => if j = 2 then -1 else 0
  | 10 => fun j => if j = 2 then -1 else 0
  | 11 => fun j => if j = 2 then -1 else 0
  | 12 => fillF (fun _ => 0) 31 6
  | 15 => fun j => if j = 2 then -1 else 0
  | 16 => fun j => if j = 2 then -1 else 0
  | 17 => fun j => if j = 2 then -1 else 0
  | 18 => fun j => if j = 2 then -1 else 0
  | 19 => fun j => if j = 2 then -1 else 0
  | 20 => fun j => if j = 2 then -1 else 0
  | 21 => fillF (fun _ => 0) 31 6
  | 24 => fun j => if j = 2 then -1 else 0
  | 25 => fun j => if j = 2 then -1 else 0
  | 26 => fun j => if j = 2 then -1 else 0
  | 27 => fun j => if j = 2 then -1 else 0
  | 28 => fun j => if j = 2 then -1 else 0
  | 29 => fun j => if j = 2 then -1 else 0
  | 30 => fillF (fun _ => 0) 31 6
  | 51 => fillF (fun _ => 0) 0 3
  | 52 => fillF (fun _ => 0) 0 3
  | 53 => fillF (fun _ => 0) 0 3
  | 54 => fillF (fun _ => 0) 0 3
  | 55 => fillF (fun _ => 0) 10 3
  | 56 => fillF (fun _ => 0) (-1) 6
  | 59 => fillF (fun _ => 0) 0 3
  | 60 => fillF (fun _ => 0) 0 3
  | 61 => fillF (fun _ => 0) 0 3
  | 62 => fillF (fun _ => 0) 0 3
  | 63 => fillF (fun _ => 0) 10 3
  | 64 => fillF (fun _ => 0) (-1) 6
  | 65 => fun j => if j = 15 then -1 else 0
  | _ => fun _ => 0
def μ00 : Mm := (i0F, fun _ _ => 0, (49, 57))
def σ00 : SeaT := mkSea 0 (fun _ => 0) (fun _ => 0) (fun _ => 0) (fun _ => 0) (fun _ => 0) 0 0 0 (fun _ => 31)
def a00 : AT := mkA 0 (fun _ => 0) 0 (fun w _ => if w = 4 then 10 else 0) (fun _ => 0) σ00 false σ00 false 0 0 (fun _ => 0)
theorem fa5 {P : Nat → Prop} (h0 : P 0) (h1 : P 1) (h2 : P 2) (h3 : P 3) (h4 : P 4) : ∀ n, n < 5 → P n := by
  intro n hn
  rcases (show n = 0 ∨ n = 1 ∨ n = 2 ∨ n = 3 ∨ n = 4 by omega) with rfl | rfl | rfl | rfl | rfl <;> assumption
theorem fill_in {f : Nat → Int32} {v : Int32} {n j : Nat} (h : j < n) : fillF f v n j = v := if_pos h
theorem sea00 (s : Nat) (hs : s = 4 ∨ s = 13 ∨ s = 22) : SeaR μ00 s σ00 := by
  rcases hs with rfl | rfl | rfl
  · exact ⟨rfl, Nat.zero_le _, rfl, by decide, rfl, rfl, Nat.zero_le _, fa6 ⟨rfl, Nat.zero_le _, rfl, Nat.zero_le _, rfl, Nat.zero_le _, rfl, rfl⟩ ⟨rfl, Nat.zero_le _, rfl, Nat.zero_le _, rfl, Nat.zero_le _, rfl, rfl⟩ ⟨rfl, Nat.zero_le _, rfl, Nat.zero_le _, rfl, Nat.zero_le _, rfl, rfl⟩ ⟨rfl, Nat.zero_le _, rfl, Nat.zero_le _, rfl, Nat.zero_le _, rfl, rfl⟩ ⟨rfl, Nat.zero_le _, rfl, Nat.zero_le _, rfl, Nat.zero_le _, rfl, rfl⟩ ⟨rfl, Nat.zero_le _, rfl, Nat.zero_le _, rfl, Nat.zero_le _, rfl, rfl⟩, fun n hn => (show fillF (fun _ => 0) 31 6 n = 31 from fill_in hn)⟩
  · exact ⟨rfl, Nat.zero_le _, rfl, by decide, rfl, rfl, Nat.zero_le _, fa6 ⟨rfl, Nat.zero_le _, rfl, Nat.zero_le _, rfl, Nat.zero_le _, rfl, rfl⟩ ⟨rfl, Nat.zero_le _, rfl, Nat.zero_le _, rfl, Nat.zero_le _, rfl, rfl⟩ ⟨rfl, Nat.zero_le _, rfl, Nat.zero_le _, rfl, Nat.zero_le _, rfl, rfl⟩ ⟨rfl, Nat.zero_le _, rfl, Nat.zero_le _, rfl, Nat.zero_le _, rfl, rfl⟩ ⟨rfl, Nat.zero_le _, rfl, Nat.zero_le _, rfl, Nat.zero_le _, rfl, rfl⟩ ⟨rfl, Nat.zero_le _, rfl, Nat.zero_le _, rfl, Nat.zero_le _, rfl, rfl⟩, fun n hn => (show fillF (fun _ => 0) 31 6 n = 31 from fill_in hn)⟩
  · exact ⟨rfl, Nat.zero_le _, rfl, by decide, rfl, rfl, Nat.zero_le _, fa6 ⟨rfl, Nat.zero_le _, rfl, Nat.zero_le _, rfl, Nat.zero_le _, rfl, rfl⟩ ⟨rfl, Nat.zero_le _, rfl, Nat.zero_le _, rfl, Nat.zero_le _, rfl, rfl⟩ ⟨rfl, Nat.zero_le _, rfl, Nat.zero_le _, rfl, Nat.zero_le _, rfl, rfl⟩ ⟨rfl, Nat.zero_le _, rfl, Nat.zero_le _, rfl, Nat.zero_le _, rfl, rfl⟩ ⟨rfl, Nat.zero_le _, rfl, Nat.zero_le _, rfl, Nat.zero_le _, rfl, rfl⟩ ⟨rfl, Nat.zero_le _, rfl, Nat.zero_le _, rfl, Nat.zero_le _, rfl, rfl⟩, fun n hn => (show fillF (fun _ => 0) 31 6 n = 31 from fill_in hn)⟩
theorem bk00 : BkR μ00 49 (aTn a00) (aOw a00) := by
  refine ⟨fun w s hw hs => ?_, fun n hn => (show fillF (fun _ => 0) (-1) 6 n = -1 from fill_in hn).trans cI_0.symm, fun n hn => Nat.zero_le _, fun s hs => rfl⟩
  rcases (show w = 0 ∨ w = 1 ∨ w = 2 ∨ w = 3 ∨ w = 4 by omega) with rfl | rfl | rfl | rfl | rfl
  · exact (show fillF (fun _ => 0) 0 3 s = 0 from fill_in hs)
  · exact (show fillF (fun _ => 0) 0 3 s = 0 from fill_in hs)
  · exact (show fillF (fun _ => 0) 0 3 s = 0 from fill_in hs)
  · exact (show fillF (fun _ => 0) 0 3 s = 0 from fill_in hs)
  · exact (show fillF (fun _ => 0) 10 3 s = 10 from fill_in hs)
theorem rc00 : RC μ00 a00 := ⟨⟨rfl, Nat.zero_le _, fun j hj => ⟨rfl, Nat.zero_le _⟩⟩, rfl, Nat.zero_le _, rfl, ⟨49, Or.inl rfl, rfl, rfl, bk00⟩, sea00 4 (Or.inl rfl), sea00 13 (Or.inr (Or.inl rfl)), ⟨σ00, sea00 22 (Or.inr (Or.inr rfl))⟩, ⟨rfl, rfl, Nat.zero_le _, rfl, Nat.zero_le _, fun j hj => ⟨rfl, Nat.zero_le _⟩⟩⟩
theorem rm00 : RM μ00 a00 := ⟨rfl, rfl, rfl, fun h => absurd h (Nat.lt_irrefl 0), rfl, fun i hi => absurd hi (Nat.not_lt_zero i), rfl, rfl, rfl, ⟨fun _ => 0, fun j hj => absurd hj (Nat.not_lt_zero j), fun n hn => rfl⟩, ⟨rfl, rfl, fun j hj => rfl⟩, ⟨rfl, fun j hj => rfl⟩, Or.inl rfl⟩
theorem ai00 : AI a00 := ⟨⟨fun _ => ⟨rfl, rfl⟩, fun c i hi _ _ _ => absurd hi (Nat.not_lt_zero i)⟩, fun h => absurd h (by decide)⟩
theorem at_q {D : va_G} {cl : List vw_C} {H : Heap} {a : Nat} {c : ClassId} {n : Nat} {f f' : Nat → Option Nat} (h : va_at D cl (a, .inl (c, n, .inr (.inr (.inr (.inr f))))) H) (e : ∀ j, j < n → f j = f' j) : va_at D cl (a, .inl (c, n, .inr (.inr (.inr (.inr f'))))) H := by
  have h : H[a]? = some (arrV c n (fun j => va_rf (f j))) := h
  show H[a]? = some (arrV c n (fun j => va_rf (f' j)))
  rw [h]
  have e2 : (fun j : Fin n => va_rf (f j.val)) = fun j : Fin n => va_rf (f' j.val) := funext fun j => by rw [e j.val j.isLt]
  unfold arrV
  rw [e2]
/-- what the word on int[][] tells: the class of int[], the class of int[][], its kind -/
theorem vg_aoa {A : Array Value} {u : State} (h : (Cond.arrayOver (.array .int)).before A u = true) : ∃ (comp cA : ClassId) (k : Class), u.vm.findClass (FieldType.array .int).toString = some comp ∧ u.vm.classes[cA]? = some k ∧ k.kind = .array comp (.array .int) ∧ u.vm.findClass ("[" ++ (FieldType.array .int).toString) = some cA := by
  have h1 := Cond.before_iff.mp h
  simp only [Cond.value] at h1
  obtain ⟨comp, hc, h2⟩ := Option.bind_eq_some_iff.mp h1
  obtain ⟨q, hi, h3⟩ := Option.bind_eq_some_iff.mp h2
  obtain ⟨k, hk, h4⟩ := Option.map_eq_some_iff.mp h3
  obtain ⟨hlt, hp, -⟩ := Array.findIdx?_eq_some_iff_getElem.mp hi
  have e : u.vm.classes[q] = k := (Array.getElem?_eq_some_iff.mp hk).2
  rw [e] at hp
  refine ⟨comp, q, k, hc, hk, ?_⟩
  cases hz : k.kind with
  | array co ty =>
    rw [hz] at hp h4
    have hp2 : comp = co := by
      simp at hp
      first
        | exact hp
        | exact hp.symm
    simp at h4
    exact ⟨by rw [hp2, h4.1], h4.2⟩
  | _ => rw [hz] at h4; simp at h4
set_option maxHeartbeats 4000000 in
set_option maxRecDepth 100000 in
theorem law_K {s : State} {b : Nat} (hts : ∀ w ∈ lw_tbl, w.before #[Value.ref b] s = true) : ∃ (D : va_G) (cs : Nat → ClassId), UOK D cs s := by
  obtain ⟨c0, y0, k0⟩ := u_known (C := RX0) (T := TX0) (N := 2) (n := 2) hts (fun w h => wsL_law_in w (inlX0 w h)) (hts _ (wsL_law_in _ (List.mem_of_getElem? (i := 36) rfl)))
  obtain ⟨c1, y1, k1⟩ := u_known (C := RX1) (T := TX1) (N := 4) (n := 4) hts (fun w h => wsL_law_in w (inlX1 w h)) (hts _ (wsL_law_in _ (List.mem_of_getElem? (i := 32) rfl)))
  obtain ⟨c2, y2, k2⟩ := u_known (C := RX2) (T := TX2) (N := 2) (n := 2) hts (fun w h => wsL_law_in w (inlX2 w h)) (hts _ (wsL_law_in _ (List.mem_of_getElem? (i := 14) rfl)))
  obtain ⟨c3, y3, k3⟩ := u_known (C := RX3) (T := TX3) (N := 2) (n := 2) hts (fun w h => wsL_law_in w (inlX3 w h)) (hts _ (wsL_law_in _ (List.mem_of_getElem? (i := 18) rfl)))
  obtain ⟨c4, y4, k4⟩ := u_known (C := RX4) (T := TX4) (N := 6) (n := 6) hts (fun w h => wsL_law_in w (inlX4 w h)) (hts _ (wsL_law_in _ (List.mem_of_getElem? (i := 22) rfl)))
  obtain ⟨c5, y5, k5⟩ := u_known (C := RX5) (T := TX5) (N := 5) (n := 5) hts (fun w h => wsL_law_in w (inlX5 w h)) (hts _ (wsL_law_in _ (List.mem_of_getElem? (i := 54) rfl)))
  obtain ⟨c6, y6, k6⟩ := u_known (C := RX6) (T := TX6) (N := 4) (n := 4) hts (fun w h => wsL_law_in w (inlX6 w h)) (hts _ (wsL_law_in _ (List.mem_of_getElem? (i := 28) rfl)))
  obtain ⟨c7, y7, k7⟩ := u_known (C := RX7) (T := TX7) (N := 11) (n := 11) hts (fun w h => wsL_law_in w (inlX7 w h)) (hts _ (wsL_law_in _ (List.mem_of_getElem? (i := 1) rfl)))
  obtain ⟨c8, y8, k8⟩ := u_known (C := RX8) (T := TX8) (N := 44) (n := 44) hts (fun w h => wsL_law_in w (inlX8 w h)) (hts _ (wsL_law_in _ (List.mem_of_getElem? (i := 4) rfl)))
  obtain ⟨a0, ka0, co0, f0, g0, h0⟩ := Cond.arrayClass_spec (hts (Cond.arrayClass .int) (wsL_law_in _ (List.mem_of_getElem? (i := 43) rfl)))
  obtain ⟨a1, ka1, co1, f1, g1, h1⟩ := Cond.arrayClass_spec (hts (Cond.arrayClass .byte) (wsL_law_in _ (List.mem_of_getElem? (i := 108) rfl)))
  obtain ⟨a2, ka2, co2, f2, g2, h2⟩ := Cond.arrayClass_spec (hts (Cond.arrayClass .boolean) (wsL_law_in _ (List.mem_of_getElem? (i := 114) rfl)))
  obtain ⟨a3, ka3, co3, f3, g3, h3⟩ := Cond.arrayClass_spec (hts (Cond.arrayClass .long) (wsL_law_in _ (List.mem_of_getElem? (i := 112) rfl)))
  have hS0 := hts (Cond.arrayOver (.object "NamedWind$Ship")) (List.mem_of_getElem? (i := 139) (by decide +kernel))
  have hG0 := hts (Cond.arrayOver (.array .int)) (List.mem_of_getElem? (i := 228) (by decide +kernel))
  obtain ⟨co4, a4, ka4, f4, -, g4, h4, e4⟩ := Cond.arrayOver_spec hS0
  obtain ⟨co5, a5, ka5, f5, g5, h5, e5⟩ := vg_aoa hG0
  refine ⟨(fun k => match k with | 0 => c0 | 1 => c1 | 2 => c2 | 3 => c3 | 4 => c4 | 5 => c5 | 6 => c6 | 7 => c7 | _ => c8, fun k => match k with | 0 => y0 | 1 => y1 | 2 => y2 | 3 => y3 | 4 => y4 | 5 => y5 | 6 => y6 | 7 => y7 | _ => y8), fun k => match k with | 0 => a0 | 1 => a1 | 2 => a2 | 3 => a3 | 4 => a4 | _ => a5, ⟨fun k q h => ?_, fun k q h => ?_⟩, fun w hw => ?_, va_AO.of hS0, va_AOA.of hG0⟩
  · match k, h with
    | 0, h => cases h; exact k0
    | 1, h => cases h; exact k1
    | 2, h => cases h; exact k2
    | 3, h => cases h; exact k3
    | 4, h => cases h; exact k4
    | 5, h => cases h; exact k5
    | 6, h => cases h; exact k6
    | 7, h => cases h; exact k7
    | 8, h => cases h; exact k8
    | k + 9, h => simp [vwCl] at h
  · match k, h with
    | 0, h => cases h; exact ⟨fun n z => ⟨fun k h => (by cases h), ka0, g0, co0, h0⟩, f0⟩
    | 1, h => cases h; exact ⟨fun n z => ⟨fun k h => (by cases h), ka1, g1, co1, h1⟩, f1⟩
    | 2, h => cases h; exact ⟨fun n z => ⟨fun k h => (by cases h), ka2, g2, co2, h2⟩, f2⟩
    | 3, h => cases h; exact ⟨fun n z => ⟨fun k h => (by cases h), ka3, g3, co3, h3⟩, f3⟩
    | 4, h => cases h; exact ⟨fun n z => ⟨fun k h => (by cases h), ka4, g4, co4, h4⟩, ka4, co4, g4, h4, f4, e4⟩
    | 5, h => cases h; exact ⟨fun n z => ⟨fun k h => (by cases h), ka5, g5, co5, h5⟩, e5⟩
    | k + 6, h => simp [tysW] at h
  · have h5 := List.all_eq_true.mp nestW_is w hw
    have h6 := hts w (nestW_in w hw)
    cases w <;> first | exact va_Nw.of rfl h6 | exact absurd h5 (by simp [isNest])
set_option maxHeartbeats 4000000 in
set_option maxRecDepth 100000 in
theorem st_88 {s : State} {b : Nat} (hts : ∀ w ∈ lw_tbl, w.before #[Value.ref b] s = true) (hgv : (Jvm.Cond.and given_1 narrow_1).before #[Value.ref b] s = true) : ∃ t : Nat, va_Z "NamedWind" "SERVED_BY" "[I" (.ref t) (fun q => s.heap.size ≤ q) s s.heap ∧ va_T .int t 5 (fun j => .int ((stT 88).getD j 0)) (fun q => s.heap.size ≤ q) s s.heap := by
  have hf := flat_of_before _ hgv
  have hA : ∀ a : Nat, a < s.heap.size → ¬ (fun q => s.heap.size ≤ q) a := fun a h => Nat.not_le.mpr h
  have hel : ∀ j : Nat, j < 5 → (Term.elem (.static "NamedWind" "SERVED_BY" "[I") (.int (Int32.ofNat j))).eval #[Value.ref b] s none [] s = some (.int ((stT 88).getD j 0)) := by
    intro j hj
    rcases (show j = 0 ∨ j = 1 ∨ j = 2 ∨ j = 3 ∨ j = 4 by omega) with rfl | rfl | rfl | rfl | rfl
    · exact va_eqt (z := 2) (hf (Cond.eq (.elem (.static "NamedWind" "SERVED_BY" "[I") (.int 0)) (.int 2)) (by decide +kernel))
    · exact va_eqt (z := 3) (hf (Cond.eq (.elem (.static "NamedWind" "SERVED_BY" "[I") (.int 1)) (.int 3)) (by decide +kernel))
    · exact va_eqt (z := 1) (hf (Cond.eq (.elem (.static "NamedWind" "SERVED_BY" "[I") (.int 2)) (.int 1)) (by decide +kernel))
    · exact va_eqt (z := 2) (hf (Cond.eq (.elem (.static "NamedWind" "SERVED_BY" "[I") (.int 3)) (.int 2)) (by decide +kernel))
    · exact va_eqt (z := 2) (hf (Cond.eq (.elem (.static "NamedWind" "SERVED_BY" "[I") (.int 4)) (.int 2)) (by decide +kernel))
  obtain ⟨t, h1, h2⟩ := va_Tof (tm := (.static "NamedWind" "SERVED_BY" "[I")) (ty := .int) (N := 5) (f := fun j => .int ((stT 88).getD j 0)) (A := fun q => s.heap.size ≤ q) (by decide) (hf _ (by decide +kernel)) (va_eqt (z := 5) (hf _ (by decide +kernel))) hel hA
  exact ⟨t, va_Zref (hts _ (List.mem_of_getElem? (i := 482) (by decide +kernel))) (hts _ (wsL_law_in _ (List.mem_of_getElem? (i := 2) rfl))) h1 hA, h2⟩
set_option maxHeartbeats 4000000 in
set_option maxRecDepth 100000 in
theorem st_89 {s : State} {b : Nat} (hts : ∀ w ∈ lw_tbl, w.before #[Value.ref b] s = true) (hgv : (Jvm.Cond.and given_1 narrow_1).before #[Value.ref b] s = true) : ∃ t : Nat, va_Z "NamedWind" "TURNED_BY" "[I" (.ref t) (fun q => s.heap.size ≤ q) s s.heap ∧ va_T .int t 5 (fun j => .int ((stT 89).getD j 0)) (fun q => s.heap.size ≤ q) s s.heap := by
  have hf := flat_of_before _ hgv
  have hA : ∀ a : Nat, a < s.heap.size → ¬ (fun q => s.heap.size ≤ q) a := fun a h => Nat.not_le.mpr h
  have hel : ∀ j : Nat, j < 5 → (Term.elem (.static "NamedWind" "TURNED_BY" "[I") (.int (Int32.ofNat j))).eval #[Value.ref b] s none [] s = some (.int ((stT 89).getD j 0)) := by
    intro j hj
    rcases (show j = 0 ∨ j = 1 ∨ j = 2 ∨ j = 3 ∨ j = 4 by omega) with rfl | rfl | rfl | rfl | rfl
    · exact va_eqt (z := 2) (hf (Cond.eq (.elem (.static "NamedWind" "TURNED_BY" "[I") (.int 0)) (.int 2)) (by decide +kernel))
    · exact va_eqt (z := 2) (hf (Cond.eq (.elem (.static "NamedWind" "TURNED_BY" "[I") (.int 1)) (.int 2)) (by decide +kernel))
    · exact va_eqt (z := 1) (hf (Cond.eq (.elem (.static "NamedWind" "TURNED_BY" "[I") (.int 2)) (.int 1)) (by decide +kernel))
    · exact va_eqt (z := 1) (hf (Cond.eq (.elem (.static "NamedWind" "TURNED_BY" "[I") (.int 3)) (.int 1)) (by decide +kernel))
    · exact va_eqt (z := 1) (hf (Cond.eq (.elem (.static "NamedWind" "TURNED_BY" "[I") (.int 4)) (.int 1)) (by decide +kernel))
  obtain ⟨t, h1, h2⟩ := va_Tof (tm := (.static "NamedWind" "TURNED_BY" "[I")) (ty := .int) (N := 5) (f := fun j => .int ((stT 89).getD j 0)) (A := fun q => s.heap.size ≤ q) (by decide) (hf _ (by decide +kernel)) (va_eqt (z := 5) (hf _ (by decide +kernel))) hel hA
  exact ⟨t, va_Zref (hts _ (List.mem_of_getElem? (i := 490) (by decide +kernel))) (hts _ (wsL_law_in _ (List.mem_of_getElem? (i := 2) rfl))) h1 hA, h2⟩
set_option maxHeartbeats 4000000 in
set_option maxRecDepth 100000 in
theorem st_90 {s : State} {b : Nat} (hts : ∀ w ∈ lw_tbl, w.before #[Value.ref b] s = true) (hgv : (Jvm.Cond.and given_1 narrow_1).before #[Value.ref b] s = true) : ∃ t : Nat, va_Z "NamedWind" "SURE_OF" "[I" (.ref t) (fun q => s.heap.size ≤ q) s s.heap ∧ va_T .int t 7 (fun j => .int ((stT 90).getD j 0)) (fun q => s.heap.size ≤ q) s s.heap := by
  have hf := flat_of_before _ hgv
  have hA : ∀ a : Nat, a < s.heap.size → ¬ (fun q => s.heap.size ≤ q) a := fun a h => Nat.not_le.mpr h
  have hel : ∀ j : Nat, j < 7 → (Term.elem (.static "NamedWind" "SURE_OF" "[I") (.int (Int32.ofNat j))).eval #[Value.ref b] s none [] s = some (.int ((stT 90).getD j 0)) := by
    intro j hj
    rcases (show j = 0 ∨ j = 1 ∨ j = 2 ∨ j = 3 ∨ j = 4 ∨ j = 5 ∨ j = 6 by omega) with rfl | rfl | rfl | rfl | rfl | rfl | rfl
    · exact va_eqt (z := 1) (hf (Cond.eq (.elem (.static "NamedWind" "SURE_OF" "[I") (.int 0)) (.int 1)) (by decide +kernel))
    · exact va_eqt (z := 30) (hf (Cond.eq (.elem (.static "NamedWind" "SURE_OF" "[I") (.int 1)) (.int 30)) (by decide +kernel))
    · exact va_eqt (z := 900) (hf (Cond.eq (.elem (.static "NamedWind" "SURE_OF" "[I") (.int 2)) (.int 900)) (by decide +kernel))
    · exact va_eqt (z := 27000) (hf (Cond.eq (.elem (.static "NamedWind" "SURE_OF" "[I") (.int 3)) (.int 27000)) (by decide +kernel))
    · exact va_eqt (z := 810000) (hf (Cond.eq (.elem (.static "NamedWind" "SURE_OF" "[I") (.int 4)) (.int 810000)) (by decide +kernel))
    · exact va_eqt (z := 24300000) (hf (Cond.eq (.elem (.static "NamedWind" "SURE_OF" "[I") (.int 5)) (.int 24300000)) (by decide +kernel))
    · exact va_eqt (z := 729000000) (hf (Cond.eq (.elem (.static "NamedWind" "SURE_OF" "[I") (.int 6)) (.int 729000000)) (by decide +kernel))
  obtain ⟨t, h1, h2⟩ := va_Tof (tm := (.static "NamedWind" "SURE_OF" "[I")) (ty := .int) (N := 7) (f := fun j => .int ((stT 90).getD j 0)) (A := fun q => s.heap.size ≤ q) (by decide) (hf _ (by decide +kernel)) (va_eqt (z := 7) (hf _ (by decide +kernel))) hel hA
  exact ⟨t, va_Zref (hts _ (List.mem_of_getElem? (i := 540) (by decide +kernel))) (hts _ (wsL_law_in _ (List.mem_of_getElem? (i := 2) rfl))) h1 hA, h2⟩
