/-! ===== THE WORLD: all cells of the class and of the reference, by number; a memory; the judgement V ===== -/
abbrev Mm : Type := (Nat → Nat → Int32) × (Nat → Nat → Int64) × (Nat × Nat)
def up2 {α : Type} (f : Nat → Nat → α) (k j : Nat) (v : α) : Nat → Nat → α := fun a b => if a = k then (if b = j then v else f a b) else f a b
theorem up2_row {α : Type} (f : Nat → Nat → α) (k j : Nat) (v : α) : up2 f k j v k = fun b => if b = j then v else f k b := by funext b; simp [up2]
theorem up2_ne {α : Type} {f : Nat → Nat → α} {k j a : Nat} {v : α} (h : a ≠ k) : up2 f k j v a = f a := by funext b; simp [up2, h]
def setI (μ : Mm) (k j : Nat) (v : Int32) : Mm := (up2 μ.1 k j v, μ.2.1, μ.2.2)
def setL (μ : Mm) (k j : Nat) (v : Int64) : Mm := (μ.1, up2 μ.2.1 k j v, μ.2.2)
def setC (μ : Mm) (c : Nat) : Mm := (μ.1, μ.2.1, (c, μ.2.2.2))
def setD (μ : Mm) (c : Nat) : Mm := (μ.1, μ.2.1, (μ.2.2.1, c))
def ktL : List (Nat × Nat) := [(7, 0), (2, 0), (10, 30), (3, 0), (4, 0), (14, 6), (5, 0), (5, 0), (5, 0), (5, 0), (5, 0), (5, 0), (10, 6), (4, 0), (14, 6), (5, 0), (5, 0), (5, 0), (5, 0), (5, 0), (5, 0), (10, 6), (4, 0), (14, 6), (5, 0), (5, 0), (5, 0), (5, 0), (5, 0), (5, 0), (10, 6), (6, 0), (10, 7), (1, 0), (15, 5), (10, 640), (10, 640), (10, 640), (10, 640), (10, 640), (15, 7), (10, 3), (10, 3), (10, 3), (10, 3), (10, 3), (10, 3), (10, 3), (10, 3), (0, 0), (15, 5), (10, 3), (10, 3), (10, 3), (10, 3), (10, 3), (10, 6), (0, 0), (15, 5), (10, 3), (10, 3), (10, 3), (10, 3), (10, 3), (10, 6), (8, 0), (10, 15), (10, 6), (10, 6), (10, 6), (10, 6), (10, 6), (10, 6), (10, 40), (10, 7), (11, 30), (10, 15), (10, 6), (13, 3200), (12, 3200), (13, 100), (13, 100), (10, 6), (10, 6), (10, 6), (10, 6), (10, 6), (10, 40)]
def kt (k : Nat) : Nat := (ktL.getD k (99, 0)).1
def kn (k : Nat) : Nat := (ktL.getD k (99, 0)).2
def rfs (c : Nat × Nat) (k j : Nat) : Nat := match kt k with
  | 0 => (if j = 0 then k + 1 else k + 7)
  | 1 => (if j = 0 then k + 1 else if j = 1 then k + 7 else k + 15)
  | 2 => (k + 1)
  | 4 => (if j = 0 then k + 1 else k + 8)
  | 6 => (k + 1)
  | 7 => (([1, 3, 4, 13, 22, 31, 33, c.1, c.2] : List Nat).getD j 0)
  | 8 => (([0, 0, 0, 66, 67, 0, 68, 69, 70, 71, 72, 0, 0, 0, 73, 0, 0, 74, 0, 75, 0, 0, 0, 0, 76, 77, 78, 79, 80, 81, 0, 82, 83, 0, 0, 0, 0, 0, 0, 84, 85, 86, 87, 0] : List Nat).getD j 0)
  | 14 => (k + 1 + j)
  | 15 => (k + 1 + j)
  | _ => 0
def flds (t : Nat) (ad : Nat → Nat) (i : Nat → Int32) (l : Nat → Int64) (r : Nat → Nat) : List Value := match t with
  | 0 => [.ref (ad (r 0)), .ref (ad (r 1))]
  | 1 => [.ref (ad (r 0)), .ref (ad (r 1)), .ref (ad (r 2)), .int (i 3)]
  | 2 => [.ref (ad (r 0)), .int (i 1)]
  | 3 => [.int (i 0), .int (i 1)]
  | 4 => [.ref (ad (r 0)), .ref (ad (r 1)), .int (i 2), .int (i 3), .int (i 4), .int (i 5)]
  | 5 => [.int (i 0), .int (i 1), .int (i 2), .int (i 3), .int (i 4)]
  | 6 => [.ref (ad (r 0)), .int (i 1), .int (i 2), .int (i 3)]
  | 7 => [.ref (ad (r 0)), .ref (ad (r 1)), .ref (ad (r 2)), .ref (ad (r 3)), .ref (ad (r 4)), .ref (ad (r 5)), .ref (ad (r 6)), .ref (ad (r 7)), .ref (ad (r 8)), .int (i 9), .int (i 10)]
  | 8 => [.int (i 0), .int (i 1), .int (i 2), .ref (ad (r 3)), .ref (ad (r 4)), .int (i 5), .ref (ad (r 6)), .ref (ad (r 7)), .ref (ad (r 8)), .ref (ad (r 9)), .ref (ad (r 10)), .int (i 11), .int (i 12), .int (i 13), .ref (ad (r 14)), .int (i 15), .int (i 16), .ref (ad (r 17)), .int (i 18), .ref (ad (r 19)), .int (i 20), .int (i 21), .int (i 22), .int (i 23), .ref (ad (r 24)), .ref (ad (r 25)), .ref (ad (r 26)), .ref (ad (r 27)), .ref (ad (r 28)), .ref (ad (r 29)), .long (l 30), .ref (ad (r 31)), .ref (ad (r 32)), .int (i 33), .int (i 34), .int (i 35), .int (i 36), .int (i 37), .int (i 38), .ref (ad (r 39)), .ref (ad (r 40)), .ref (ad (r 41)), .ref (ad (r 42)), .long (l 43)]
  | _ => []
abbrev GW : Type := va_G × (Nat → ClassId) × (Nat → Nat)
def cellE (g : GW) (c : Nat × Nat) (k : Nat) (i : Nat → Int32) (l : Nat → Int64) : va_E := match kt k with
  | 10 => .inl (g.2.1 0, kn k, .inl i)
  | 11 => .inl (g.2.1 1, kn k, .inl i)
  | 12 => .inl (g.2.1 2, kn k, .inl i)
  | 13 => .inl (g.2.1 3, kn k, .inr (.inl l))
  | 14 => .inl (g.2.1 4, kn k, .inr (.inr (.inr (.inr (fun j => some (g.2.2 (rfs c k j)))))))
  | 15 => .inl (g.2.1 5, kn k, .inr (.inr (.inr (.inr (fun j => some (g.2.2 (rfs c k j)))))))
  | t => .inr (t, flds t g.2.2 i l (rfs c k))
def Wd (g : GW) (μ : Mm) : va_W := (List.range 88).map fun k => (g.2.2 k, cellE g μ.2.2 k (μ.1 k) (μ.2.1 k))
abbrev tysW (g : GW) : List (ClassId × FieldType) := [(g.2.1 0, .int), (g.2.1 1, .byte), (g.2.1 2, .boolean), (g.2.1 3, .long), (g.2.1 4, .object "NamedWind$Ship"), (g.2.1 5, .array .int)]
def AW (g : GW) : Nat → Prop := fun q => ∃ k, k < 88 ∧ q = g.2.2 k
theorem Wd_at (g : GW) (μ : Mm) {k : Nat} (hk : k < 88) : (Wd g μ)[k]? = some (g.2.2 k, cellE g μ.2.2 k (μ.1 k) (μ.2.1 k)) := by simp [Wd, hk]
theorem Wd_set {g : GW} {μ μ' : Mm} {k : Nat} {e : va_E} (h0 : cellE g μ'.2.2 k (μ'.1 k) (μ'.2.1 k) = e) (h : ∀ a, a < 88 → a ≠ k → cellE g μ'.2.2 a (μ'.1 a) (μ'.2.1 a) = cellE g μ.2.2 a (μ.1 a) (μ.2.1 a)) : (Wd g μ).set k (g.2.2 k, e) = Wd g μ' := by
  apply List.ext_getElem?
  intro i
  rw [List.getElem?_set]
  by_cases hi : i < 88
  · rw [Wd_at g μ' hi, Wd_at g μ hi]
    by_cases hk : k = i
    · subst hk
      rw [if_pos rfl, if_pos (by simpa [Wd] using hi), h0]
    · rw [if_neg hk, h i hi (fun q => hk q.symm)]
  · have a1 : (Wd g μ)[i]? = none := by simp [Wd]; omega
    have a2 : (Wd g μ')[i]? = none := by simp [Wd]; omega
    rw [a1, a2]
    by_cases hk : k = i
    · rw [if_pos hk, if_neg (by simp [Wd]; omega)]
    · rw [if_neg hk]
def nestW : List Cond := [.fieldLinkNest "NamedWind$Reader" 28 "NamedWind$Page" "codes" "[I" "NamedWind", .fieldLinkNest "NamedWind" 266 "NamedWind$Page" "codes" "[I" "NamedWind", .fieldLinkNest "NamedWind$Reader" 23 "NamedWind$Page" "length" "I" "NamedWind", .fieldLinkNest "NamedWind" 72 "NamedWind$Page" "length" "I" "NamedWind", .fieldLinkNest "NamedWind$Sea" 84 "NamedWind$Ship" "kind" "I" "NamedWind", .fieldLinkNest "NamedWind" 171 "NamedWind$Ship" "kind" "I" "NamedWind", .fieldLinkNest "NamedWind$Sea" 64 "NamedWind$Ship" "place" "I" "NamedWind", .fieldLinkNest "NamedWind" 142 "NamedWind$Ship" "place" "I" "NamedWind", .fieldLinkNest "NamedWind$Sea" 67 "NamedWind$Ship" "call" "I" "NamedWind", .fieldLinkNest "NamedWind$Sea" 97 "NamedWind$Ship" "served" "I" "NamedWind", .fieldLinkNest "NamedWind$Sea" 100 "NamedWind$Ship" "turned" "I" "NamedWind", .fieldLinkNest "NamedWind" 129 "NamedWind$Sea" "fleet" "[LNamedWind$Ship;" "NamedWind", .fieldLinkNest "NamedWind" 203 "NamedWind$Sea" "couldBe" "[I" "NamedWind", .fieldLinkNest "NamedWind" 236 "NamedWind$Sea" "ships" "I" "NamedWind", .fieldLinkNest "NamedWind" 161 "NamedWind$Sea" "spentNames" "I" "NamedWind", .fieldLinkNest "NamedWind" 239 "NamedWind$Sea" "days" "I" "NamedWind", .fieldLinkNest "NamedWind" 240 "NamedWind$Sea" "answers" "I" "NamedWind", .fieldLinkNest "NamedWind" 212 "NamedWind$Wake" "begun" "Z" "NamedWind", .fieldLinkNest "NamedWind" 206 "NamedWind$Wake" "days" "I" "NamedWind", .fieldLinkNest "NamedWind$Forecast" 33 "NamedWind$Book" "strength" "[[I" "NamedWind", .fieldLinkNest "NamedWind" 106 "NamedWind$Book" "strength" "[[I" "NamedWind", .fieldLinkNest "NamedWind$Reader" 60 "NamedWind$Book" "strength" "[[I" "NamedWind", .fieldLinkNest "NamedWind$Sea" 121 "NamedWind$Book" "strength" "[[I" "NamedWind", .fieldLinkNest "NamedWind$Reader" 54 "NamedWind$Book" "owner" "[I" "NamedWind", .fieldLinkNest "NamedWind" 113 "NamedWind$Book" "owner" "[I" "NamedWind", .fieldLinkNest "NamedWind$Forecast" 42 "NamedWind" "SURE_OF" "[I" "NamedWind", .methodLinkNest "NamedWind" 11 yX2_init "NamedWind", .methodLinkNest "NamedWind" 18 yX3_init "NamedWind", .methodLinkNest "NamedWind" 25 yX4_init "NamedWind", .methodLinkNest "NamedWind$Sea" 21 yX5_init "NamedWind", .methodLinkNest "NamedWind" 38 yX6_init "NamedWind", .methodLinkNest "NamedWind" 45 yX1_init "NamedWind", .methodLinkNest "NamedWind" 52 yX0_init "NamedWind", .methodLinkNest "NamedWind" 60 yX2_add "NamedWind", .methodLinkNest "NamedWind" 64 yX2_empty "NamedWind", .methodLinkNest "NamedWind" 68 yX3_read "NamedWind", .methodLinkNest "NamedWind$Reader" 11 yX0_clear "NamedWind", .methodLinkNest "NamedWind$Reader" 51 yX7_isName "NamedWind", .methodLinkNest "NamedWind$Reader" 57 yX7_isSign "NamedWind", .methodLinkNest "NamedWind" 76 yX3_atEnd "NamedWind", .methodLinkNest "NamedWind" 83 yX4_clear "NamedWind", .methodLinkNest "NamedWind" 86 yX6_end "NamedWind", .methodLinkNest "NamedWind" 93 yX0_nameCount "NamedWind", .methodLinkNest "NamedWind" 123 yX4_add "NamedWind", .methodLinkNest "NamedWind$Sea" 54 yX5_begin "NamedWind", .methodLinkNest "NamedWind" 133 yX5_tell "NamedWind", .methodLinkNest "NamedWind" 139 yX5_isA "NamedWind", .methodLinkNest "NamedWind" 145 yX4_isSpent "NamedWind", .methodLinkNest "NamedWind" 148 yX4_replaceCall "NamedWind", .methodLinkNest "NamedWind$Sea" 77 yX5_spends "NamedWind", .methodLinkNest "NamedWind" 151 yX4_passDay "NamedWind", .methodLinkNest "NamedWind$Sea" 91 yX0_favours "NamedWind", .methodLinkNest "NamedWind$Sea" 87 yX7_placeAfter "NamedWind", .methodLinkNest "NamedWind" 294 yX0_favours "NamedWind", .methodLinkNest "NamedWind" 155 yX4_homeCount "NamedWind", .methodLinkNest "NamedWind" 158 yX4_spentCount "NamedWind", .methodLinkNest "NamedWind" 174 yX1_begin "NamedWind", .methodLinkNest "NamedWind$Forecast" 38 yX0_favour "NamedWind", .methodLinkNest "NamedWind" 178 yX4_freeNames "NamedWind", .methodLinkNest "NamedWind" 181 yX1_chances "NamedWind", .methodLinkNest "NamedWind$Forecast" 53 yX7_placeAhead "NamedWind", .methodLinkNest "NamedWind$Forecast" 60 yX7_placeBehind "NamedWind", .methodLinkNest "NamedWind" 192 yX1_bestCall "NamedWind", .methodLinkNest "NamedWind" 196 yX0_tellingSign "NamedWind", .methodLinkNest "NamedWind" 304 yX0_strengthInAll "NamedWind", .methodLinkNest "NamedWind" 209 yX6_begin "NamedWind", .methodLinkNest "NamedWind" 215 yX6_add "NamedWind", .methodLinkNest "NamedWind" 217 yX6_ways "NamedWind", .methodLinkNest "NamedWind$Wake" 30 yX0_strengthInAll "NamedWind", .methodLinkNest "NamedWind$Wake" 36 yX7_placeAfter "NamedWind", .methodLinkNest "NamedWind" 221 yX6_callOn "NamedWind", .methodLinkNest "NamedWind" 225 yX4_copyFrom "NamedWind", .methodLinkNest "NamedWind$Sea" 44 yX5_copyFrom "NamedWind", .methodLinkNest "NamedWind" 229 yX4_passYears "NamedWind", .methodLinkNest "NamedWind" 233 yX4_placesTogether "NamedWind"]
theorem nestW_in : ∀ w ∈ nestW, w ∈ lw_tbl := by decide +kernel
theorem wsL_good : wsL_law.all goodWord = true := by decide +kernel
def isNest : Cond → Bool
  | .fieldLinkNest .. => true
  | .methodLinkNest .. => true
  | _ => false
theorem nestW_is : nestW.all isNest = true := by decide +kernel
def stT (k : Nat) : List Int32 := match k with
  | 88 => [2, 3, 1, 2, 2]
  | 89 => [2, 2, 1, 1, 1]
  | 90 => [1, 30, 900, 27000, 810000, 24300000, 729000000]
  | _ => []
def stN (k : Nat) : String := match k with
  | 88 => "SERVED_BY"
  | 89 => "TURNED_BY"
  | 90 => "SURE_OF"
  | _ => ""
def conc (g : GW) : Value → Value
  | .ref k => .ref (g.2.2 k)
  | v => v
theorem conc_cat (g : GW) (v : Value) : (conc g v).category = v.category := by cases v <;> rfl
/-- what a state's tables and statics give -/
def OKw (g : GW) (s : State) : Prop := va_K g.1 vwCl (tysW g) s ∧ (∀ w ∈ nestW, va_Nw w s) ∧ (∀ i j, i < 88 → j < 88 → g.2.2 i = g.2.2 j → i = j) ∧ ∀ k, 88 ≤ k → k < 91 → va_Z "NamedWind" (stN k) "[I" (.ref (g.2.2 k)) (AW g) s s.heap ∧ va_T .int (g.2.2 k) (stT k).length (fun j => .int ((stT k).getD j 0)) (AW g) s s.heap
theorem OKw.moved {g : GW} {s U : State} (h : OKw g s) (hW : s.WarmedH U.vm) {locs : List Loc} (hS : va_S (AW g) s.heap U.heap locs) : OKw g U := by
  obtain ⟨h1, h2, h3, h4⟩ := h
  refine ⟨va_K.moved hW.alike h1, fun w hw => ?_, h3, fun k ha hb => ?_⟩
  · have h5 := List.all_eq_true.mp nestW_is w hw
    have h6 := h2 w hw
    cases w <;> first | exact va_Nw.warmF hW h6 | exact va_Nw.warmM hW h6 | exact absurd h5 (by simp [isNest])
  · obtain ⟨z1, z2⟩ := h4 k ha hb
    exact ⟨(va_Z.moved hW.alike z1).kept (fun a q1 q2 => hS.2.1 a q1 q2), (va_T.moved hW.alike z2).kept (fun a q1 q2 => hS.2.1 a q1 q2)⟩
theorem OKw.calling {g : GW} {U : State} (h : OKw g U) (f : JFrame) (mk : MethodId) (a : Array Value) : OKw g (U.calling f mk a) := by
  obtain ⟨h1, h2, h3, h4⟩ := h
  refine ⟨va_K.moved (u := U) (U := U.calling f mk a) (Vm.Alike.refl U.vm) h1, fun w hw => ?_, h3, fun k ha hb => ?_⟩
  · have h5 := List.all_eq_true.mp nestW_is w hw
    have h6 := h2 w hw
    cases w <;> first | exact va_Nw.same rfl rfl h6 | exact absurd h5 (by simp [isNest])
  · obtain ⟨z1, z2⟩ := h4 k ha hb
    exact ⟨va_Z.moved (u := U) (U := U.calling f mk a) (Vm.Alike.refl U.vm) z1, va_T.moved (u := U) (U := U.calling f mk a) (Vm.Alike.refl U.vm) z2⟩
theorem OKw.D {g : GW} {s : State} (h : OKw g s) (μ : Mm) : va_D (AW g) (Wd g μ) := by
  constructor
  · intro i j p q hi hj hpq
    have ei : i < 88 := by
      have := (List.getElem?_eq_some_iff.mp hi).1
      simpa [Wd] using this
    have ej : j < 88 := by
      have := (List.getElem?_eq_some_iff.mp hj).1
      simpa [Wd] using this
    rw [Wd_at g μ ei] at hi
    rw [Wd_at g μ ej] at hj
    cases hi
    cases hj
    exact h.2.2.1 i j ei ej hpq
  · intro k q hq
    have ei : k < 88 := by
      have := (List.getElem?_eq_some_iff.mp hq).1
      simpa [Wd] using this
    rw [Wd_at g μ ei] at hq
    cases hq
    exact ⟨k, ei, rfl⟩
/-- the locals, as a list of abstract values; .null: nothing is known there -/
def asl1 (g : GW) (i : Nat) (o : Option Value) : Option (Nat × Value) := match o with
  | none => none
  | some Value.null => none
  | some v => some (i, conc g v)
def asl (g : GW) (lv : List Value) : List (Nat × Value) := (List.range lv.length).filterMap fun i => asl1 g i lv[i]?
theorem asl_mem {g : GW} {lv : List Value} {i : Nat} {v : Value} (h : lv[i]? = some v) (hv : v ≠ .null) : (i, conc g v) ∈ asl g lv := by
  refine List.mem_filterMap.mpr ⟨i, List.mem_range.mpr (List.getElem?_eq_some_iff.mp h).1, ?_⟩
  rw [h]
  cases v <;> first | rfl | exact absurd rfl hv
theorem asl_of {g : GW} {lv : List Value} {q : Nat × Value} (h : q ∈ asl g lv) : ∃ v, lv[q.1]? = some v ∧ v ≠ .null ∧ q.2 = conc g v := by
  obtain ⟨i, -, hi⟩ := List.mem_filterMap.mp h
  cases hv : lv[i]? with
  | none => rw [hv] at hi; cases hi
  | some v =>
    rw [hv] at hi
    cases v <;> first | (cases hi; done) | (cases hi; exact ⟨_, hv, (by intro q; cases q), rfl⟩)
def LVs (g : GW) (ls : Array Slot) (nL : Nat) (lv : List Value) : Prop := lv_has ls nL (asl g lv)
theorem LVs.get {g : GW} {ls : Array Slot} {nL : Nat} {lv : List Value} (h : LVs g ls nL lv) {i : Nat} {v : Value} (hv : lv[i]? = some v) (hn : v ≠ .null) : ls[i]? = some (.val (conc g v)) := h.2.2 _ (asl_mem hv hn)
def okp (lv : List Value) (i : Nat) : Bool := match i with
  | 0 => true
  | j + 1 => match lv[j]? with
    | some (.long _) => false
    | some (.double _) => false
    | _ => true
theorem LVs.put {g : GW} {ls' : Array Slot} {nL : Nat} {lv : List Value} {i : Nat} {v : Value} (ho : okp lv i = true) (h : lv_has ls' nL ((i, conc g v) :: (asl g lv).filter (fun q => !(q.1 == i) && !(q.1 + 1 == i && q.2.category == 2)))) : LVs g ls' nL (lv.set i v) := by
  refine ⟨h.1, h.2.1, fun q hq => ?_⟩
  obtain ⟨w, h1, h2, h3⟩ := asl_of hq
  obtain ⟨j, qv⟩ := q
  dsimp only at h1 h3
  subst h3
  rw [List.getElem?_set] at h1
  by_cases e : i = j
  · subst e
    by_cases hl : i < lv.length
    · rw [if_pos rfl, if_pos hl] at h1
      cases h1
      exact h.2.2 _ List.mem_cons_self
    · rw [if_pos rfl, if_neg hl] at h1
      cases h1
  · rw [if_neg e] at h1
    refine h.2.2 (j, conc g w) (List.mem_cons_of_mem _ (List.mem_filter.mpr ⟨asl_mem h1 h2, ?_⟩))
    simp only [Bool.and_eq_true, Bool.not_eq_true', beq_eq_false_iff_ne, ne_eq, Bool.and_eq_false_iff]
    refine ⟨fun q => e q.symm, ?_⟩
    by_cases e2 : j + 1 = i
    · right
      subst e2
      intro hc
      have hc : (conc g w).category = 2 := by simpa using hc
      rw [conc_cat] at hc
      cases w <;> simp_all [okp, Value.category]
    · left
      exact e2
theorem LVs.putL {g : GW} {ls' : Array Slot} {nL : Nat} {lv : List Value} {i : Nat} {x : Int64} (ho : okp lv i = true) (h : lv_has ls' nL ((i, .long x) :: (asl g lv).filter (fun q => !(q.1 == i) && (!(q.1 == i + 1) && !(q.1 + 1 == i && q.2.category == 2))))) : LVs g ls' nL ((lv.set i (.long x)).set (i + 1) .null) := by
  refine ⟨h.1, h.2.1, fun q hq => ?_⟩
  obtain ⟨w, h1, h2, h3⟩ := asl_of hq
  obtain ⟨j, qv⟩ := q
  dsimp only at h1 h3
  subst h3
  rw [List.getElem?_set] at h1
  by_cases e0 : i + 1 = j
  · subst e0
    rw [if_pos rfl] at h1
    by_cases hl : i + 1 < (lv.set i (.long x)).length
    · rw [if_pos hl] at h1
      cases h1
      exact absurd rfl h2
    · rw [if_neg hl] at h1
      cases h1
  rw [if_neg e0, List.getElem?_set] at h1
  by_cases e : i = j
  · subst e
    by_cases hl : i < lv.length
    · rw [if_pos rfl, if_pos hl] at h1
      cases h1
      exact h.2.2 _ List.mem_cons_self
    · rw [if_pos rfl, if_neg hl] at h1
      cases h1
  · rw [if_neg e] at h1
    refine h.2.2 (j, conc g w) (List.mem_cons_of_mem _ (List.mem_filter.mpr ⟨asl_mem h1 h2, ?_⟩))
    simp only [Bool.and_eq_true, Bool.not_eq_true', beq_eq_false_iff_ne, ne_eq, Bool.and_eq_false_iff]
    refine ⟨fun q => e q.symm, fun q => e0 q.symm, ?_⟩
    by_cases e2 : j + 1 = i
    · right
      subst e2
      intro hc
      have hc : (conc g w).category = 2 := by simpa using hc
      rw [conc_cat] at hc
      cases w <;> simp_all [okp, Value.category]
    · left
      exact e2
def rmv (d : Nat) : Room := { frames := d, cells := 0, slots := 0, locals := 48 * d }
def Qvw (g : GW) (Q : Option Value → Mm → Prop) : Array Value → State → Outcome → State → Prop := fun _ st oc t => (∃ (r : Option Value) (μ' : Mm), oc = .returned (r.map (conc g)) ∧ Q r μ' ∧ va_P g.1 vwCl (Wd g μ') t.heap) ∧ va_F (AW g) st t
/-- the machine beside a frame of a method: p e s m args below meth c -/
def Ctx (l : Launch) (g : GW) (own : String) (cc : ByteArray) (nL : Nat) (rt : Option FieldType) (p : Program) (s : State) (m : MethodId) (args : Array Value) (meth : Method) (c : Code) : Prop :=
  p.tables.exec = Jvm.exec ∧ c.code = cc ∧ meth.sig.returnType = rt ∧ c.maxLocals = nL ∧ s.vm.findClass own = some m.cls ∧ meth.locks = false ∧ (∀ w ∈ wsL_law, w.before args s = true) ∧ OKw g s
def V (l : Launch) (g : GW) (own : String) (cc : ByteArray) (nL : Nat) (rt : Option FieldType) (d : Nat) (pc : Nat) (lv st : List Value) (μ : Mm) (Q : Option Value → Mm → Prop) : Prop :=
  ∀ (p : Program) (e : Env) (s : State) (m : MethodId) (args : Array Value) (below : List Frame) (meth : Method) (c : Code), Ctx l g own cc nL rt p s m args meth c → ∀ (H : Heap) (locs : List Loc) (ls : Array Slot), va_P g.1 vwCl (Wd g μ) H → va_S (AW g) s.heap H locs → LVs g ls nL lv → W p l e (rmv d) s m args below meth c H locs 0 0 (MQ below (Qvw g Q) args s 0 0 (AW g)) (F0 m pc ls (st.map (conc g)))
/-- a method's contract: called with these (abstract) values, in this memory -/
def Con (l : Launch) (g : GW) (y : MethodName) (cc : ByteArray) (nL : Nat) (rt : Option FieldType) (d : Nat) (av : List Value) (μ : Mm) (Q : Option Value → Mm → Prop) : Prop :=
  Met l y (.code y cc nL rt :: wsL_law) (rmv d) (va_Pc (av.map (conc g)) (fun U => OKw g U ∧ va_P g.1 vwCl (Wd g μ) U.heap)) (Qvw g Q) 0 0 (AW g)
def slo : List Value → List Value
  | [] => []
  | .long x :: t => .long x :: .null :: slo t
  | .double x :: t => .double x :: .null :: slo t
  | v :: t => v :: slo t
theorem slo_args (g : GW) : ∀ (av : List Value) (b i : Nat) (v : Value), (slo av)[i]? = some v → v ≠ .null → (b + i, conc g v) ∈ lv_args b (av.map (conc g)) := by
  intro av
  induction av with
  | nil => intro b i v h; simp [slo] at h
  | cons w t ih =>
    intro b i v h hv
    have two : (∃ i2, i = i2 + 2 ∧ (slo t)[i2]? = some v) → w.category = 2 → (b + i, conc g v) ∈ lv_args b ((w :: t).map (conc g)) := by
      rintro ⟨i2, rfl, h2⟩ hc
      have := ih (b + 2) i2 v h2 hv
      show _ ∈ lv_args b (conc g w :: t.map (conc g))
      simp only [lv_args, conc_cat, hc, if_true]
      rw [show b + (i2 + 2) = b + 2 + i2 by omega]
      exact List.mem_cons_of_mem _ this
    have one : (∃ i2, i = i2 + 1 ∧ (slo t)[i2]? = some v) → ¬ w.category = 2 → (b + i, conc g v) ∈ lv_args b ((w :: t).map (conc g)) := by
      rintro ⟨i2, rfl, h2⟩ hc
      have := ih (b + 1) i2 v h2 hv
      show _ ∈ lv_args b (conc g w :: t.map (conc g))
      simp only [lv_args, conc_cat, hc, if_false]
      rw [show b + (i2 + 1) = b + 1 + i2 by omega]
      exact List.mem_cons_of_mem _ this
    have zero : i = 0 → v = w → (b + i, conc g v) ∈ lv_args b ((w :: t).map (conc g)) := by
      rintro rfl rfl
      show _ ∈ lv_args b (conc g v :: t.map (conc g))
      simp [lv_args]
    cases w with
    | long x =>
      match i, h with
      | 0, h => exact zero rfl (by simpa [slo] using h.symm)
      | 1, h => exact absurd (by simpa [slo] using h.symm) hv
      | i2 + 2, h => exact two ⟨i2, rfl, by simpa [slo] using h⟩ rfl
    | double x =>
      match i, h with
      | 0, h => exact zero rfl (by simpa [slo] using h.symm)
      | 1, h => exact absurd (by simpa [slo] using h.symm) hv
      | i2 + 2, h => exact two ⟨i2, rfl, by simpa [slo] using h⟩ rfl
    | _ =>
      match i, h with
      | 0, h => exact zero rfl (by simpa [slo] using h.symm)
      | i2 + 1, h => exact one ⟨i2, rfl, by simpa [slo] using h⟩ (by simp [Value.category])
theorem Con.of {l : Launch} {g : GW} {y : MethodName} {cc : ByteArray} {nL : Nat} {rt : Option FieldType} {d : Nat} {av : List Value} {μ : Mm} {Q : Option Value → Mm → Prop} (lv0 : List Value) (n0 : Nat) (hy : plainName y.cls = true) (hlen : (lg_sl (av.map (conc g))).length ≤ nL) (h0 : slo av ++ List.replicate n0 .null = lv0) (h : V l g y.cls cc nL rt d 0 lv0 [] μ Q) : Con l g y cc nL rt d av μ Q := by
  refine Met.ofW (cc := cc) (maxL := nL) (ret := rt) hy rfl ?_
  intro p e s m args below meth c s₁ B hml hv
  obtain ⟨rfl, hOK, hP⟩ := hv
  have hts := atoms_spec (ws := .code y cc nL rt :: wsL_law) B.pre
  have hown : s.vm.findClass y.cls = some m.cls := findClass_of_methodNamed B.named
  have hl := lv_entry (av.map (conc g)) (n := nL) hlen
  rw [lg_entry_eq]
  have hlv : LVs g ((lg_sl (av.map (conc g)) ++ List.replicate (nL - (lg_sl (av.map (conc g))).length) Slot.unset).toArray) nL lv0 := by
    refine ⟨hl.1, hl.2.1, fun q hq => ?_⟩
    obtain ⟨v, h1, h2, h3⟩ := asl_of hq
    obtain ⟨j, qv⟩ := q
    dsimp only at h1 h3
    subst h3
    rw [← h0] at h1
    have h4 : (slo av)[j]? = some v := by
      by_cases hj : j < (slo av).length
      · rwa [List.getElem?_append_left hj] at h1
      · rw [List.getElem?_append_right (by omega)] at h1
        have := (List.mem_replicate.mp (List.mem_of_getElem? h1)).2
        exact absurd this h2
    have := slo_args g av 0 j v h4 h2
    rw [Nat.zero_add] at this
    exact hl.2.2 _ this
  exact h p e s m _ below meth c ⟨B.exec, B.bytes, B.returns, hml, hown, B.notSynchronized, fun w hw => hts w (List.mem_cons_of_mem _ hw), hOK⟩ s.heap [] _ hP va_S.rf hlv
theorem Con.mono {l : Launch} {g : GW} {y : MethodName} {cc : ByteArray} {nL : Nat} {rt : Option FieldType} {d : Nat} {av : List Value} {μ : Mm} {Q Q' : Option Value → Mm → Prop} (h : Con l g y cc nL rt d av μ Q) (hq : ∀ r μ', Q r μ' → Q' r μ') : Con l g y cc nL rt d av μ Q' := by
  intro p e ha hc hk s m args below hf hs hp hx
  obtain ⟨t, o, a1, b1, b2, ⟨⟨r, μ', e1, e2, e3⟩, b4⟩, b5⟩ := h p e ha hc hk s m args below hf hs hp hx
  exact ⟨t, o, a1, b1, b2, ⟨⟨r, μ', e1, hq _ _ e2, e3⟩, b4⟩, b5⟩
theorem V.mono {l : Launch} {g : GW} {own : String} {cc : ByteArray} {nL : Nat} {rt : Option FieldType} {d pc : Nat} {lv st : List Value} {μ : Mm} {Q Q' : Option Value → Mm → Prop} (h : V l g own cc nL rt d pc lv st μ Q) (hq : ∀ r μ', Q r μ' → Q' r μ') : V l g own cc nL rt d pc lv st μ Q' := by
  intro p e s m args below meth c C H locs ls hP hS hl T hT X
  obtain ⟨t, a1, o, b1, b2, ⟨⟨r, μ', e1, e2, e3⟩, b4⟩, b5⟩ := h p e s m args below meth c C H locs ls hP hS hl T hT X
  exact ⟨t, a1, o, b1, b2, ⟨⟨r, μ', e1, hq _ _ e2, e3⟩, b4⟩, b5⟩
