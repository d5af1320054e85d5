/-! ===== THE ROWS OF V ===== -/
def clR : Nat → String := fun k => match k with
  | 0 => RX0
  | 1 => RX1
  | 2 => RX2
  | 3 => RX3
  | 4 => RX4
  | 5 => RX5
  | 6 => RX6
  | 7 => RX7
  | 8 => RX8
  | _ => ""
def clT : Nat → u_T := fun k => match k with
  | 0 => TX0
  | 1 => TX1
  | 2 => TX2
  | 3 => TX3
  | 4 => TX4
  | 5 => TX5
  | 6 => TX6
  | 7 => TX7
  | _ => TX8
def clN : Nat → Nat := fun k => match k with
  | 0 => 2
  | 1 => 4
  | 2 => 2
  | 3 => 2
  | 4 => 6
  | 5 => 5
  | 6 => 4
  | 7 => 11
  | 8 => 44
  | _ => 0
def clTy : Nat → Nat → FieldType := fun k => match k with
  | 0 => tyX0
  | 1 => tyX1
  | 2 => tyX2
  | 3 => tyX3
  | 4 => tyX4
  | 5 => tyX5
  | 6 => tyX6
  | 7 => tyX7
  | _ => tyX8
def CLo (ci : Nat) : Prop := vwCl[ci]? = some (clR ci, clT ci, clN ci) ∧ (∀ w ∈ u_ws (clR ci) (clT ci) (clN ci), w ∈ wsL_law) ∧ (∀ k, k < clN ci → parseFieldDescriptor (clT ci k).2.2.1 = some (clTy ci k)) ∧ (∀ a, a < clN ci → ∀ b, b < clN ci → a ≠ b → (clT ci a).2.1 ≠ (clT ci b).2.1)
theorem CLo_all (ci : Nat) (h : ci < 9) : CLo ci := by
  match ci, h with
  | 0, _ => exact ⟨rfl, inlX0, tyX0_ok, nmX0⟩
  | 1, _ => exact ⟨rfl, inlX1, tyX1_ok, nmX1⟩
  | 2, _ => exact ⟨rfl, inlX2, tyX2_ok, nmX2⟩
  | 3, _ => exact ⟨rfl, inlX3, tyX3_ok, nmX3⟩
  | 4, _ => exact ⟨rfl, inlX4, tyX4_ok, nmX4⟩
  | 5, _ => exact ⟨rfl, inlX5, tyX5_ok, nmX5⟩
  | 6, _ => exact ⟨rfl, inlX6, tyX6_ok, nmX6⟩
  | 7, _ => exact ⟨rfl, inlX7, tyX7_ok, nmX7⟩
  | 8, _ => exact ⟨rfl, inlX8, tyX8_ok, nmX8⟩
def FLp (own : String) (idx ci j : Nat) : Prop := ci < 9 ∧ j < clN ci ∧ ((Cond.fieldLink own idx (clT ci j).1 (clT ci j).2.1 (clT ci j).2.2.1 ∈ wsL_law) ∨ (Cond.fieldLinkNest own idx (clT ci j).1 (clT ci j).2.1 (clT ci j).2.2.1 "NamedWind" ∈ nestW))
def MLp (own : String) (idx : Nat) (y : MethodName) (cc : ByteArray) (nL : Nat) (rt : Option FieldType) (n : Nat) : Prop :=
  ((Cond.methodLink own idx y ∈ wsL_law) ∨ (Cond.methodLinkNest own idx y "NamedWind" ∈ nestW)) ∧ Cond.initialized y.cls ∈ wsL_law ∧ Cond.code y cc nL rt ∈ wsL_law ∧ (y.cls ≠ "java/lang/invoke/MethodHandle" ∧ y.cls ≠ "java/lang/invoke/VarHandle") ∧ (parseMethodDescriptor y.desc).map (fun d => d.parameters.length) = some n ∧ nL ≤ 28
def MLv (own : String) (idx : Nat) (y : MethodName) (cc : ByteArray) (nL : Nat) (rt : Option FieldType) (n : Nat) : Prop := MLp own idx y cc nL rt n ∧ Cond.instanceMethod y ∈ wsL_law ∧ Cond.selects y.cls y y ∈ wsL_law
def MLs (own : String) (idx : Nat) (y : MethodName) (cc : ByteArray) (nL : Nat) (rt : Option FieldType) (n : Nat) : Prop := MLp own idx y cc nL rt n ∧ Cond.static y ∈ wsL_law
theorem kn_lt (k : Nat) : kn k < 4000 := by
  by_cases h : k < 88
  · exact (by decide +kernel : ∀ k, k < 88 → kn k < 4000) k h
  · have e : ktL.length = 88 := by decide +kernel
    have e2 : ktL.getD k (99, 0) = (99, 0) := by rw [List.getD_eq_getElem?_getD, List.getElem?_eq_none (by omega)]; rfl
    unfold kn
    rw [e2]
    decide
theorem cellE_obj {g : GW} {c : Nat × Nat} {k : Nat} {i : Nat → Int32} {l : Nat → Int64} {ci : Nat} (h : kt k = ci) (hc : ci < 9) : cellE g c k i l = .inr (ci, flds ci g.2.2 i l (rfs c k)) := by
  subst h
  unfold cellE
  generalize kt k = t at hc ⊢
  match t, hc with
  | 0, _ => rfl
  | 1, _ => rfl
  | 2, _ => rfl
  | 3, _ => rfl
  | 4, _ => rfl
  | 5, _ => rfl
  | 6, _ => rfl
  | 7, _ => rfl
  | 8, _ => rfl
theorem gW {Ts : List Cond} (h : ∀ w ∈ Ts, goodWord w = true) : GoodIn Ts Ts := fun w hw => ⟨hw, good_of_word (h w hw)⟩
theorem wsL_G : GoodIn wsL_law wsL_law := fun w hw => ⟨hw, good_of_word (List.all_eq_true.mp wsL_good w hw)⟩
theorem cellsI {g : GW} {μ : Mm} {k j : Nat} {v : Int32} (a : Nat) (hn : a ≠ k) : cellE g (setI μ k j v).2.2 a ((setI μ k j v).1 a) ((setI μ k j v).2.1 a) = cellE g μ.2.2 a (μ.1 a) (μ.2.1 a) := by
  show cellE g μ.2.2 a (up2 μ.1 k j v a) (μ.2.1 a) = _
  rw [up2_ne hn]
theorem cellsL {g : GW} {μ : Mm} {k j : Nat} {v : Int64} (a : Nat) (hn : a ≠ k) : cellE g (setL μ k j v).2.2 a ((setL μ k j v).1 a) ((setL μ k j v).2.1 a) = cellE g μ.2.2 a (μ.1 a) (μ.2.1 a) := by
  show cellE g μ.2.2 a (μ.1 a) (up2 μ.2.1 k j v a) = _
  rw [up2_ne hn]
section VROWS
variable {l : Launch} {g : GW} {own : String} {cc : ByteArray} {nL : Nat} {rt : Option FieldType} {d pc : Nat} {lv st : List Value} {μ : Mm} {Q : Option Value → Mm → Prop}
theorem V_iadd {x y : Int32} (dg : decode cc pc = .ok (.iadd, 1)) (K : V l g own cc nL rt d (pc + 1) lv (.int (x + y) :: st) μ Q) : V l g own cc nL rt d pc lv (.int y :: .int x :: st) μ Q := by
  intro p e s m args below meth c C H locs ls hP hS hl
  exact lv_iadd C.1 C.2.1 dg (K p e s m args below meth c C H locs ls hP hS hl)
theorem V_isub {x y : Int32} (dg : decode cc pc = .ok (.isub, 1)) (K : V l g own cc nL rt d (pc + 1) lv (.int (x - y) :: st) μ Q) : V l g own cc nL rt d pc lv (.int y :: .int x :: st) μ Q := by
  intro p e s m args below meth c C H locs ls hP hS hl
  exact lv_isub C.1 C.2.1 dg (K p e s m args below meth c C H locs ls hP hS hl)
theorem V_imul {x y : Int32} (dg : decode cc pc = .ok (.imul, 1)) (K : V l g own cc nL rt d (pc + 1) lv (.int (x * y) :: st) μ Q) : V l g own cc nL rt d pc lv (.int y :: .int x :: st) μ Q := by
  intro p e s m args below meth c C H locs ls hP hS hl
  exact lv_imul C.1 C.2.1 dg (K p e s m args below meth c C H locs ls hP hS hl)
theorem V_iand {x y : Int32} (dg : decode cc pc = .ok (.iand, 1)) (K : V l g own cc nL rt d (pc + 1) lv (.int (x &&& y) :: st) μ Q) : V l g own cc nL rt d pc lv (.int y :: .int x :: st) μ Q := by
  intro p e s m args below meth c C H locs ls hP hS hl
  exact lv_iand C.1 C.2.1 dg (K p e s m args below meth c C H locs ls hP hS hl)
theorem V_ior {x y : Int32} (dg : decode cc pc = .ok (.ior, 1)) (K : V l g own cc nL rt d (pc + 1) lv (.int (x ||| y) :: st) μ Q) : V l g own cc nL rt d pc lv (.int y :: .int x :: st) μ Q := by
  intro p e s m args below meth c C H locs ls hP hS hl
  exact lv_ior C.1 C.2.1 dg (K p e s m args below meth c C H locs ls hP hS hl)
theorem V_ixor {x y : Int32} (dg : decode cc pc = .ok (.ixor, 1)) (K : V l g own cc nL rt d (pc + 1) lv (.int (x ^^^ y) :: st) μ Q) : V l g own cc nL rt d pc lv (.int y :: .int x :: st) μ Q := by
  intro p e s m args below meth c C H locs ls hP hS hl
  exact lv_ixor C.1 C.2.1 dg (K p e s m args below meth c C H locs ls hP hS hl)
theorem V_idiv {x y : Int32} (dg : decode cc pc = .ok (.idiv, 1)) (hne : ¬ y = 0) (K : V l g own cc nL rt d (pc + 1) lv (.int (x / y) :: st) μ Q) : V l g own cc nL rt d pc lv (.int y :: .int x :: st) μ Q := by
  intro p e s m args below meth c C H locs ls hP hS hl
  exact lv_idiv C.1 C.2.1 dg hne (K p e s m args below meth c C H locs ls hP hS hl)
theorem V_irem {x y : Int32} (dg : decode cc pc = .ok (.irem, 1)) (hne : ¬ y = 0) (K : V l g own cc nL rt d (pc + 1) lv (.int (x - x / y * y) :: st) μ Q) : V l g own cc nL rt d pc lv (.int y :: .int x :: st) μ Q := by
  intro p e s m args below meth c C H locs ls hP hS hl
  exact lv_irem C.1 C.2.1 dg hne (K p e s m args below meth c C H locs ls hP hS hl)
theorem V_ineg {x : Int32} (dg : decode cc pc = .ok (.ineg, 1)) (K : V l g own cc nL rt d (pc + 1) lv (.int (-x) :: st) μ Q) : V l g own cc nL rt d pc lv (.int x :: st) μ Q := by
  intro p e s m args below meth c C H locs ls hP hS hl
  exact lv_ineg C.1 C.2.1 dg (K p e s m args below meth c C H locs ls hP hS hl)
theorem V_ladd {x y : Int64} (dg : decode cc pc = .ok (.ladd, 1)) (K : V l g own cc nL rt d (pc + 1) lv (.long (x + y) :: st) μ Q) : V l g own cc nL rt d pc lv (.long y :: .long x :: st) μ Q := by
  intro p e s m args below meth c C H locs ls hP hS hl
  exact lv_ladd C.1 C.2.1 dg (K p e s m args below meth c C H locs ls hP hS hl)
theorem V_lsub {x y : Int64} (dg : decode cc pc = .ok (.lsub, 1)) (K : V l g own cc nL rt d (pc + 1) lv (.long (x - y) :: st) μ Q) : V l g own cc nL rt d pc lv (.long y :: .long x :: st) μ Q := by
  intro p e s m args below meth c C H locs ls hP hS hl
  exact lv_lsub C.1 C.2.1 dg (K p e s m args below meth c C H locs ls hP hS hl)
theorem V_lmul {x y : Int64} (dg : decode cc pc = .ok (.lmul, 1)) (K : V l g own cc nL rt d (pc + 1) lv (.long (x * y) :: st) μ Q) : V l g own cc nL rt d pc lv (.long y :: .long x :: st) μ Q := by
  intro p e s m args below meth c C H locs ls hP hS hl
  exact lv_lmul C.1 C.2.1 dg (K p e s m args below meth c C H locs ls hP hS hl)
theorem V_land {x y : Int64} (dg : decode cc pc = .ok (.land, 1)) (K : V l g own cc nL rt d (pc + 1) lv (.long (x &&& y) :: st) μ Q) : V l g own cc nL rt d pc lv (.long y :: .long x :: st) μ Q := by
  intro p e s m args below meth c C H locs ls hP hS hl
  exact lv_land C.1 C.2.1 dg (K p e s m args below meth c C H locs ls hP hS hl)
theorem V_lor {x y : Int64} (dg : decode cc pc = .ok (.lor, 1)) (K : V l g own cc nL rt d (pc + 1) lv (.long (x ||| y) :: st) μ Q) : V l g own cc nL rt d pc lv (.long y :: .long x :: st) μ Q := by
  intro p e s m args below meth c C H locs ls hP hS hl
  exact lv_lor C.1 C.2.1 dg (K p e s m args below meth c C H locs ls hP hS hl)
theorem V_lxor {x y : Int64} (dg : decode cc pc = .ok (.lxor, 1)) (K : V l g own cc nL rt d (pc + 1) lv (.long (x ^^^ y) :: st) μ Q) : V l g own cc nL rt d pc lv (.long y :: .long x :: st) μ Q := by
  intro p e s m args below meth c C H locs ls hP hS hl
  exact lv_lxor C.1 C.2.1 dg (K p e s m args below meth c C H locs ls hP hS hl)
theorem V_ldiv {x y : Int64} (dg : decode cc pc = .ok (.ldiv, 1)) (hne : ¬ y = 0) (K : V l g own cc nL rt d (pc + 1) lv (.long (x / y) :: st) μ Q) : V l g own cc nL rt d pc lv (.long y :: .long x :: st) μ Q := by
  intro p e s m args below meth c C H locs ls hP hS hl
  exact lv_ldiv C.1 C.2.1 dg hne (K p e s m args below meth c C H locs ls hP hS hl)
theorem V_lrem {x y : Int64} (dg : decode cc pc = .ok (.lrem, 1)) (hne : ¬ y = 0) (K : V l g own cc nL rt d (pc + 1) lv (.long (x - x / y * y) :: st) μ Q) : V l g own cc nL rt d pc lv (.long y :: .long x :: st) μ Q := by
  intro p e s m args below meth c C H locs ls hP hS hl
  exact lv_lrem C.1 C.2.1 dg hne (K p e s m args below meth c C H locs ls hP hS hl)
theorem V_lneg {x : Int64} (dg : decode cc pc = .ok (.lneg, 1)) (K : V l g own cc nL rt d (pc + 1) lv (.long (-x) :: st) μ Q) : V l g own cc nL rt d pc lv (.long x :: st) μ Q := by
  intro p e s m args below meth c C H locs ls hP hS hl
  exact lv_lneg C.1 C.2.1 dg (K p e s m args below meth c C H locs ls hP hS hl)
theorem V_ishl {x y : Int32} (dg : decode cc pc = .ok (.ishl, 1)) (K : V l g own cc nL rt d (pc + 1) lv (.int (x <<< (y &&& 31)) :: st) μ Q) : V l g own cc nL rt d pc lv (.int y :: .int x :: st) μ Q := by
  intro p e s m args below meth c C H locs ls hP hS hl
  exact lv_ishl C.1 C.2.1 dg (K p e s m args below meth c C H locs ls hP hS hl)
theorem V_ishr {x y : Int32} (dg : decode cc pc = .ok (.ishr, 1)) (K : V l g own cc nL rt d (pc + 1) lv (.int (x >>> (y &&& 31)) :: st) μ Q) : V l g own cc nL rt d pc lv (.int y :: .int x :: st) μ Q := by
  intro p e s m args below meth c C H locs ls hP hS hl
  exact lv_ishr C.1 C.2.1 dg (K p e s m args below meth c C H locs ls hP hS hl)
theorem V_iushr {x y v : Int32} (dg : decode cc pc = .ok (.iushr, 1)) (K : V l g own cc nL rt d (pc + 1) lv (.int ((x.toUInt32 >>> (y.toUInt32 &&& Int32.toUInt32 31)).toInt32) :: st) μ Q) : V l g own cc nL rt d pc lv (.int y :: .int x :: st) μ Q := by
  intro p e s m args below meth c C H locs ls hP hS hl
  exact lv_iushr C.1 C.2.1 dg rfl (K p e s m args below meth c C H locs ls hP hS hl)
theorem V_lshl {x : Int64} {y : Int32} (dg : decode cc pc = .ok (.lshl, 1)) (K : V l g own cc nL rt d (pc + 1) lv (.long (x <<< (y.toInt64 &&& 63)) :: st) μ Q) : V l g own cc nL rt d pc lv (.int y :: .long x :: st) μ Q := by
  intro p e s m args below meth c C H locs ls hP hS hl
  exact lv_lshl C.1 C.2.1 dg rfl (K p e s m args below meth c C H locs ls hP hS hl)
theorem V_lshr {x : Int64} {y : Int32} (dg : decode cc pc = .ok (.lshr, 1)) (K : V l g own cc nL rt d (pc + 1) lv (.long (x >>> (y.toInt64 &&& 63)) :: st) μ Q) : V l g own cc nL rt d pc lv (.int y :: .long x :: st) μ Q := by
  intro p e s m args below meth c C H locs ls hP hS hl
  exact lv_lshr C.1 C.2.1 dg rfl (K p e s m args below meth c C H locs ls hP hS hl)
theorem V_lushr {x : Int64} {y : Int32} (dg : decode cc pc = .ok (.lushr, 1)) (K : V l g own cc nL rt d (pc + 1) lv (.long ((x.toUInt64 >>> (y.toInt64.toUInt64 &&& Int64.toUInt64 63)).toInt64) :: st) μ Q) : V l g own cc nL rt d pc lv (.int y :: .long x :: st) μ Q := by
  intro p e s m args below meth c C H locs ls hP hS hl
  exact lv_lushr C.1 C.2.1 dg rfl (K p e s m args below meth c C H locs ls hP hS hl)
theorem V_i2l {x : Int32}  (dg : decode cc pc = .ok (.i2l, 1)) (K : V l g own cc nL rt d (pc + 1) lv (.long (x.toInt64) :: st) μ Q) : V l g own cc nL rt d pc lv (.int x :: st) μ Q := by
  intro p e s m args below meth c C H locs ls hP hS hl
  exact lv_i2l C.1 C.2.1 dg rfl (K p e s m args below meth c C H locs ls hP hS hl)
theorem V_l2i {x : Int64}  (dg : decode cc pc = .ok (.l2i, 1)) (K : V l g own cc nL rt d (pc + 1) lv (.int (x.toInt32) :: st) μ Q) : V l g own cc nL rt d pc lv (.long x :: st) μ Q := by
  intro p e s m args below meth c C H locs ls hP hS hl
  exact lv_l2i C.1 C.2.1 dg rfl (K p e s m args below meth c C H locs ls hP hS hl)
theorem V_i2b {x : Int32}  (dg : decode cc pc = .ok (.i2b, 1)) (K : V l g own cc nL rt d (pc + 1) lv (.int (x.toInt8.toInt32) :: st) μ Q) : V l g own cc nL rt d pc lv (.int x :: st) μ Q := by
  intro p e s m args below meth c C H locs ls hP hS hl
  exact lv_i2b C.1 C.2.1 dg rfl (K p e s m args below meth c C H locs ls hP hS hl)
theorem V_dup {va : Value} (dg : decode cc pc = .ok (.dup, 1)) (hva : va.category = 1) (K : V l g own cc nL rt d (pc + 1) lv (va :: va :: st) μ Q) : V l g own cc nL rt d pc lv (va :: st) μ Q := by
  intro p e s m args below meth c C H locs ls hP hS hl
  exact lv_dup C.1 C.2.1 dg (by rw [conc_cat]; exact hva) (K p e s m args below meth c C H locs ls hP hS hl)
theorem V_dup2_11 {va vb : Value} (dg : decode cc pc = .ok (.dup2, 1)) (hva : va.category = 1) (hvb : vb.category = 1) (K : V l g own cc nL rt d (pc + 1) lv (va :: vb :: va :: vb :: st) μ Q) : V l g own cc nL rt d pc lv (va :: vb :: st) μ Q := by
  intro p e s m args below meth c C H locs ls hP hS hl
  exact lv_dup2_11 C.1 C.2.1 dg (by rw [conc_cat]; exact hva) (by rw [conc_cat]; exact hvb) (K p e s m args below meth c C H locs ls hP hS hl)
theorem V_dup2_2 {va : Value} (dg : decode cc pc = .ok (.dup2, 1)) (hva : va.category = 2) (K : V l g own cc nL rt d (pc + 1) lv (va :: va :: st) μ Q) : V l g own cc nL rt d pc lv (va :: st) μ Q := by
  intro p e s m args below meth c C H locs ls hP hS hl
  exact lv_dup2_2 C.1 C.2.1 dg (by rw [conc_cat]; exact hva) (K p e s m args below meth c C H locs ls hP hS hl)
theorem V_dup_x1 {va vb : Value} (dg : decode cc pc = .ok (.dup_x1, 1)) (hva : va.category = 1) (hvb : vb.category = 1) (K : V l g own cc nL rt d (pc + 1) lv (va :: vb :: va :: st) μ Q) : V l g own cc nL rt d pc lv (va :: vb :: st) μ Q := by
  intro p e s m args below meth c C H locs ls hP hS hl
  exact lv_dup_x1 C.1 C.2.1 dg (by rw [conc_cat]; exact hva) (by rw [conc_cat]; exact hvb) (K p e s m args below meth c C H locs ls hP hS hl)
theorem V_dup_x2 {va vb vd : Value} (dg : decode cc pc = .ok (.dup_x2, 1)) (hva : va.category = 1) (hvb : vb.category = 1) (hvd : vd.category = 1) (K : V l g own cc nL rt d (pc + 1) lv (va :: vb :: vd :: va :: st) μ Q) : V l g own cc nL rt d pc lv (va :: vb :: vd :: st) μ Q := by
  intro p e s m args below meth c C H locs ls hP hS hl
  exact lv_dup_x2 C.1 C.2.1 dg (by rw [conc_cat]; exact hva) (by rw [conc_cat]; exact hvb) (by rw [conc_cat]; exact hvd) (K p e s m args below meth c C H locs ls hP hS hl)
theorem V_pop {va : Value} (dg : decode cc pc = .ok (.pop, 1)) (hva : va.category = 1) (K : V l g own cc nL rt d (pc + 1) lv (st) μ Q) : V l g own cc nL rt d pc lv (va :: st) μ Q := by
  intro p e s m args below meth c C H locs ls hP hS hl
  exact lv_pop C.1 C.2.1 dg (by rw [conc_cat]; exact hva) (K p e s m args below meth c C H locs ls hP hS hl)
theorem V_lcmp {x y : Int64} (dg : decode cc pc = .ok (.lcmp, 1)) (K : V l g own cc nL rt d (pc + 1) lv (.int (lg_cmp x y) :: st) μ Q) : V l g own cc nL rt d pc lv (.long y :: .long x :: st) μ Q := by
  intro p e s m args below meth c C H locs ls hP hS hl
  exact W.lcmp C.1 C.2.1 dg (K p e s m args below meth c C H locs ls hP hS hl)
theorem V_iconst {n : Int} {v : Int32} (dg : decode cc pc = .ok (.iconst n, 1)) (hv : Int32.ofInt n = v) (K : V l g own cc nL rt d (pc + 1) lv (.int v :: st) μ Q) : V l g own cc nL rt d pc lv st μ Q := by
  intro p e s m args below meth c C H locs ls hP hS hl
  exact lv_iconst C.1 C.2.1 dg hv (K p e s m args below meth c C H locs ls hP hS hl)
theorem V_bipush {n : Int} {v : Int32} (dg : decode cc pc = .ok (.bipush n, 2)) (hv : (Int8.ofInt n).toInt32 = v) (K : V l g own cc nL rt d (pc + 2) lv (.int v :: st) μ Q) : V l g own cc nL rt d pc lv st μ Q := by
  intro p e s m args below meth c C H locs ls hP hS hl
  exact lv_bipush C.1 C.2.1 dg hv (K p e s m args below meth c C H locs ls hP hS hl)
theorem V_sipush {n : Int} {v : Int32} (dg : decode cc pc = .ok (.sipush n, 3)) (hv : (Int16.ofInt n).toInt32 = v) (K : V l g own cc nL rt d (pc + 3) lv (.int v :: st) μ Q) : V l g own cc nL rt d pc lv st μ Q := by
  intro p e s m args below meth c C H locs ls hP hS hl
  exact lv_sipush C.1 C.2.1 dg hv (K p e s m args below meth c C H locs ls hP hS hl)
theorem V_lconst {n : Fin 2} {v : Int64} (dg : decode cc pc = .ok (.lconst n, 1)) (hv : Int64.ofNat (n : Nat) = v) (K : V l g own cc nL rt d (pc + 1) lv (.long v :: st) μ Q) : V l g own cc nL rt d pc lv st μ Q := by
  intro p e s m args below meth c C H locs ls hP hS hl
  exact lv_lconst C.1 C.2.1 dg hv (K p e s m args below meth c C H locs ls hP hS hl)
theorem V_ldc {index : Nat} {v : Int32} (hw : Cond.constant own index v ∈ wsL_law) (dg : decode cc pc = .ok (.ldc index, 2)) (K : V l g own cc nL rt d (pc + 2) lv (.int v :: st) μ Q) : V l g own cc nL rt d pc lv st μ Q := by
  intro p e s m args below meth c C H locs ls hP hS hl
  exact lv_ldc C.1 C.2.1 C.2.2.2.2.1 (C.2.2.2.2.2.2.1 _ hw) dg (K p e s m args below meth c C H locs ls hP hS hl)
theorem V_ldcw {index : Nat} {v : Int32} (hw : Cond.constant own index v ∈ wsL_law) (dg : decode cc pc = .ok (.ldc_w index, 3)) (K : V l g own cc nL rt d (pc + 3) lv (.int v :: st) μ Q) : V l g own cc nL rt d pc lv st μ Q := by
  intro p e s m args below meth c C H locs ls hP hS hl
  exact lv_ldcw C.1 C.2.1 C.2.2.2.2.1 (C.2.2.2.2.2.2.1 _ hw) dg (K p e s m args below meth c C H locs ls hP hS hl)
theorem V_ldc2 {index : Nat} {v : Int64} (hw : Cond.constantLong own index v ∈ wsL_law) (dg : decode cc pc = .ok (.ldc2_w index, 3)) (K : V l g own cc nL rt d (pc + 3) lv (.long v :: st) μ Q) : V l g own cc nL rt d pc lv st μ Q := by
  intro p e s m args below meth c C H locs ls hP hS hl
  exact lv_ldc2 C.1 C.2.1 C.2.2.2.2.1 (C.2.2.2.2.2.2.1 _ hw) dg (K p e s m args below meth c C H locs ls hP hS hl)
theorem V_iload_n {k : Fin 4} {i : Nat} {x : Int32} (dg : decode cc pc = .ok (.iload_n k, 1)) (hi : (k : Nat) = i) (h0 : lv[i]? = some (.int x)) (K : V l g own cc nL rt d (pc + 1) lv (.int x :: st) μ Q) : V l g own cc nL rt d pc lv st μ Q := by
  intro p e s m args below meth c C H locs ls hP hS hl
  exact lv_iload_n C.1 C.2.1 dg hi (hl.get h0 (by intro q; cases q)) (K p e s m args below meth c C H locs ls hP hS hl)
theorem V_iload {i : Nat} {x : Int32} (dg : decode cc pc = .ok (.iload i, 2)) (h0 : lv[i]? = some (.int x)) (K : V l g own cc nL rt d (pc + 2) lv (.int x :: st) μ Q) : V l g own cc nL rt d pc lv st μ Q := by
  intro p e s m args below meth c C H locs ls hP hS hl
  exact lv_iload C.1 C.2.1 dg (hl.get h0 (by intro q; cases q)) (K p e s m args below meth c C H locs ls hP hS hl)
theorem V_lload_n {k : Fin 4} {i : Nat} {x : Int64} (dg : decode cc pc = .ok (.lload_n k, 1)) (hi : (k : Nat) = i) (h0 : lv[i]? = some (.long x)) (K : V l g own cc nL rt d (pc + 1) lv (.long x :: st) μ Q) : V l g own cc nL rt d pc lv st μ Q := by
  intro p e s m args below meth c C H locs ls hP hS hl
  exact lv_lload_n C.1 C.2.1 dg hi (hl.get h0 (by intro q; cases q)) (K p e s m args below meth c C H locs ls hP hS hl)
theorem V_lload {i : Nat} {x : Int64} (dg : decode cc pc = .ok (.lload i, 2)) (h0 : lv[i]? = some (.long x)) (K : V l g own cc nL rt d (pc + 2) lv (.long x :: st) μ Q) : V l g own cc nL rt d pc lv st μ Q := by
  intro p e s m args below meth c C H locs ls hP hS hl
  exact lv_lload C.1 C.2.1 dg (hl.get h0 (by intro q; cases q)) (K p e s m args below meth c C H locs ls hP hS hl)
theorem V_aload_n {k : Fin 4} {i : Nat} {x : Nat} (dg : decode cc pc = .ok (.aload_n k, 1)) (hi : (k : Nat) = i) (h0 : lv[i]? = some (.ref x)) (K : V l g own cc nL rt d (pc + 1) lv (.ref x :: st) μ Q) : V l g own cc nL rt d pc lv st μ Q := by
  intro p e s m args below meth c C H locs ls hP hS hl
  exact lv_aload_n C.1 C.2.1 dg hi (hl.get h0 (by intro q; cases q)) (K p e s m args below meth c C H locs ls hP hS hl)
theorem V_aload {i : Nat} {x : Nat} (dg : decode cc pc = .ok (.aload i, 2)) (h0 : lv[i]? = some (.ref x)) (K : V l g own cc nL rt d (pc + 2) lv (.ref x :: st) μ Q) : V l g own cc nL rt d pc lv st μ Q := by
  intro p e s m args below meth c C H locs ls hP hS hl
  exact lv_aload C.1 C.2.1 dg (hl.get h0 (by intro q; cases q)) (K p e s m args below meth c C H locs ls hP hS hl)
theorem V_istore_n {k : Fin 4} {i : Nat} {x : Int32} (dg : decode cc pc = .ok (.istore_n k, 1)) (hi : (k : Nat) = i) (hn : i < nL) (ho : okp lv i = true) (K : V l g own cc nL rt d (pc + 1) (lv.set i (.int x)) st μ Q) : V l g own cc nL rt d pc lv (.int x :: st) μ Q := by
  intro p e s m args below meth c C H locs ls hP hS hl
  exact lv_istore_n C.1 C.2.1 dg hi hl hn rfl (fun ls2 h2 => (K p e s m args below meth c C H locs ls2 hP hS (LVs.put (v := .int x) ho h2)))
theorem V_istore {i : Nat} {x : Int32} (dg : decode cc pc = .ok (.istore i, 2)) (hn : i < nL) (ho : okp lv i = true) (K : V l g own cc nL rt d (pc + 2) (lv.set i (.int x)) st μ Q) : V l g own cc nL rt d pc lv (.int x :: st) μ Q := by
  intro p e s m args below meth c C H locs ls hP hS hl
  exact lv_istore C.1 C.2.1 dg hl hn rfl (fun ls2 h2 => (K p e s m args below meth c C H locs ls2 hP hS (LVs.put (v := .int x) ho h2)))
theorem V_astore_n {k : Fin 4} {i : Nat} {x : Nat} (dg : decode cc pc = .ok (.astore_n k, 1)) (hi : (k : Nat) = i) (hn : i < nL) (ho : okp lv i = true) (K : V l g own cc nL rt d (pc + 1) (lv.set i (.ref x)) st μ Q) : V l g own cc nL rt d pc lv (.ref x :: st) μ Q := by
  intro p e s m args below meth c C H locs ls hP hS hl
  exact lv_astore_n C.1 C.2.1 dg hi hl hn rfl (fun ls2 h2 => (K p e s m args below meth c C H locs ls2 hP hS (LVs.put (v := .ref x) ho h2)))
theorem V_astore {i : Nat} {x : Nat} (dg : decode cc pc = .ok (.astore i, 2)) (hn : i < nL) (ho : okp lv i = true) (K : V l g own cc nL rt d (pc + 2) (lv.set i (.ref x)) st μ Q) : V l g own cc nL rt d pc lv (.ref x :: st) μ Q := by
  intro p e s m args below meth c C H locs ls hP hS hl
  exact lv_astore C.1 C.2.1 dg hl hn rfl (fun ls2 h2 => (K p e s m args below meth c C H locs ls2 hP hS (LVs.put (v := .ref x) ho h2)))
theorem V_lstore_n {k : Fin 4} {i : Nat} {x : Int64} (dg : decode cc pc = .ok (.lstore_n k, 1)) (hi : (k : Nat) = i) (hn : i + 1 < nL) (ho : okp lv i = true) (K : V l g own cc nL rt d (pc + 1) ((lv.set i (.long x)).set (i + 1) .null) st μ Q) : V l g own cc nL rt d pc lv (.long x :: st) μ Q := by
  intro p e s m args below meth c C H locs ls hP hS hl
  exact lv_lstore_n C.1 C.2.1 dg hi hl hn rfl (fun ls2 h2 => (K p e s m args below meth c C H locs ls2 hP hS (LVs.putL ho h2)))
theorem V_lstore {i : Nat} {x : Int64} (dg : decode cc pc = .ok (.lstore i, 2)) (hn : i + 1 < nL) (ho : okp lv i = true) (K : V l g own cc nL rt d (pc + 2) ((lv.set i (.long x)).set (i + 1) .null) st μ Q) : V l g own cc nL rt d pc lv (.long x :: st) μ Q := by
  intro p e s m args below meth c C H locs ls hP hS hl
  exact lv_lstore C.1 C.2.1 dg hl hn rfl (fun ls2 h2 => (K p e s m args below meth c C H locs ls2 hP hS (LVs.putL ho h2)))
theorem asl_at {lv : List Value} {i : Nat} {v : Value} (h : lv[i]? = some v) (hv : v ≠ .null) : ∃ k : Nat, (asl g lv)[k]? = some (i, conc g v) := by
  obtain ⟨k, hk⟩ := List.getElem?_of_mem (asl_mem (g := g) h hv)
  exact ⟨k, hk⟩
theorem V_iinc {i : Nat} {n : Int} {x v : Int32} (dg : decode cc pc = .ok (.iinc i n, 3)) (h0 : lv[i]? = some (.int x)) (hv : x + Int32.ofInt n = v) (hn : i < nL) (ho : okp lv i = true) (K : V l g own cc nL rt d (pc + 3) (lv.set i (.int v)) st μ Q) : V l g own cc nL rt d pc lv st μ Q := by
  intro p e s m args below meth c C H locs ls hP hS hl
  obtain ⟨k, hk⟩ := asl_at (g := g) h0 (by intro q; cases q)
  exact lv_iinc C.1 C.2.1 dg hl hk hv hn rfl (fun ls2 h2 => (K p e s m args below meth c C H locs ls2 hP hS (LVs.put (v := .int v) ho h2)))
theorem V_istore0 { b : Value} {t : List Value} {x : Int32} (dg : decode cc pc = .ok (.istore_n 0, 1)) (hn : 0 < nL) (ho : okp (b :: t) 0 = true) (K : V l g own cc nL rt d (pc + 1) (.int x :: t) st μ Q) : V l g own cc nL rt d pc (b :: t) (.int x :: st) μ Q := V_istore_n dg rfl hn ho K
theorem V_astore0 { b : Value} {t : List Value} {x : Nat} (dg : decode cc pc = .ok (.astore_n 0, 1)) (hn : 0 < nL) (ho : okp (b :: t) 0 = true) (K : V l g own cc nL rt d (pc + 1) (.ref x :: t) st μ Q) : V l g own cc nL rt d pc (b :: t) (.ref x :: st) μ Q := V_astore_n dg rfl hn ho K
theorem V_iinc0 {t : List Value} {n : Int} {x v : Int32} (dg : decode cc pc = .ok (.iinc 0 n, 3)) (hv : x + Int32.ofInt n = v) (hn : 0 < nL) (ho : okp (.int x :: t) 0 = true) (K : V l g own cc nL rt d (pc + 3) (.int v :: t) st μ Q) : V l g own cc nL rt d pc (.int x :: t) st μ Q := V_iinc dg rfl hv hn ho K
theorem V_lstore0 { b b2 : Value} {t : List Value} {x : Int64} (dg : decode cc pc = .ok (.lstore_n 0, 1)) (hn : 1 < nL) (ho : okp (b :: b2 :: t) 0 = true) (K : V l g own cc nL rt d (pc + 1) (.long x :: .null :: t) st μ Q) : V l g own cc nL rt d pc (b :: b2 :: t) (.long x :: st) μ Q := V_lstore_n dg rfl hn ho K
theorem V_istore1 {a0 b : Value} {t : List Value} {x : Int32} (dg : decode cc pc = .ok (.istore_n 1, 1)) (hn : 1 < nL) (ho : okp (a0 :: b :: t) 1 = true) (K : V l g own cc nL rt d (pc + 1) (a0 :: .int x :: t) st μ Q) : V l g own cc nL rt d pc (a0 :: b :: t) (.int x :: st) μ Q := V_istore_n dg rfl hn ho K
theorem V_astore1 {a0 b : Value} {t : List Value} {x : Nat} (dg : decode cc pc = .ok (.astore_n 1, 1)) (hn : 1 < nL) (ho : okp (a0 :: b :: t) 1 = true) (K : V l g own cc nL rt d (pc + 1) (a0 :: .ref x :: t) st μ Q) : V l g own cc nL rt d pc (a0 :: b :: t) (.ref x :: st) μ Q := V_astore_n dg rfl hn ho K
theorem V_iinc1 {a0 : Value} {t : List Value} {n : Int} {x v : Int32} (dg : decode cc pc = .ok (.iinc 1 n, 3)) (hv : x + Int32.ofInt n = v) (hn : 1 < nL) (ho : okp (a0 :: .int x :: t) 1 = true) (K : V l g own cc nL rt d (pc + 3) (a0 :: .int v :: t) st μ Q) : V l g own cc nL rt d pc (a0 :: .int x :: t) st μ Q := V_iinc dg rfl hv hn ho K
theorem V_lstore1 {a0 b b2 : Value} {t : List Value} {x : Int64} (dg : decode cc pc = .ok (.lstore_n 1, 1)) (hn : 2 < nL) (ho : okp (a0 :: b :: b2 :: t) 1 = true) (K : V l g own cc nL rt d (pc + 1) (a0 :: .long x :: .null :: t) st μ Q) : V l g own cc nL rt d pc (a0 :: b :: b2 :: t) (.long x :: st) μ Q := V_lstore_n dg rfl hn ho K
theorem V_istore2 {a0 a1 b : Value} {t : List Value} {x : Int32} (dg : decode cc pc = .ok (.istore_n 2, 1)) (hn : 2 < nL) (ho : okp (a0 :: a1 :: b :: t) 2 = true) (K : V l g own cc nL rt d (pc + 1) (a0 :: a1 :: .int x :: t) st μ Q) : V l g own cc nL rt d pc (a0 :: a1 :: b :: t) (.int x :: st) μ Q := V_istore_n dg rfl hn ho K
theorem V_astore2 {a0 a1 b : Value} {t : List Value} {x : Nat} (dg : decode cc pc = .ok (.astore_n 2, 1)) (hn : 2 < nL) (ho : okp (a0 :: a1 :: b :: t) 2 = true) (K : V l g own cc nL rt d (pc + 1) (a0 :: a1 :: .ref x :: t) st μ Q) : V l g own cc nL rt d pc (a0 :: a1 :: b :: t) (.ref x :: st) μ Q := V_astore_n dg rfl hn ho K
theorem V_iinc2 {a0 a1 : Value} {t : List Value} {n : Int} {x v : Int32} (dg : decode cc pc = .ok (.iinc 2 n, 3)) (hv : x + Int32.ofInt n = v) (hn : 2 < nL) (ho : okp (a0 :: a1 :: .int x :: t) 2 = true) (K : V l g own cc nL rt d (pc + 3) (a0 :: a1 :: .int v :: t) st μ Q) : V l g own cc nL rt d pc (a0 :: a1 :: .int x :: t) st μ Q := V_iinc dg rfl hv hn ho K
theorem V_lstore2 {a0 a1 b b2 : Value} {t : List Value} {x : Int64} (dg : decode cc pc = .ok (.lstore_n 2, 1)) (hn : 3 < nL) (ho : okp (a0 :: a1 :: b :: b2 :: t) 2 = true) (K : V l g own cc nL rt d (pc + 1) (a0 :: a1 :: .long x :: .null :: t) st μ Q) : V l g own cc nL rt d pc (a0 :: a1 :: b :: b2 :: t) (.long x :: st) μ Q := V_lstore_n dg rfl hn ho K
theorem V_istore3 {a0 a1 a2 b : Value} {t : List Value} {x : Int32} (dg : decode cc pc = .ok (.istore_n 3, 1)) (hn : 3 < nL) (ho : okp (a0 :: a1 :: a2 :: b :: t) 3 = true) (K : V l g own cc nL rt d (pc + 1) (a0 :: a1 :: a2 :: .int x :: t) st μ Q) : V l g own cc nL rt d pc (a0 :: a1 :: a2 :: b :: t) (.int x :: st) μ Q := V_istore_n dg rfl hn ho K
theorem V_astore3 {a0 a1 a2 b : Value} {t : List Value} {x : Nat} (dg : decode cc pc = .ok (.astore_n 3, 1)) (hn : 3 < nL) (ho : okp (a0 :: a1 :: a2 :: b :: t) 3 = true) (K : V l g own cc nL rt d (pc + 1) (a0 :: a1 :: a2 :: .ref x :: t) st μ Q) : V l g own cc nL rt d pc (a0 :: a1 :: a2 :: b :: t) (.ref x :: st) μ Q := V_astore_n dg rfl hn ho K
theorem V_iinc3 {a0 a1 a2 : Value} {t : List Value} {n : Int} {x v : Int32} (dg : decode cc pc = .ok (.iinc 3 n, 3)) (hv : x + Int32.ofInt n = v) (hn : 3 < nL) (ho : okp (a0 :: a1 :: a2 :: .int x :: t) 3 = true) (K : V l g own cc nL rt d (pc + 3) (a0 :: a1 :: a2 :: .int v :: t) st μ Q) : V l g own cc nL rt d pc (a0 :: a1 :: a2 :: .int x :: t) st μ Q := V_iinc dg rfl hv hn ho K
theorem V_lstore3 {a0 a1 a2 b b2 : Value} {t : List Value} {x : Int64} (dg : decode cc pc = .ok (.lstore_n 3, 1)) (hn : 4 < nL) (ho : okp (a0 :: a1 :: a2 :: b :: b2 :: t) 3 = true) (K : V l g own cc nL rt d (pc + 1) (a0 :: a1 :: a2 :: .long x :: .null :: t) st μ Q) : V l g own cc nL rt d pc (a0 :: a1 :: a2 :: b :: b2 :: t) (.long x :: st) μ Q := V_lstore_n dg rfl hn ho K
theorem V_istore4 {a0 a1 a2 a3 b : Value} {t : List Value} {x : Int32} (dg : decode cc pc = .ok (.istore 4, 2)) (hn : 4 < nL) (ho : okp (a0 :: a1 :: a2 :: a3 :: b :: t) 4 = true) (K : V l g own cc nL rt d (pc + 2) (a0 :: a1 :: a2 :: a3 :: .int x :: t) st μ Q) : V l g own cc nL rt d pc (a0 :: a1 :: a2 :: a3 :: b :: t) (.int x :: st) μ Q := V_istore dg hn ho K
theorem V_astore4 {a0 a1 a2 a3 b : Value} {t : List Value} {x : Nat} (dg : decode cc pc = .ok (.astore 4, 2)) (hn : 4 < nL) (ho : okp (a0 :: a1 :: a2 :: a3 :: b :: t) 4 = true) (K : V l g own cc nL rt d (pc + 2) (a0 :: a1 :: a2 :: a3 :: .ref x :: t) st μ Q) : V l g own cc nL rt d pc (a0 :: a1 :: a2 :: a3 :: b :: t) (.ref x :: st) μ Q := V_astore dg hn ho K
theorem V_iinc4 {a0 a1 a2 a3 : Value} {t : List Value} {n : Int} {x v : Int32} (dg : decode cc pc = .ok (.iinc 4 n, 3)) (hv : x + Int32.ofInt n = v) (hn : 4 < nL) (ho : okp (a0 :: a1 :: a2 :: a3 :: .int x :: t) 4 = true) (K : V l g own cc nL rt d (pc + 3) (a0 :: a1 :: a2 :: a3 :: .int v :: t) st μ Q) : V l g own cc nL rt d pc (a0 :: a1 :: a2 :: a3 :: .int x :: t) st μ Q := V_iinc dg rfl hv hn ho K
theorem V_lstore4 {a0 a1 a2 a3 b b2 : Value} {t : List Value} {x : Int64} (dg : decode cc pc = .ok (.lstore 4, 2)) (hn : 5 < nL) (ho : okp (a0 :: a1 :: a2 :: a3 :: b :: b2 :: t) 4 = true) (K : V l g own cc nL rt d (pc + 2) (a0 :: a1 :: a2 :: a3 :: .long x :: .null :: t) st μ Q) : V l g own cc nL rt d pc (a0 :: a1 :: a2 :: a3 :: b :: b2 :: t) (.long x :: st) μ Q := V_lstore dg hn ho K
theorem V_istore5 {a0 a1 a2 a3 a4 b : Value} {t : List Value} {x : Int32} (dg : decode cc pc = .ok (.istore 5, 2)) (hn : 5 < nL) (ho : okp (a0 :: a1 :: a2 :: a3 :: a4 :: b :: t) 5 = true) (K : V l g own cc nL rt d (pc + 2) (a0 :: a1 :: a2 :: a3 :: a4 :: .int x :: t) st μ Q) : V l g own cc nL rt d pc (a0 :: a1 :: a2 :: a3 :: a4 :: b :: t) (.int x :: st) μ Q := V_istore dg hn ho K
theorem V_astore5 {a0 a1 a2 a3 a4 b : Value} {t : List Value} {x : Nat} (dg : decode cc pc = .ok (.astore 5, 2)) (hn : 5 < nL) (ho : okp (a0 :: a1 :: a2 :: a3 :: a4 :: b :: t) 5 = true) (K : V l g own cc nL rt d (pc + 2) (a0 :: a1 :: a2 :: a3 :: a4 :: .ref x :: t) st μ Q) : V l g own cc nL rt d pc (a0 :: a1 :: a2 :: a3 :: a4 :: b :: t) (.ref x :: st) μ Q := V_astore dg hn ho K
theorem V_iinc5 {a0 a1 a2 a3 a4 : Value} {t : List Value} {n : Int} {x v : Int32} (dg : decode cc pc = .ok (.iinc 5 n, 3)) (hv : x + Int32.ofInt n = v) (hn : 5 < nL) (ho : okp (a0 :: a1 :: a2 :: a3 :: a4 :: .int x :: t) 5 = true) (K : V l g own cc nL rt d (pc + 3) (a0 :: a1 :: a2 :: a3 :: a4 :: .int v :: t) st μ Q) : V l g own cc nL rt d pc (a0 :: a1 :: a2 :: a3 :: a4 :: .int x :: t) st μ Q := V_iinc dg rfl hv hn ho K
theorem V_lstore5 {a0 a1 a2 a3 a4 b b2 : Value} {t : List Value} {x : Int64} (dg : decode cc pc = .ok (.lstore 5, 2)) (hn : 6 < nL) (ho : okp (a0 :: a1 :: a2 :: a3 :: a4 :: b :: b2 :: t) 5 = true) (K : V l g own cc nL rt d (pc + 2) (a0 :: a1 :: a2 :: a3 :: a4 :: .long x :: .null :: t) st μ Q) : V l g own cc nL rt d pc (a0 :: a1 :: a2 :: a3 :: a4 :: b :: b2 :: t) (.long x :: st) μ Q := V_lstore dg hn ho K
theorem V_istore6 {a0 a1 a2 a3 a4 a5 b : Value} {t : List Value} {x : Int32} (dg : decode cc pc = .ok (.istore 6, 2)) (hn : 6 < nL) (ho : okp (a0 :: a1 :: a2 :: a3 :: a4 :: a5 :: b :: t) 6 = true) (K : V l g own cc nL rt d (pc + 2) (a0 :: a1 :: a2 :: a3 :: a4 :: a5 :: .int x :: t) st μ Q) : V l g own cc nL rt d pc (a0 :: a1 :: a2 :: a3 :: a4 :: a5 :: b :: t) (.int x :: st) μ Q := V_istore dg hn ho K
theorem V_astore6 {a0 a1 a2 a3 a4 a5 b : Value} {t : List Value} {x : Nat} (dg : decode cc pc = .ok (.astore 6, 2)) (hn : 6 < nL) (ho : okp (a0 :: a1 :: a2 :: a3 :: a4 :: a5 :: b :: t) 6 = true) (K : V l g own cc nL rt d (pc + 2) (a0 :: a1 :: a2 :: a3 :: a4 :: a5 :: .ref x :: t) st μ Q) : V l g own cc nL rt d pc (a0 :: a1 :: a2 :: a3 :: a4 :: a5 :: b :: t) (.ref x :: st) μ Q := V_astore dg hn ho K
theorem V_iinc6 {a0 a1 a2 a3 a4 a5 : Value} {t : List Value} {n : Int} {x v : Int32} (dg : decode cc pc = .ok (.iinc 6 n, 3)) (hv : x + Int32.ofInt n = v) (hn : 6 < nL) (ho : okp (a0 :: a1 :: a2 :: a3 :: a4 :: a5 :: .int x :: t) 6 = true) (K : V l g own cc nL rt d (pc + 3) (a0 :: a1 :: a2 :: a3 :: a4 :: a5 :: .int v :: t) st μ Q) : V l g own cc nL rt d pc (a0 :: a1 :: a2 :: a3 :: a4 :: a5 :: .int x :: t) st μ Q := V_iinc dg rfl hv hn ho K
theorem V_lstore6 {a0 a1 a2 a3 a4 a5 b b2 : Value} {t : List Value} {x : Int64} (dg : decode cc pc = .ok (.lstore 6, 2)) (hn : 7 < nL) (ho : okp (a0 :: a1 :: a2 :: a3 :: a4 :: a5 :: b :: b2 :: t) 6 = true) (K : V l g own cc nL rt d (pc + 2) (a0 :: a1 :: a2 :: a3 :: a4 :: a5 :: .long x :: .null :: t) st μ Q) : V l g own cc nL rt d pc (a0 :: a1 :: a2 :: a3 :: a4 :: a5 :: b :: b2 :: t) (.long x :: st) μ Q := V_lstore dg hn ho K
theorem V_istore7 {a0 a1 a2 a3 a4 a5 a6 b : Value} {t : List Value} {x : Int32} (dg : decode cc pc = .ok (.istore 7, 2)) (hn : 7 < nL) (ho : okp (a0 :: a1 :: a2 :: a3 :: a4 :: a5 :: a6 :: b :: t) 7 = true) (K : V l g own cc nL rt d (pc + 2) (a0 :: a1 :: a2 :: a3 :: a4 :: a5 :: a6 :: .int x :: t) st μ Q) : V l g own cc nL rt d pc (a0 :: a1 :: a2 :: a3 :: a4 :: a5 :: a6 :: b :: t) (.int x :: st) μ Q := V_istore dg hn ho K
theorem V_astore7 {a0 a1 a2 a3 a4 a5 a6 b : Value} {t : List Value} {x : Nat} (dg : decode cc pc = .ok (.astore 7, 2)) (hn : 7 < nL) (ho : okp (a0 :: a1 :: a2 :: a3 :: a4 :: a5 :: a6 :: b :: t) 7 = true) (K : V l g own cc nL rt d (pc + 2) (a0 :: a1 :: a2 :: a3 :: a4 :: a5 :: a6 :: .ref x :: t) st μ Q) : V l g own cc nL rt d pc (a0 :: a1 :: a2 :: a3 :: a4 :: a5 :: a6 :: b :: t) (.ref x :: st) μ Q := V_astore dg hn ho K
theorem V_iinc7 {a0 a1 a2 a3 a4 a5 a6 : Value} {t : List Value} {n : Int} {x v : Int32} (dg : decode cc pc = .ok (.iinc 7 n, 3)) (hv : x + Int32.ofInt n = v) (hn : 7 < nL) (ho : okp (a0 :: a1 :: a2 :: a3 :: a4 :: a5 :: a6 :: .int x :: t) 7 = true) (K : V l g own cc nL rt d (pc + 3) (a0 :: a1 :: a2 :: a3 :: a4 :: a5 :: a6 :: .int v :: t) st μ Q) : V l g own cc nL rt d pc (a0 :: a1 :: a2 :: a3 :: a4 :: a5 :: a6 :: .int x :: t) st μ Q := V_iinc dg rfl hv hn ho K
theorem V_lstore7 {a0 a1 a2 a3 a4 a5 a6 b b2 : Value} {t : List Value} {x : Int64} (dg : decode cc pc = .ok (.lstore 7, 2)) (hn : 8 < nL) (ho : okp (a0 :: a1 :: a2 :: a3 :: a4 :: a5 :: a6 :: b :: b2 :: t) 7 = true) (K : V l g own cc nL rt d (pc + 2) (a0 :: a1 :: a2 :: a3 :: a4 :: a5 :: a6 :: .long x :: .null :: t) st μ Q) : V l g own cc nL rt d pc (a0 :: a1 :: a2 :: a3 :: a4 :: a5 :: a6 :: b :: b2 :: t) (.long x :: st) μ Q := V_lstore dg hn ho K
theorem V_istore8 {a0 a1 a2 a3 a4 a5 a6 a7 b : Value} {t : List Value} {x : Int32} (dg : decode cc pc = .ok (.istore 8, 2)) (hn : 8 < nL) (ho : okp (a0 :: a1 :: a2 :: a3 :: a4 :: a5 :: a6 :: a7 :: b :: t) 8 = true) (K : V l g own cc nL rt d (pc + 2) (a0 :: a1 :: a2 :: a3 :: a4 :: a5 :: a6 :: a7 :: .int x :: t) st μ Q) : V l g own cc nL rt d pc (a0 :: a1 :: a2 :: a3 :: a4 :: a5 :: a6 :: a7 :: b :: t) (.int x :: st) μ Q := V_istore dg hn ho K
theorem V_astore8 {a0 a1 a2 a3 a4 a5 a6 a7 b : Value} {t : List Value} {x : Nat} (dg : decode cc pc = .ok (.astore 8, 2)) (hn : 8 < nL) (ho : okp (a0 :: a1 :: a2 :: a3 :: a4 :: a5 :: a6 :: a7 :: b :: t) 8 = true) (K : V l g own cc nL rt d (pc + 2) (a0 :: a1 :: a2 :: a3 :: a4 :: a5 :: a6 :: a7 :: .ref x :: t) st μ Q) : V l g own cc nL rt d pc (a0 :: a1 :: a2 :: a3 :: a4 :: a5 :: a6 :: a7 :: b :: t) (.ref x :: st) μ Q := V_astore dg hn ho K
theorem V_iinc8 {a0 a1 a2 a3 a4 a5 a6 a7 : Value} {t : List Value} {n : Int} {x v : Int32} (dg : decode cc pc = .ok (.iinc 8 n, 3)) (hv : x + Int32.ofInt n = v) (hn : 8 < nL) (ho : okp (a0 :: a1 :: a2 :: a3 :: a4 :: a5 :: a6 :: a7 :: .int x :: t) 8 = true) (K : V l g own cc nL rt d (pc + 3) (a0 :: a1 :: a2 :: a3 :: a4 :: a5 :: a6 :: a7 :: .int v :: t) st μ Q) : V l g own cc nL rt d pc (a0 :: a1 :: a2 :: a3 :: a4 :: a5 :: a6 :: a7 :: .int x :: t) st μ Q := V_iinc dg rfl hv hn ho K
theorem V_lstore8 {a0 a1 a2 a3 a4 a5 a6 a7 b b2 : Value} {t : List Value} {x : Int64} (dg : decode cc pc = .ok (.lstore 8, 2)) (hn : 9 < nL) (ho : okp (a0 :: a1 :: a2 :: a3 :: a4 :: a5 :: a6 :: a7 :: b :: b2 :: t) 8 = true) (K : V l g own cc nL rt d (pc + 2) (a0 :: a1 :: a2 :: a3 :: a4 :: a5 :: a6 :: a7 :: .long x :: .null :: t) st μ Q) : V l g own cc nL rt d pc (a0 :: a1 :: a2 :: a3 :: a4 :: a5 :: a6 :: a7 :: b :: b2 :: t) (.long x :: st) μ Q := V_lstore dg hn ho K
theorem V_istore9 {a0 a1 a2 a3 a4 a5 a6 a7 a8 b : Value} {t : List Value} {x : Int32} (dg : decode cc pc = .ok (.istore 9, 2)) (hn : 9 < nL) (ho : okp (a0 :: a1 :: a2 :: a3 :: a4 :: a5 :: a6 :: a7 :: a8 :: b :: t) 9 = true) (K : V l g own cc nL rt d (pc + 2) (a0 :: a1 :: a2 :: a3 :: a4 :: a5 :: a6 :: a7 :: a8 :: .int x :: t) st μ Q) : V l g own cc nL rt d pc (a0 :: a1 :: a2 :: a3 :: a4 :: a5 :: a6 :: a7 :: a8 :: b :: t) (.int x :: st) μ Q := V_istore dg hn ho K
theorem V_astore9 {a0 a1 a2 a3 a4 a5 a6 a7 a8 b : Value} {t : List Value} {x : Nat} (dg : decode cc pc = .ok (.astore 9, 2)) (hn : 9 < nL) (ho : okp (a0 :: a1 :: a2 :: a3 :: a4 :: a5 :: a6 :: a7 :: a8 :: b :: t) 9 = true) (K : V l g own cc nL rt d (pc + 2) (a0 :: a1 :: a2 :: a3 :: a4 :: a5 :: a6 :: a7 :: a8 :: .ref x :: t) st μ Q) : V l g own cc nL rt d pc (a0 :: a1 :: a2 :: a3 :: a4 :: a5 :: a6 :: a7 :: a8 :: b :: t) (.ref x :: st) μ Q := V_astore dg hn ho K
theorem V_iinc9 {a0 a1 a2 a3 a4 a5 a6 a7 a8 : Value} {t : List Value} {n : Int} {x v : Int32} (dg : decode cc pc = .ok (.iinc 9 n, 3)) (hv : x + Int32.ofInt n = v) (hn : 9 < nL) (ho : okp (a0 :: a1 :: a2 :: a3 :: a4 :: a5 :: a6 :: a7 :: a8 :: .int x :: t) 9 = true) (K : V l g own cc nL rt d (pc + 3) (a0 :: a1 :: a2 :: a3 :: a4 :: a5 :: a6 :: a7 :: a8 :: .int v :: t) st μ Q) : V l g own cc nL rt d pc (a0 :: a1 :: a2 :: a3 :: a4 :: a5 :: a6 :: a7 :: a8 :: .int x :: t) st μ Q := V_iinc dg rfl hv hn ho K
theorem V_lstore9 {a0 a1 a2 a3 a4 a5 a6 a7 a8 b b2 : Value} {t : List Value} {x : Int64} (dg : decode cc pc = .ok (.lstore 9, 2)) (hn : 10 < nL) (ho : okp (a0 :: a1 :: a2 :: a3 :: a4 :: a5 :: a6 :: a7 :: a8 :: b :: b2 :: t) 9 = true) (K : V l g own cc nL rt d (pc + 2) (a0 :: a1 :: a2 :: a3 :: a4 :: a5 :: a6 :: a7 :: a8 :: .long x :: .null :: t) st μ Q) : V l g own cc nL rt d pc (a0 :: a1 :: a2 :: a3 :: a4 :: a5 :: a6 :: a7 :: a8 :: b :: b2 :: t) (.long x :: st) μ Q := V_lstore dg hn ho K
theorem V_istore10 {a0 a1 a2 a3 a4 a5 a6 a7 a8 a9 b : Value} {t : List Value} {x : Int32} (dg : decode cc pc = .ok (.istore 10, 2)) (hn : 10 < nL) (ho : okp (a0 :: a1 :: a2 :: a3 :: a4 :: a5 :: a6 :: a7 :: a8 :: a9 :: b :: t) 10 = true) (K : V l g own cc nL rt d (pc + 2) (a0 :: a1 :: a2 :: a3 :: a4 :: a5 :: a6 :: a7 :: a8 :: a9 :: .int x :: t) st μ Q) : V l g own cc nL rt d pc (a0 :: a1 :: a2 :: a3 :: a4 :: a5 :: a6 :: a7 :: a8 :: a9 :: b :: t) (.int x :: st) μ Q := V_istore dg hn ho K
theorem V_astore10 {a0 a1 a2 a3 a4 a5 a6 a7 a8 a9 b : Value} {t : List Value} {x : Nat} (dg : decode cc pc = .ok (.astore 10, 2)) (hn : 10 < nL) (ho : okp (a0 :: a1 :: a2 :: a3 :: a4 :: a5 :: a6 :: a7 :: a8 :: a9 :: b :: t) 10 = true) (K : V l g own cc nL rt d (pc + 2) (a0 :: a1 :: a2 :: a3 :: a4 :: a5 :: a6 :: a7 :: a8 :: a9 :: .ref x :: t) st μ Q) : V l g own cc nL rt d pc (a0 :: a1 :: a2 :: a3 :: a4 :: a5 :: a6 :: a7 :: a8 :: a9 :: b :: t) (.ref x :: st) μ Q := V_astore dg hn ho K
theorem V_iinc10 {a0 a1 a2 a3 a4 a5 a6 a7 a8 a9 : Value} {t : List Value} {n : Int} {x v : Int32} (dg : decode cc pc = .ok (.iinc 10 n, 3)) (hv : x + Int32.ofInt n = v) (hn : 10 < nL) (ho : okp (a0 :: a1 :: a2 :: a3 :: a4 :: a5 :: a6 :: a7 :: a8 :: a9 :: .int x :: t) 10 = true) (K : V l g own cc nL rt d (pc + 3) (a0 :: a1 :: a2 :: a3 :: a4 :: a5 :: a6 :: a7 :: a8 :: a9 :: .int v :: t) st μ Q) : V l g own cc nL rt d pc (a0 :: a1 :: a2 :: a3 :: a4 :: a5 :: a6 :: a7 :: a8 :: a9 :: .int x :: t) st μ Q := V_iinc dg rfl hv hn ho K
theorem V_lstore10 {a0 a1 a2 a3 a4 a5 a6 a7 a8 a9 b b2 : Value} {t : List Value} {x : Int64} (dg : decode cc pc = .ok (.lstore 10, 2)) (hn : 11 < nL) (ho : okp (a0 :: a1 :: a2 :: a3 :: a4 :: a5 :: a6 :: a7 :: a8 :: a9 :: b :: b2 :: t) 10 = true) (K : V l g own cc nL rt d (pc + 2) (a0 :: a1 :: a2 :: a3 :: a4 :: a5 :: a6 :: a7 :: a8 :: a9 :: .long x :: .null :: t) st μ Q) : V l g own cc nL rt d pc (a0 :: a1 :: a2 :: a3 :: a4 :: a5 :: a6 :: a7 :: a8 :: a9 :: b :: b2 :: t) (.long x :: st) μ Q := V_lstore dg hn ho K
theorem V_istore11 {a0 a1 a2 a3 a4 a5 a6 a7 a8 a9 a10 b : Value} {t : List Value} {x : Int32} (dg : decode cc pc = .ok (.istore 11, 2)) (hn : 11 < nL) (ho : okp (a0 :: a1 :: a2 :: a3 :: a4 :: a5 :: a6 :: a7 :: a8 :: a9 :: a10 :: b :: t) 11 = true) (K : V l g own cc nL rt d (pc + 2) (a0 :: a1 :: a2 :: a3 :: a4 :: a5 :: a6 :: a7 :: a8 :: a9 :: a10 :: .int x :: t) st μ Q) : V l g own cc nL rt d pc (a0 :: a1 :: a2 :: a3 :: a4 :: a5 :: a6 :: a7 :: a8 :: a9 :: a10 :: b :: t) (.int x :: st) μ Q := V_istore dg hn ho K
theorem V_astore11 {a0 a1 a2 a3 a4 a5 a6 a7 a8 a9 a10 b : Value} {t : List Value} {x : Nat} (dg : decode cc pc = .ok (.astore 11, 2)) (hn : 11 < nL) (ho : okp (a0 :: a1 :: a2 :: a3 :: a4 :: a5 :: a6 :: a7 :: a8 :: a9 :: a10 :: b :: t) 11 = true) (K : V l g own cc nL rt d (pc + 2) (a0 :: a1 :: a2 :: a3 :: a4 :: a5 :: a6 :: a7 :: a8 :: a9 :: a10 :: .ref x :: t) st μ Q) : V l g own cc nL rt d pc (a0 :: a1 :: a2 :: a3 :: a4 :: a5 :: a6 :: a7 :: a8 :: a9 :: a10 :: b :: t) (.ref x :: st) μ Q := V_astore dg hn ho K
theorem V_iinc11 {a0 a1 a2 a3 a4 a5 a6 a7 a8 a9 a10 : Value} {t : List Value} {n : Int} {x v : Int32} (dg : decode cc pc = .ok (.iinc 11 n, 3)) (hv : x + Int32.ofInt n = v) (hn : 11 < nL) (ho : okp (a0 :: a1 :: a2 :: a3 :: a4 :: a5 :: a6 :: a7 :: a8 :: a9 :: a10 :: .int x :: t) 11 = true) (K : V l g own cc nL rt d (pc + 3) (a0 :: a1 :: a2 :: a3 :: a4 :: a5 :: a6 :: a7 :: a8 :: a9 :: a10 :: .int v :: t) st μ Q) : V l g own cc nL rt d pc (a0 :: a1 :: a2 :: a3 :: a4 :: a5 :: a6 :: a7 :: a8 :: a9 :: a10 :: .int x :: t) st μ Q := V_iinc dg rfl hv hn ho K
theorem V_lstore11 {a0 a1 a2 a3 a4 a5 a6 a7 a8 a9 a10 b b2 : Value} {t : List Value} {x : Int64} (dg : decode cc pc = .ok (.lstore 11, 2)) (hn : 12 < nL) (ho : okp (a0 :: a1 :: a2 :: a3 :: a4 :: a5 :: a6 :: a7 :: a8 :: a9 :: a10 :: b :: b2 :: t) 11 = true) (K : V l g own cc nL rt d (pc + 2) (a0 :: a1 :: a2 :: a3 :: a4 :: a5 :: a6 :: a7 :: a8 :: a9 :: a10 :: .long x :: .null :: t) st μ Q) : V l g own cc nL rt d pc (a0 :: a1 :: a2 :: a3 :: a4 :: a5 :: a6 :: a7 :: a8 :: a9 :: a10 :: b :: b2 :: t) (.long x :: st) μ Q := V_lstore dg hn ho K
theorem V_istore12 {a0 a1 a2 a3 a4 a5 a6 a7 a8 a9 a10 a11 b : Value} {t : List Value} {x : Int32} (dg : decode cc pc = .ok (.istore 12, 2)) (hn : 12 < nL) (ho : okp (a0 :: a1 :: a2 :: a3 :: a4 :: a5 :: a6 :: a7 :: a8 :: a9 :: a10 :: a11 :: b :: t) 12 = true) (K : V l g own cc nL rt d (pc + 2) (a0 :: a1 :: a2 :: a3 :: a4 :: a5 :: a6 :: a7 :: a8 :: a9 :: a10 :: a11 :: .int x :: t) st μ Q) : V l g own cc nL rt d pc (a0 :: a1 :: a2 :: a3 :: a4 :: a5 :: a6 :: a7 :: a8 :: a9 :: a10 :: a11 :: b :: t) (.int x :: st) μ Q := V_istore dg hn ho K
theorem V_astore12 {a0 a1 a2 a3 a4 a5 a6 a7 a8 a9 a10 a11 b : Value} {t : List Value} {x : Nat} (dg : decode cc pc = .ok (.astore 12, 2)) (hn : 12 < nL) (ho : okp (a0 :: a1 :: a2 :: a3 :: a4 :: a5 :: a6 :: a7 :: a8 :: a9 :: a10 :: a11 :: b :: t) 12 = true) (K : V l g own cc nL rt d (pc + 2) (a0 :: a1 :: a2 :: a3 :: a4 :: a5 :: a6 :: a7 :: a8 :: a9 :: a10 :: a11 :: .ref x :: t) st μ Q) : V l g own cc nL rt d pc (a0 :: a1 :: a2 :: a3 :: a4 :: a5 :: a6 :: a7 :: a8 :: a9 :: a10 :: a11 :: b :: t) (.ref x :: st) μ Q := V_astore dg hn ho K
theorem V_iinc12 {a0 a1 a2 a3 a4 a5 a6 a7 a8 a9 a10 a11 : Value} {t : List Value} {n : Int} {x v : Int32} (dg : decode cc pc = .ok (.iinc 12 n, 3)) (hv : x + Int32.ofInt n = v) (hn : 12 < nL) (ho : okp (a0 :: a1 :: a2 :: a3 :: a4 :: a5 :: a6 :: a7 :: a8 :: a9 :: a10 :: a11 :: .int x :: t) 12 = true) (K : V l g own cc nL rt d (pc + 3) (a0 :: a1 :: a2 :: a3 :: a4 :: a5 :: a6 :: a7 :: a8 :: a9 :: a10 :: a11 :: .int v :: t) st μ Q) : V l g own cc nL rt d pc (a0 :: a1 :: a2 :: a3 :: a4 :: a5 :: a6 :: a7 :: a8 :: a9 :: a10 :: a11 :: .int x :: t) st μ Q := V_iinc dg rfl hv hn ho K
theorem V_lstore12 {a0 a1 a2 a3 a4 a5 a6 a7 a8 a9 a10 a11 b b2 : Value} {t : List Value} {x : Int64} (dg : decode cc pc = .ok (.lstore 12, 2)) (hn : 13 < nL) (ho : okp (a0 :: a1 :: a2 :: a3 :: a4 :: a5 :: a6 :: a7 :: a8 :: a9 :: a10 :: a11 :: b :: b2 :: t) 12 = true) (K : V l g own cc nL rt d (pc + 2) (a0 :: a1 :: a2 :: a3 :: a4 :: a5 :: a6 :: a7 :: a8 :: a9 :: a10 :: a11 :: .long x :: .null :: t) st μ Q) : V l g own cc nL rt d pc (a0 :: a1 :: a2 :: a3 :: a4 :: a5 :: a6 :: a7 :: a8 :: a9 :: a10 :: a11 :: b :: b2 :: t) (.long x :: st) μ Q := V_lstore dg hn ho K
theorem V_ifeq {x : Int32} {off : Int} {tgt : Nat} (dg : decode cc pc = .ok (.ifCond .eq off, 3)) (ht : (pc : Int) + off = (tgt : Int)) (kt : x = 0 → V l g own cc nL rt d tgt lv st μ Q) (kf : ¬ x = 0 → V l g own cc nL rt d (pc + 3) lv st μ Q) : V l g own cc nL rt d pc lv (.int x :: st) μ Q := by
  intro p e s m args below meth c C H locs ls hP hS hl
  exact lv_if_eq C.1 C.2.1 dg ht (fun q => kt q p e s m args below meth c C H locs ls hP hS hl) (fun q => kf q p e s m args below meth c C H locs ls hP hS hl)
theorem V_icmpeq {x y : Int32} {off : Int} {tgt : Nat} (dg : decode cc pc = .ok (.if_icmp .eq off, 3)) (ht : (pc : Int) + off = (tgt : Int)) (kt : x = y → V l g own cc nL rt d tgt lv st μ Q) (kf : ¬ x = y → V l g own cc nL rt d (pc + 3) lv st μ Q) : V l g own cc nL rt d pc lv (.int y :: .int x :: st) μ Q := by
  intro p e s m args below meth c C H locs ls hP hS hl
  exact lv_icmp_eq C.1 C.2.1 dg ht (fun q => kt q p e s m args below meth c C H locs ls hP hS hl) (fun q => kf q p e s m args below meth c C H locs ls hP hS hl)
theorem V_ifne {x : Int32} {off : Int} {tgt : Nat} (dg : decode cc pc = .ok (.ifCond .ne off, 3)) (ht : (pc : Int) + off = (tgt : Int)) (kt : ¬ x = 0 → V l g own cc nL rt d tgt lv st μ Q) (kf : x = 0 → V l g own cc nL rt d (pc + 3) lv st μ Q) : V l g own cc nL rt d pc lv (.int x :: st) μ Q := by
  intro p e s m args below meth c C H locs ls hP hS hl
  exact lv_if_ne C.1 C.2.1 dg ht (fun q => kt q p e s m args below meth c C H locs ls hP hS hl) (fun q => kf q p e s m args below meth c C H locs ls hP hS hl)
theorem V_icmpne {x y : Int32} {off : Int} {tgt : Nat} (dg : decode cc pc = .ok (.if_icmp .ne off, 3)) (ht : (pc : Int) + off = (tgt : Int)) (kt : ¬ x = y → V l g own cc nL rt d tgt lv st μ Q) (kf : x = y → V l g own cc nL rt d (pc + 3) lv st μ Q) : V l g own cc nL rt d pc lv (.int y :: .int x :: st) μ Q := by
  intro p e s m args below meth c C H locs ls hP hS hl
  exact lv_icmp_ne C.1 C.2.1 dg ht (fun q => kt q p e s m args below meth c C H locs ls hP hS hl) (fun q => kf q p e s m args below meth c C H locs ls hP hS hl)
theorem V_iflt {x : Int32} {off : Int} {tgt : Nat} (dg : decode cc pc = .ok (.ifCond .lt off, 3)) (ht : (pc : Int) + off = (tgt : Int)) (kt : x < 0 → V l g own cc nL rt d tgt lv st μ Q) (kf : ¬ x < 0 → V l g own cc nL rt d (pc + 3) lv st μ Q) : V l g own cc nL rt d pc lv (.int x :: st) μ Q := by
  intro p e s m args below meth c C H locs ls hP hS hl
  exact lv_if_lt C.1 C.2.1 dg ht (fun q => kt q p e s m args below meth c C H locs ls hP hS hl) (fun q => kf q p e s m args below meth c C H locs ls hP hS hl)
theorem V_icmplt {x y : Int32} {off : Int} {tgt : Nat} (dg : decode cc pc = .ok (.if_icmp .lt off, 3)) (ht : (pc : Int) + off = (tgt : Int)) (kt : x < y → V l g own cc nL rt d tgt lv st μ Q) (kf : ¬ x < y → V l g own cc nL rt d (pc + 3) lv st μ Q) : V l g own cc nL rt d pc lv (.int y :: .int x :: st) μ Q := by
  intro p e s m args below meth c C H locs ls hP hS hl
  exact lv_icmp_lt C.1 C.2.1 dg ht (fun q => kt q p e s m args below meth c C H locs ls hP hS hl) (fun q => kf q p e s m args below meth c C H locs ls hP hS hl)
theorem V_ifge {x : Int32} {off : Int} {tgt : Nat} (dg : decode cc pc = .ok (.ifCond .ge off, 3)) (ht : (pc : Int) + off = (tgt : Int)) (kt : 0 ≤ x → V l g own cc nL rt d tgt lv st μ Q) (kf : ¬ 0 ≤ x → V l g own cc nL rt d (pc + 3) lv st μ Q) : V l g own cc nL rt d pc lv (.int x :: st) μ Q := by
  intro p e s m args below meth c C H locs ls hP hS hl
  exact lv_if_ge C.1 C.2.1 dg ht (fun q => kt q p e s m args below meth c C H locs ls hP hS hl) (fun q => kf q p e s m args below meth c C H locs ls hP hS hl)
theorem V_icmpge {x y : Int32} {off : Int} {tgt : Nat} (dg : decode cc pc = .ok (.if_icmp .ge off, 3)) (ht : (pc : Int) + off = (tgt : Int)) (kt : y ≤ x → V l g own cc nL rt d tgt lv st μ Q) (kf : ¬ y ≤ x → V l g own cc nL rt d (pc + 3) lv st μ Q) : V l g own cc nL rt d pc lv (.int y :: .int x :: st) μ Q := by
  intro p e s m args below meth c C H locs ls hP hS hl
  exact lv_icmp_ge C.1 C.2.1 dg ht (fun q => kt q p e s m args below meth c C H locs ls hP hS hl) (fun q => kf q p e s m args below meth c C H locs ls hP hS hl)
theorem V_ifgt {x : Int32} {off : Int} {tgt : Nat} (dg : decode cc pc = .ok (.ifCond .gt off, 3)) (ht : (pc : Int) + off = (tgt : Int)) (kt : 0 < x → V l g own cc nL rt d tgt lv st μ Q) (kf : ¬ 0 < x → V l g own cc nL rt d (pc + 3) lv st μ Q) : V l g own cc nL rt d pc lv (.int x :: st) μ Q := by
  intro p e s m args below meth c C H locs ls hP hS hl
  exact lv_if_gt C.1 C.2.1 dg ht (fun q => kt q p e s m args below meth c C H locs ls hP hS hl) (fun q => kf q p e s m args below meth c C H locs ls hP hS hl)
theorem V_icmpgt {x y : Int32} {off : Int} {tgt : Nat} (dg : decode cc pc = .ok (.if_icmp .gt off, 3)) (ht : (pc : Int) + off = (tgt : Int)) (kt : y < x → V l g own cc nL rt d tgt lv st μ Q) (kf : ¬ y < x → V l g own cc nL rt d (pc + 3) lv st μ Q) : V l g own cc nL rt d pc lv (.int y :: .int x :: st) μ Q := by
  intro p e s m args below meth c C H locs ls hP hS hl
  exact lv_icmp_gt C.1 C.2.1 dg ht (fun q => kt q p e s m args below meth c C H locs ls hP hS hl) (fun q => kf q p e s m args below meth c C H locs ls hP hS hl)
theorem V_ifle {x : Int32} {off : Int} {tgt : Nat} (dg : decode cc pc = .ok (.ifCond .le off, 3)) (ht : (pc : Int) + off = (tgt : Int)) (kt : x ≤ 0 → V l g own cc nL rt d tgt lv st μ Q) (kf : ¬ x ≤ 0 → V l g own cc nL rt d (pc + 3) lv st μ Q) : V l g own cc nL rt d pc lv (.int x :: st) μ Q := by
  intro p e s m args below meth c C H locs ls hP hS hl
  exact lv_if_le C.1 C.2.1 dg ht (fun q => kt q p e s m args below meth c C H locs ls hP hS hl) (fun q => kf q p e s m args below meth c C H locs ls hP hS hl)
theorem V_icmple {x y : Int32} {off : Int} {tgt : Nat} (dg : decode cc pc = .ok (.if_icmp .le off, 3)) (ht : (pc : Int) + off = (tgt : Int)) (kt : x ≤ y → V l g own cc nL rt d tgt lv st μ Q) (kf : ¬ x ≤ y → V l g own cc nL rt d (pc + 3) lv st μ Q) : V l g own cc nL rt d pc lv (.int y :: .int x :: st) μ Q := by
  intro p e s m args below meth c C H locs ls hP hS hl
  exact lv_icmp_le C.1 C.2.1 dg ht (fun q => kt q p e s m args below meth c C H locs ls hP hS hl) (fun q => kf q p e s m args below meth c C H locs ls hP hS hl)
theorem V_goto {off : Int} {tgt : Nat} (dg : decode cc pc = .ok (.goto off, 3)) (ht : (pc : Int) + off = (tgt : Int)) (K : V l g own cc nL rt d tgt lv st μ Q) : V l g own cc nL rt d pc lv st μ Q := by
  intro p e s m args below meth c C H locs ls hP hS hl
  exact lv_goto C.1 C.2.1 dg ht (K p e s m args below meth c C H locs ls hP hS hl)
theorem V_tsIn {dflt lo hi : Int} {offs : Array Int} {len : Nat} {x : Int32} {off : Int} {tgt : Nat} (dg : decode cc pc = .ok (.tableswitch dflt lo hi offs, len)) (h1 : ¬ x.toInt < lo) (h2 : ¬ hi < x.toInt) (ho : offs[(x.toInt - lo).toNat]? = some off) (ht : (pc : Int) + off = (tgt : Int)) (K : V l g own cc nL rt d tgt lv st μ Q) : V l g own cc nL rt d pc lv (.int x :: st) μ Q := by
  intro p e s m args below meth c C H locs ls hP hS hl
  exact lv_tableIn C.1 C.2.1 dg h1 h2 ho ht (K p e s m args below meth c C H locs ls hP hS hl)
theorem V_tsOut {dflt lo hi : Int} {offs : Array Int} {len : Nat} {x : Int32} {tgt : Nat} (dg : decode cc pc = .ok (.tableswitch dflt lo hi offs, len)) (h : x.toInt < lo ∨ hi < x.toInt) (ht : (pc : Int) + dflt = (tgt : Int)) (K : V l g own cc nL rt d tgt lv st μ Q) : V l g own cc nL rt d pc lv (.int x :: st) μ Q := by
  intro p e s m args below meth c C H locs ls hP hS hl
  exact lv_tableOut C.1 C.2.1 dg h ht (K p e s m args below meth c C H locs ls hP hS hl)
theorem V_iret {x : Int32} (dg : decode cc pc = .ok (.ireturn, 1)) (hrt : rt = some .int) (h : Q (some (.int x)) μ) : V l g own cc nL rt d pc lv [.int x] μ Q := by
  intro p e s m args below meth c C H locs ls hP hS hl
  have hlk : meth.locks = false := C.2.2.2.2.2.1
  exact W.iret C.1 C.2.1 (C.2.2.1.trans hrt) (fun t ht hW => ⟨⟨some (.int x), μ, rfl, h, by rw [ht]; exact hP⟩, hS.F ht⟩) hS.2.2 dg hlk
theorem V_zret {x : Int32} (dg : decode cc pc = .ok (.ireturn, 1)) (hrt : rt = some .boolean) (hx : x = 0 ∨ x = 1) (h : Q (some (.int x)) μ) : V l g own cc nL rt d pc lv [.int x] μ Q := by
  intro p e s m args below meth c C H locs ls hP hS hl
  have hlk : meth.locks = false := C.2.2.2.2.2.1
  exact W.zret C.1 C.2.1 (C.2.2.1.trans hrt) (by rcases hx with rfl | rfl <;> rfl) (fun t ht hW => ⟨⟨some (.int x), μ, rfl, h, by rw [ht]; exact hP⟩, hS.F ht⟩) hS.2.2 dg hlk
theorem V_lret {x : Int64} (dg : decode cc pc = .ok (.lreturn, 1)) (hrt : rt = some .long) (h : Q (some (.long x)) μ) : V l g own cc nL rt d pc lv [.long x] μ Q := by
  intro p e s m args below meth c C H locs ls hP hS hl
  have hlk : meth.locks = false := C.2.2.2.2.2.1
  exact W.lret C.1 C.2.1 (C.2.2.1.trans hrt) (fun t ht hW => ⟨⟨some (.long x), μ, rfl, h, by rw [ht]; exact hP⟩, hS.F ht⟩) hS.2.2 dg hlk
theorem V_vret (dg : decode cc pc = .ok (.return_, 1)) (hrt : rt = none) (h : Q none μ) : V l g own cc nL rt d pc lv [] μ Q := by
  intro p e s m args below meth c C H locs ls hP hS hl
  have hlk : meth.locks = false := C.2.2.2.2.2.1
  exact W.vret C.1 C.2.1 (C.2.2.1.trans hrt) (fun t ht hW => ⟨⟨none, μ, rfl, h, by rw [ht]; exact hP⟩, hS.F ht⟩) hS.2.2 dg hlk
theorem V_getI {k ci j idx : Nat} (dg : decode cc pc = .ok (.getfield idx, 3)) (fl : FLp own idx ci j) (hv : ∀ ad i l r, (flds ci ad i l r)[j]? = some (.int (i j))) (hk : k < 88) (ht : kt k = ci) (K : V l g own cc nL rt d (pc + 3) lv (.int (μ.1 k j) :: st) μ Q) : V l g own cc nL rt d pc lv (.ref k :: st) μ Q := by
  intro p e s m args below meth c C H locs ls hP hS hl
  obtain ⟨hx, hb, hr0, hml, hown, hlk, hts, hO⟩ := id C
  obtain ⟨f1, f2, f3⟩ := fl
  obtain ⟨c1, c2, c3, c4⟩ := CLo_all ci f1
  have he := Wd_at g μ hk
  rw [cellE_obj ht f1] at he
  rcases f3 with f3 | f3
  · exact va_get (D := g.1) (cl := vwCl) (tys := tysW g) hx hb hts c2 hown hO.1 hP k he c1 j f2 (hts _ f3) (fun _ q => q) (hv _ _ _ _) dg (K p e s m args below meth c C H locs ls hP hS hl)
  · exact va_getN (D := g.1) (cl := vwCl) (tys := tysW g) hx hb hts c2 hown hO.1 hP k he c1 j f2 (va_Nw.use rfl (hO.2.1 _ f3)) (fun _ q => q) (hv _ _ _ _) dg (K p e s m args below meth c C H locs ls hP hS hl)
theorem V_getL {k ci j idx : Nat} (dg : decode cc pc = .ok (.getfield idx, 3)) (fl : FLp own idx ci j) (hv : ∀ ad i l r, (flds ci ad i l r)[j]? = some (.long (l j))) (hk : k < 88) (ht : kt k = ci) (K : V l g own cc nL rt d (pc + 3) lv (.long (μ.2.1 k j) :: st) μ Q) : V l g own cc nL rt d pc lv (.ref k :: st) μ Q := by
  intro p e s m args below meth c C H locs ls hP hS hl
  obtain ⟨hx, hb, hr0, hml, hown, hlk, hts, hO⟩ := id C
  obtain ⟨f1, f2, f3⟩ := fl
  obtain ⟨c1, c2, c3, c4⟩ := CLo_all ci f1
  have he := Wd_at g μ hk
  rw [cellE_obj ht f1] at he
  rcases f3 with f3 | f3
  · exact va_get (D := g.1) (cl := vwCl) (tys := tysW g) hx hb hts c2 hown hO.1 hP k he c1 j f2 (hts _ f3) (fun _ q => q) (hv _ _ _ _) dg (K p e s m args below meth c C H locs ls hP hS hl)
  · exact va_getN (D := g.1) (cl := vwCl) (tys := tysW g) hx hb hts c2 hown hO.1 hP k he c1 j f2 (va_Nw.use rfl (hO.2.1 _ f3)) (fun _ q => q) (hv _ _ _ _) dg (K p e s m args below meth c C H locs ls hP hS hl)
theorem V_getR {k ci j idx : Nat} {k2 : Nat} (dg : decode cc pc = .ok (.getfield idx, 3)) (fl : FLp own idx ci j) (hv : ∀ ad i l r, (flds ci ad i l r)[j]? = some (.ref (ad (r j)))) (hk : k < 88) (ht : kt k = ci) (hr : rfs μ.2.2 k j = k2) (K : V l g own cc nL rt d (pc + 3) lv (.ref k2 :: st) μ Q) : V l g own cc nL rt d pc lv (.ref k :: st) μ Q := by
  intro p e s m args below meth c C H locs ls hP hS hl
  obtain ⟨hx, hb, hr0, hml, hown, hlk, hts, hO⟩ := id C
  subst hr
  obtain ⟨f1, f2, f3⟩ := fl
  obtain ⟨c1, c2, c3, c4⟩ := CLo_all ci f1
  have he := Wd_at g μ hk
  rw [cellE_obj ht f1] at he
  rcases f3 with f3 | f3
  · exact va_get (D := g.1) (cl := vwCl) (tys := tysW g) hx hb hts c2 hown hO.1 hP k he c1 j f2 (hts _ f3) (fun _ q => q) (hv _ _ _ _) dg (K p e s m args below meth c C H locs ls hP hS hl)
  · exact va_getN (D := g.1) (cl := vwCl) (tys := tysW g) hx hb hts c2 hown hO.1 hP k he c1 j f2 (va_Nw.use rfl (hO.2.1 _ f3)) (fun _ q => q) (hv _ _ _ _) dg (K p e s m args below meth c C H locs ls hP hS hl)
theorem V_putI {k ci j idx : Nat} {v : Int32} (dg : decode cc pc = .ok (.putfield idx, 3)) (fl : FLp own idx ci j) (hv : ∀ ad i l r (v : Int32), (flds ci ad i l r).set j (.int v) = flds ci ad (fun b => if b = j then v else i b) l r) (hty : clTy ci j = .int) (hfin : (clT ci j).2.2.2 = false) (hk : k < 88) (ht : kt k = ci) (K : V l g own cc nL rt d (pc + 3) lv st (setI μ k j v) Q) : V l g own cc nL rt d pc lv (.int v :: .ref k :: st) μ Q := by
  intro p e s m args below meth c C H locs ls hP hS hl
  obtain ⟨hx, hb, hr0, hml, hown, hlk, hts, hO⟩ := id C
  obtain ⟨f1, f2, f3⟩ := fl
  obtain ⟨c1, c2, c3, c4⟩ := CLo_all ci f1
  have he := Wd_at g μ hk
  rw [cellE_obj ht f1] at he
  have hlen : j < (flds ci g.2.2 (μ.1 k) (μ.2.1 k) (rfs μ.2.2 k)).length := by
    have f4 := f2
    have f5 := f1
    clear hv he c1 c2 c3 c4 f3 f1 f2
    match ci, f5 with
    | 0, _ => exact f4
    | 1, _ => exact f4
    | 2, _ => exact f4
    | 3, _ => exact f4
    | 4, _ => exact f4
    | 5, _ => exact f4
    | 6, _ => exact f4
    | 7, _ => exact f4
    | 8, _ => exact f4
  have hset : (Wd g μ).set k (g.2.2 k, .inr (ci, (flds ci g.2.2 (μ.1 k) (μ.2.1 k) (rfs μ.2.2 k)).set j (.int v))) = Wd g (setI μ k j v) := by
    refine Wd_set ?_ (fun a _ hn => cellsI a hn)
    show cellE g μ.2.2 k (up2 μ.1 k j v k) (μ.2.1 k) = _
    rw [cellE_obj ht f1, hv, up2_row]
  have KK : ∀ (H1 : Heap) (locs1 : List Loc), va_P g.1 vwCl ((Wd g μ).set k (g.2.2 k, .inr (ci, (flds ci g.2.2 (μ.1 k) (μ.2.1 k) (rfs μ.2.2 k)).set j (.int v)))) H1 → va_D (AW g) ((Wd g μ).set k (g.2.2 k, .inr (ci, (flds ci g.2.2 (μ.1 k) (μ.2.1 k) (rfs μ.2.2 k)).set j (.int v)))) → va_S (AW g) s.heap H1 locs1 → W p l e (rmv d) s m args below meth c H1 locs1 0 0 (MQ below (Qvw g Q) args s 0 0 (AW g)) (F0 m (pc + 3) ls (st.map (conc g))) := by
    intro H1 locs1 p1 _ s1
    rw [hset] at p1
    exact K p e s m args below meth c C H1 locs1 ls p1 s1 hl
  rcases f3 with f3 | f3
  · exact va_put (D := g.1) (cl := vwCl) (tys := tysW g) hx hb hts c2 (clTy ci) c3 c4 hown hO.1 hP (hO.D μ) hS k he c1 j f2 (hts _ f3) (fun _ q => q) hfin ((c3 j f2).trans (congrArg some hty)) rfl rfl hlen dg KK
  · exact va_putN (D := g.1) (cl := vwCl) (tys := tysW g) hx hb hts c2 (clTy ci) c3 c4 hown hO.1 hP (hO.D μ) hS k he c1 j f2 (va_Nw.use rfl (hO.2.1 _ f3)) (fun _ q => q) hfin ((c3 j f2).trans (congrArg some hty)) rfl rfl hlen dg KK
theorem V_putL {k ci j idx : Nat} {v : Int64} (dg : decode cc pc = .ok (.putfield idx, 3)) (fl : FLp own idx ci j) (hv : ∀ ad i l r (v : Int64), (flds ci ad i l r).set j (.long v) = flds ci ad i (fun b => if b = j then v else l b) r) (hty : clTy ci j = .long) (hfin : (clT ci j).2.2.2 = false) (hk : k < 88) (ht : kt k = ci) (K : V l g own cc nL rt d (pc + 3) lv st (setL μ k j v) Q) : V l g own cc nL rt d pc lv (.long v :: .ref k :: st) μ Q := by
  intro p e s m args below meth c C H locs ls hP hS hl
  obtain ⟨hx, hb, hr0, hml, hown, hlk, hts, hO⟩ := id C
  obtain ⟨f1, f2, f3⟩ := fl
  obtain ⟨c1, c2, c3, c4⟩ := CLo_all ci f1
  have he := Wd_at g μ hk
  rw [cellE_obj ht f1] at he
  have hlen : j < (flds ci g.2.2 (μ.1 k) (μ.2.1 k) (rfs μ.2.2 k)).length := by
    have f4 := f2
    have f5 := f1
    clear hv he c1 c2 c3 c4 f3 f1 f2
    match ci, f5 with
    | 0, _ => exact f4
    | 1, _ => exact f4
    | 2, _ => exact f4
    | 3, _ => exact f4
    | 4, _ => exact f4
    | 5, _ => exact f4
    | 6, _ => exact f4
    | 7, _ => exact f4
    | 8, _ => exact f4
  have hset : (Wd g μ).set k (g.2.2 k, .inr (ci, (flds ci g.2.2 (μ.1 k) (μ.2.1 k) (rfs μ.2.2 k)).set j (.long v))) = Wd g (setL μ k j v) := by
    refine Wd_set ?_ (fun a _ hn => cellsL a hn)
    show cellE g μ.2.2 k (μ.1 k) (up2 μ.2.1 k j v k) = _
    rw [cellE_obj ht f1, hv, up2_row]
  have KK : ∀ (H1 : Heap) (locs1 : List Loc), va_P g.1 vwCl ((Wd g μ).set k (g.2.2 k, .inr (ci, (flds ci g.2.2 (μ.1 k) (μ.2.1 k) (rfs μ.2.2 k)).set j (.long v)))) H1 → va_D (AW g) ((Wd g μ).set k (g.2.2 k, .inr (ci, (flds ci g.2.2 (μ.1 k) (μ.2.1 k) (rfs μ.2.2 k)).set j (.long v)))) → va_S (AW g) s.heap H1 locs1 → W p l e (rmv d) s m args below meth c H1 locs1 0 0 (MQ below (Qvw g Q) args s 0 0 (AW g)) (F0 m (pc + 3) ls (st.map (conc g))) := by
    intro H1 locs1 p1 _ s1
    rw [hset] at p1
    exact K p e s m args below meth c C H1 locs1 ls p1 s1 hl
  rcases f3 with f3 | f3
  · exact va_put (D := g.1) (cl := vwCl) (tys := tysW g) hx hb hts c2 (clTy ci) c3 c4 hown hO.1 hP (hO.D μ) hS k he c1 j f2 (hts _ f3) (fun _ q => q) hfin ((c3 j f2).trans (congrArg some hty)) rfl rfl hlen dg KK
  · exact va_putN (D := g.1) (cl := vwCl) (tys := tysW g) hx hb hts c2 (clTy ci) c3 c4 hown hO.1 hP (hO.D μ) hS k he c1 j f2 (va_Nw.use rfl (hO.2.1 _ f3)) (fun _ q => q) hfin ((c3 j f2).trans (congrArg some hty)) rfl rfl hlen dg KK
theorem V_putZ {k ci j idx : Nat} {v : Int32} (dg : decode cc pc = .ok (.putfield idx, 3)) (fl : FLp own idx ci j) (hv : ∀ ad i l r (v : Int32), (flds ci ad i l r).set j (.int v) = flds ci ad (fun b => if b = j then v else i b) l r) (hty : clTy ci j = .boolean) (hfin : (clT ci j).2.2.2 = false) (hk : k < 88) (ht : kt k = ci) (hz : v = 0 ∨ v = 1) (K : V l g own cc nL rt d (pc + 3) lv st (setI μ k j v) Q) : V l g own cc nL rt d pc lv (.int v :: .ref k :: st) μ Q := by
  intro p e s m args below meth c C H locs ls hP hS hl
  obtain ⟨hx, hb, hr0, hml, hown, hlk, hts, hO⟩ := id C
  obtain ⟨f1, f2, f3⟩ := fl
  obtain ⟨c1, c2, c3, c4⟩ := CLo_all ci f1
  have he := Wd_at g μ hk
  rw [cellE_obj ht f1] at he
  have hlen : j < (flds ci g.2.2 (μ.1 k) (μ.2.1 k) (rfs μ.2.2 k)).length := by
    have f4 := f2
    have f5 := f1
    clear hv he c1 c2 c3 c4 f3 f1 f2
    match ci, f5 with
    | 0, _ => exact f4
    | 1, _ => exact f4
    | 2, _ => exact f4
    | 3, _ => exact f4
    | 4, _ => exact f4
    | 5, _ => exact f4
    | 6, _ => exact f4
    | 7, _ => exact f4
    | 8, _ => exact f4
  have hset : (Wd g μ).set k (g.2.2 k, .inr (ci, (flds ci g.2.2 (μ.1 k) (μ.2.1 k) (rfs μ.2.2 k)).set j (.int v))) = Wd g (setI μ k j v) := by
    refine Wd_set ?_ (fun a _ hn => cellsI a hn)
    show cellE g μ.2.2 k (up2 μ.1 k j v k) (μ.2.1 k) = _
    rw [cellE_obj ht f1, hv, up2_row]
  have KK : ∀ (H1 : Heap) (locs1 : List Loc), va_P g.1 vwCl ((Wd g μ).set k (g.2.2 k, .inr (ci, (flds ci g.2.2 (μ.1 k) (μ.2.1 k) (rfs μ.2.2 k)).set j (.int v)))) H1 → va_D (AW g) ((Wd g μ).set k (g.2.2 k, .inr (ci, (flds ci g.2.2 (μ.1 k) (μ.2.1 k) (rfs μ.2.2 k)).set j (.int v)))) → va_S (AW g) s.heap H1 locs1 → W p l e (rmv d) s m args below meth c H1 locs1 0 0 (MQ below (Qvw g Q) args s 0 0 (AW g)) (F0 m (pc + 3) ls (st.map (conc g))) := by
    intro H1 locs1 p1 _ s1
    rw [hset] at p1
    exact K p e s m args below meth c C H1 locs1 ls p1 s1 hl
  rcases f3 with f3 | f3
  · exact va_put (D := g.1) (cl := vwCl) (tys := tysW g) hx hb hts c2 (clTy ci) c3 c4 hown hO.1 hP (hO.D μ) hS k he c1 j f2 (hts _ f3) (fun _ q => q) hfin ((c3 j f2).trans (congrArg some hty)) (by rcases hz with rfl | rfl <;> rfl) (by rcases hz with rfl | rfl <;> rfl) hlen dg KK
  · exact va_putN (D := g.1) (cl := vwCl) (tys := tysW g) hx hb hts c2 (clTy ci) c3 c4 hown hO.1 hP (hO.D μ) hS k he c1 j f2 (va_Nw.use rfl (hO.2.1 _ f3)) (fun _ q => q) hfin ((c3 j f2).trans (congrArg some hty)) (by rcases hz with rfl | rfl <;> rfl) (by rcases hz with rfl | rfl <;> rfl) hlen dg KK
theorem cellE_10 {g : GW} {c : Nat × Nat} {k : Nat} {i : Nat → Int32} {l : Nat → Int64} (h : kt k = 10) : cellE g c k i l = .inl (g.2.1 0, kn k, .inl i) := by
  unfold cellE
  rw [h]
  rfl
theorem V_iald {k j : Nat} {i : Int32} (dg : decode cc pc = .ok (.iaload, 1)) (hk : k < 88) (ht : kt k = 10) (hi : i = nI j) (hj : j < kn k) (K : V l g own cc nL rt d (pc + 1) lv (.int (μ.1 k j) :: st) μ Q) : V l g own cc nL rt d pc lv (.int i :: .ref k :: st) μ Q := by
  intro p e s m args below meth c C H locs ls hP hS hl
  obtain ⟨hx, hb, hr0, hml, hown, hlk, hts, hO⟩ := id C
  subst hi
  have hlt := kn_lt k
  have he := Wd_at g μ hk
  rw [cellE_10 ht] at he
  have ec : (nI j).toNatClampNeg = j := nI_clamp (by omega)
  refine va_iald (D := g.1) (cl := vwCl) (tys := tysW g) hx hb hO.1 hP k 0 he rfl (vp_in_nI hj (by omega)) dg ?_
  rw [ec]
  exact (K p e s m args below meth c C H locs ls hP hS hl)
theorem cellE_11 {g : GW} {c : Nat × Nat} {k : Nat} {i : Nat → Int32} {l : Nat → Int64} (h : kt k = 11) : cellE g c k i l = .inl (g.2.1 1, kn k, .inl i) := by
  unfold cellE
  rw [h]
  rfl
theorem V_bald {k j : Nat} {i : Int32} (dg : decode cc pc = .ok (.baload, 1)) (hk : k < 88) (ht : kt k = 11) (hi : i = nI j) (hj : j < kn k) (K : V l g own cc nL rt d (pc + 1) lv (.int (μ.1 k j) :: st) μ Q) : V l g own cc nL rt d pc lv (.int i :: .ref k :: st) μ Q := by
  intro p e s m args below meth c C H locs ls hP hS hl
  obtain ⟨hx, hb, hr0, hml, hown, hlk, hts, hO⟩ := id C
  subst hi
  have hlt := kn_lt k
  have he := Wd_at g μ hk
  rw [cellE_11 ht] at he
  have ec : (nI j).toNatClampNeg = j := nI_clamp (by omega)
  refine va_bald (D := g.1) (cl := vwCl) (tys := tysW g) hx hb hO.1 hP k 1 he rfl (vp_in_nI hj (by omega)) dg ?_
  rw [ec]
  exact (K p e s m args below meth c C H locs ls hP hS hl)
theorem cellE_12 {g : GW} {c : Nat × Nat} {k : Nat} {i : Nat → Int32} {l : Nat → Int64} (h : kt k = 12) : cellE g c k i l = .inl (g.2.1 2, kn k, .inl i) := by
  unfold cellE
  rw [h]
  rfl
theorem V_zald {k j : Nat} {i : Int32} (dg : decode cc pc = .ok (.baload, 1)) (hk : k < 88) (ht : kt k = 12) (hi : i = nI j) (hj : j < kn k) (K : V l g own cc nL rt d (pc + 1) lv (.int (μ.1 k j) :: st) μ Q) : V l g own cc nL rt d pc lv (.int i :: .ref k :: st) μ Q := by
  intro p e s m args below meth c C H locs ls hP hS hl
  obtain ⟨hx, hb, hr0, hml, hown, hlk, hts, hO⟩ := id C
  subst hi
  have hlt := kn_lt k
  have he := Wd_at g μ hk
  rw [cellE_12 ht] at he
  have ec : (nI j).toNatClampNeg = j := nI_clamp (by omega)
  refine va_zald (D := g.1) (cl := vwCl) (tys := tysW g) hx hb hO.1 hP k 2 he rfl (vp_in_nI hj (by omega)) dg ?_
  rw [ec]
  exact (K p e s m args below meth c C H locs ls hP hS hl)
theorem cellE_13 {g : GW} {c : Nat × Nat} {k : Nat} {i : Nat → Int32} {l : Nat → Int64} (h : kt k = 13) : cellE g c k i l = .inl (g.2.1 3, kn k, .inr (.inl l)) := by
  unfold cellE
  rw [h]
  rfl
theorem V_lald {k j : Nat} {i : Int32} (dg : decode cc pc = .ok (.laload, 1)) (hk : k < 88) (ht : kt k = 13) (hi : i = nI j) (hj : j < kn k) (K : V l g own cc nL rt d (pc + 1) lv (.long (μ.2.1 k j) :: st) μ Q) : V l g own cc nL rt d pc lv (.int i :: .ref k :: st) μ Q := by
  intro p e s m args below meth c C H locs ls hP hS hl
  obtain ⟨hx, hb, hr0, hml, hown, hlk, hts, hO⟩ := id C
  subst hi
  have hlt := kn_lt k
  have he := Wd_at g μ hk
  rw [cellE_13 ht] at he
  have ec : (nI j).toNatClampNeg = j := nI_clamp (by omega)
  refine va_lald (D := g.1) (cl := vwCl) (tys := tysW g) hx hb hO.1 hP k 3 he rfl (vp_in_nI hj (by omega)) dg ?_
  rw [ec]
  exact (K p e s m args below meth c C H locs ls hP hS hl)
theorem V_iast {k j : Nat} {i : Int32} {v : Int32} (dg : decode cc pc = .ok (.iastore, 1)) (hk : k < 88) (ht : kt k = 10) (hi : i = nI j) (hj : j < kn k) (K : V l g own cc nL rt d (pc + 1) lv st (setI μ k j v) Q) : V l g own cc nL rt d pc lv (.int v :: .int i :: .ref k :: st) μ Q := by
  intro p e s m args below meth c C H locs ls hP hS hl
  obtain ⟨hx, hb, hr0, hml, hown, hlk, hts, hO⟩ := id C
  subst hi
  have hlt := kn_lt k
  have he := Wd_at g μ hk
  rw [cellE_10 ht] at he
  have ec : (nI j).toNatClampNeg = j := nI_clamp (by omega)
  refine va_iast (D := g.1) (cl := vwCl) (tys := tysW g) hx hb hO.1 hP (hO.D μ) hS k 0 he rfl (vp_in_nI hj (by omega)) dg (fun H1 locs1 p1 _ s1 => ?_)
  rw [ec, Wd_set (μ' := setI μ k j v) ?_ (fun a _ hn => cellsI a hn)] at p1
  · exact K p e s m args below meth c C H1 locs1 ls p1 s1 hl
  · show cellE g μ.2.2 k (up2 μ.1 k j v k) (μ.2.1 k) = _
    rw [cellE_10 ht, up2_row]
    rfl
theorem V_bast {k j : Nat} {i : Int32} {v : Int32} (dg : decode cc pc = .ok (.bastore, 1)) (hk : k < 88) (ht : kt k = 11) (hi : i = nI j) (hj : j < kn k) (K : V l g own cc nL rt d (pc + 1) lv st (setI μ k j (vp_nar .byte v)) Q) : V l g own cc nL rt d pc lv (.int v :: .int i :: .ref k :: st) μ Q := by
  intro p e s m args below meth c C H locs ls hP hS hl
  obtain ⟨hx, hb, hr0, hml, hown, hlk, hts, hO⟩ := id C
  subst hi
  have hlt := kn_lt k
  have he := Wd_at g μ hk
  rw [cellE_11 ht] at he
  have ec : (nI j).toNatClampNeg = j := nI_clamp (by omega)
  refine va_bast (D := g.1) (cl := vwCl) (tys := tysW g) hx hb hO.1 hP (hO.D μ) hS k 1 he rfl (vp_in_nI hj (by omega)) dg (fun H1 locs1 p1 _ s1 => ?_)
  rw [ec, Wd_set (μ' := setI μ k j (vp_nar .byte v)) ?_ (fun a _ hn => cellsI a hn)] at p1
  · exact K p e s m args below meth c C H1 locs1 ls p1 s1 hl
  · show cellE g μ.2.2 k (up2 μ.1 k j (vp_nar .byte v) k) (μ.2.1 k) = _
    rw [cellE_11 ht, up2_row]
    rfl
theorem V_zast {k j : Nat} {i : Int32} {v : Int32} (dg : decode cc pc = .ok (.bastore, 1)) (hk : k < 88) (ht : kt k = 12) (hi : i = nI j) (hj : j < kn k) (K : V l g own cc nL rt d (pc + 1) lv st (setI μ k j (vp_nar .boolean v)) Q) : V l g own cc nL rt d pc lv (.int v :: .int i :: .ref k :: st) μ Q := by
  intro p e s m args below meth c C H locs ls hP hS hl
  obtain ⟨hx, hb, hr0, hml, hown, hlk, hts, hO⟩ := id C
  subst hi
  have hlt := kn_lt k
  have he := Wd_at g μ hk
  rw [cellE_12 ht] at he
  have ec : (nI j).toNatClampNeg = j := nI_clamp (by omega)
  refine va_zast (D := g.1) (cl := vwCl) (tys := tysW g) hx hb hO.1 hP (hO.D μ) hS k 2 he rfl (vp_in_nI hj (by omega)) dg (fun H1 locs1 p1 _ s1 => ?_)
  rw [ec, Wd_set (μ' := setI μ k j (vp_nar .boolean v)) ?_ (fun a _ hn => cellsI a hn)] at p1
  · exact K p e s m args below meth c C H1 locs1 ls p1 s1 hl
  · show cellE g μ.2.2 k (up2 μ.1 k j (vp_nar .boolean v) k) (μ.2.1 k) = _
    rw [cellE_12 ht, up2_row]
    rfl
theorem V_last {k j : Nat} {i : Int32} {v : Int64} (dg : decode cc pc = .ok (.lastore, 1)) (hk : k < 88) (ht : kt k = 13) (hi : i = nI j) (hj : j < kn k) (K : V l g own cc nL rt d (pc + 1) lv st (setL μ k j v) Q) : V l g own cc nL rt d pc lv (.long v :: .int i :: .ref k :: st) μ Q := by
  intro p e s m args below meth c C H locs ls hP hS hl
  obtain ⟨hx, hb, hr0, hml, hown, hlk, hts, hO⟩ := id C
  subst hi
  have hlt := kn_lt k
  have he := Wd_at g μ hk
  rw [cellE_13 ht] at he
  have ec : (nI j).toNatClampNeg = j := nI_clamp (by omega)
  refine va_last (D := g.1) (cl := vwCl) (tys := tysW g) hx hb hO.1 hP (hO.D μ) hS k 3 he rfl (vp_in_nI hj (by omega)) dg (fun H1 locs1 p1 _ s1 => ?_)
  rw [ec, Wd_set (μ' := setL μ k j v) ?_ (fun a _ hn => cellsL a hn)] at p1
  · exact K p e s m args below meth c C H1 locs1 ls p1 s1 hl
  · show cellE g μ.2.2 k (μ.1 k) (up2 μ.2.1 k j v k) = _
    rw [cellE_13 ht, up2_row]
    rfl
theorem cellE_14 {g : GW} {c : Nat × Nat} {k : Nat} {i : Nat → Int32} {l : Nat → Int64} (h : kt k = 14) : cellE g c k i l = .inl (g.2.1 4, kn k, .inr (.inr (.inr (.inr (fun j => some (g.2.2 (k + 1 + j))))))) := by
  unfold cellE rfs
  rw [h]
  rfl
theorem V_aald14 {k j : Nat} {i : Int32} (dg : decode cc pc = .ok (.aaload, 1)) (hk : k < 88) (ht : kt k = 14) (hi : i = nI j) (hj : j < kn k) (K : V l g own cc nL rt d (pc + 1) lv (.ref (k + 1 + j) :: st) μ Q) : V l g own cc nL rt d pc lv (.int i :: .ref k :: st) μ Q := by
  intro p e s m args below meth c C H locs ls hP hS hl
  obtain ⟨hx, hb, hr0, hml, hown, hlk, hts, hO⟩ := id C
  subst hi
  have hlt := kn_lt k
  have he := Wd_at g μ hk
  rw [cellE_14 ht] at he
  have ec : (nI j).toNatClampNeg = j := nI_clamp (by omega)
  have hin : vp_in (nI j) (kn k) := vp_in_nI hj (by omega)
  exact W.aald (v := .ref (g.2.2 (k + 1 + j))) (ty := .object "NamedWind$Ship") hx hb (hP k _ he) ((hO.1.2 4 _ rfl).1 (kn k) (fun j => va_rf (some (g.2.2 (k + 1 + j))))) rfl (fun q => by cases q) (by show ¬ (nI j < 0 ∨ (arrV _ _ _).slots.size ≤ _); rw [arrV_size]; exact hin) (by show (arrV _ _ _).slots[_]? = _; rw [ec, arrV_read _ _ hj]; rfl) rfl rfl dg (K p e s m args below meth c C H locs ls hP hS hl)
theorem cellE_15 {g : GW} {c : Nat × Nat} {k : Nat} {i : Nat → Int32} {l : Nat → Int64} (h : kt k = 15) : cellE g c k i l = .inl (g.2.1 5, kn k, .inr (.inr (.inr (.inr (fun j => some (g.2.2 (k + 1 + j))))))) := by
  unfold cellE rfs
  rw [h]
  rfl
theorem V_aald15 {k j : Nat} {i : Int32} (dg : decode cc pc = .ok (.aaload, 1)) (hk : k < 88) (ht : kt k = 15) (hi : i = nI j) (hj : j < kn k) (K : V l g own cc nL rt d (pc + 1) lv (.ref (k + 1 + j) :: st) μ Q) : V l g own cc nL rt d pc lv (.int i :: .ref k :: st) μ Q := by
  intro p e s m args below meth c C H locs ls hP hS hl
  obtain ⟨hx, hb, hr0, hml, hown, hlk, hts, hO⟩ := id C
  subst hi
  have hlt := kn_lt k
  have he := Wd_at g μ hk
  rw [cellE_15 ht] at he
  have ec : (nI j).toNatClampNeg = j := nI_clamp (by omega)
  have hin : vp_in (nI j) (kn k) := vp_in_nI hj (by omega)
  exact W.aald (v := .ref (g.2.2 (k + 1 + j))) (ty := .array .int) hx hb (hP k _ he) ((hO.1.2 5 _ rfl).1 (kn k) (fun j => va_rf (some (g.2.2 (k + 1 + j))))) rfl (fun q => by cases q) (by show ¬ (nI j < 0 ∨ (arrV _ _ _).slots.size ≤ _); rw [arrV_size]; exact hin) (by show (arrV _ _ _).slots[_]? = _; rw [ec, arrV_read _ _ hj]; rfl) rfl rfl dg (K p e s m args below meth c C H locs ls hP hS hl)
theorem V_alen {k : Nat} (dg : decode cc pc = .ok (.arraylength, 1)) (hk : k < 88) (ht : kt k = 10) (K : V l g own cc nL rt d (pc + 1) lv (.int (nI (kn k)) :: st) μ Q) : V l g own cc nL rt d pc lv (.ref k :: st) μ Q := by
  intro p e s m args below meth c C H locs ls hP hS hl
  obtain ⟨hx, hb, hr0, hml, hown, hlk, hts, hO⟩ := id C
  have he := Wd_at g μ hk
  rw [cellE_10 ht] at he
  exact va_alen (D := g.1) (cl := vwCl) (tys := tysW g) hx hb hO.1 hP k 0 he (ty := .int) rfl rfl dg (K p e s m args below meth c C H locs ls hP hS hl)
theorem V_gets {idx k : Nat} (dg : decode cc pc = .ok (.getstatic idx, 3)) (hk : 88 ≤ k) (hk2 : k < 91) (hw : Cond.fieldLink own idx "NamedWind" (stN k) "[I" ∈ wsL_law) (K : V l g own cc nL rt d (pc + 3) lv (.ref k :: st) μ Q) : V l g own cc nL rt d pc lv st μ Q := by
  intro p e s m args below meth c C H locs ls hP hS hl
  obtain ⟨hx, hb, hr0, hml, hown, hlk, hts, hO⟩ := id C
  exact va_gets hx hb (hO.2.2.2 k hk hk2).1 hS hown (hts _ hw) (fun _ q => q) dg (K p e s m args below meth c C H locs ls hP hS hl)
theorem V_getsN {idx k : Nat} (dg : decode cc pc = .ok (.getstatic idx, 3)) (hk : 88 ≤ k) (hk2 : k < 91) (hw : Cond.fieldLinkNest own idx "NamedWind" (stN k) "[I" "NamedWind" ∈ nestW) (K : V l g own cc nL rt d (pc + 3) lv (.ref k :: st) μ Q) : V l g own cc nL rt d pc lv st μ Q := by
  intro p e s m args below meth c C H locs ls hP hS hl
  obtain ⟨hx, hb, hr0, hml, hown, hlk, hts, hO⟩ := id C
  exact va_getsN hx hb (hO.2.2.2 k hk hk2).1 hS hown (va_Nw.use rfl (hO.2.1 _ hw)) (fun _ q => q) dg (K p e s m args below meth c C H locs ls hP hS hl)
theorem V_sald {k j : Nat} {i : Int32} (dg : decode cc pc = .ok (.iaload, 1)) (hk : 88 ≤ k) (hk2 : k < 91) (hi : i = nI j) (hj : j < (stT k).length) (K : V l g own cc nL rt d (pc + 1) lv (.int ((stT k).getD j 0) :: st) μ Q) : V l g own cc nL rt d pc lv (.int i :: .ref k :: st) μ Q := by
  intro p e s m args below meth c C H locs ls hP hS hl
  obtain ⟨hx, hb, hr0, hml, hown, hlk, hts, hO⟩ := id C
  subst hi
  have hlen : (stT k).length < 100 := by
    match k, hk, hk2 with
    | 88, _, _ => decide
    | 89, _, _ => decide
    | 90, _, _ => decide
  have ec : (nI j).toNatClampNeg = j := nI_clamp (by omega)
  exact va_ti hx hb (hO.2.2.2 k hk hk2).2 hS (vp_in_nI hj (by omega)) (by rw [ec]; rfl) dg (K p e s m args below meth c C H locs ls hP hS hl)
theorem V_mmax {idx : Nat} {x y : Int32} (dg : decode cc pc = .ok (.invokestatic idx, 3)) (hw : Cond.methodLink own idx Lib.Math.max.name ∈ wsL_law ∧ Cond.static Lib.Math.max.name ∈ wsL_law ∧ Cond.initialized "java/lang/Math" ∈ wsL_law ∧ Cond.code Lib.Math.max.name Lib.Math.max.code 2 (some .int) ∈ wsL_law) (hd : 1 ≤ d) (hst : (st.map fun v => v.category).sum ≤ 30) (K : V l g own cc nL rt d (pc + 3) lv (.int (if x < y then y else x) :: st) μ Q) : V l g own cc nL rt d pc lv (.int y :: .int x :: st) μ Q := by
  intro p e s m args below meth c C H locs ls hP hS hl
  obtain ⟨hx, hb, hr0, hml, hown, hlk, hts, hO⟩ := id C
  have eq9 : ((st.map (conc g)).map fun v => v.category) = st.map fun v => v.category := by rw [List.map_map]; exact List.map_congr_left (fun v _ => conc_cat g v)
  exact va_mmax hx hb (hml.trans hl.1.symm) hown (hts _ hw.1) (hts _ hw.2.1) (hts _ hw.2.2.1) (hts _ hw.2.2.2) hd (by rw [eq9]; show _ ≤ 48 * d; omega) (Nat.zero_le _) (Nat.zero_le _) dg (K p e s m args below meth c C H locs ls hP hS hl)
theorem V_mmin {idx : Nat} {x y : Int32} (dg : decode cc pc = .ok (.invokestatic idx, 3)) (hw : Cond.methodLink own idx Lib.Math.min.name ∈ wsL_law ∧ Cond.static Lib.Math.min.name ∈ wsL_law ∧ Cond.initialized "java/lang/Math" ∈ wsL_law ∧ Cond.code Lib.Math.min.name Lib.Math.min.code 2 (some .int) ∈ wsL_law) (hd : 1 ≤ d) (hst : (st.map fun v => v.category).sum ≤ 30) (K : V l g own cc nL rt d (pc + 3) lv (.int (if y < x then y else x) :: st) μ Q) : V l g own cc nL rt d pc lv (.int y :: .int x :: st) μ Q := by
  intro p e s m args below meth c C H locs ls hP hS hl
  obtain ⟨hx, hb, hr0, hml, hown, hlk, hts, hO⟩ := id C
  have eq9 : ((st.map (conc g)).map fun v => v.category) = st.map fun v => v.category := by rw [List.map_map]; exact List.map_congr_left (fun v _ => conc_cat g v)
  exact va_mmin hx hb (hml.trans hl.1.symm) hown (hts _ hw.1) (hts _ hw.2.1) (hts _ hw.2.2.1) (hts _ hw.2.2.2) hd (by rw [eq9]; show _ ≤ 48 * d; omega) (Nat.zero_le _) (Nat.zero_le _) dg (K p e s m args below meth c C H locs ls hP hS hl)
theorem Con_blind {g : GW} {av : List Value} {μ : Mm} : FrameBlind (va_Pc (av.map (conc g)) (fun U => OKw g U ∧ va_P g.1 vwCl (Wd g μ) U.heap)) := by
  intro a U f mk h
  exact ⟨h.1, h.2.1.calling f mk a, h.2.2⟩
theorem V_callW {p : Program} {e : Env} {s : State} {m : MethodId} {args : Array Value} {below : List Frame} {meth : Method} {c : Code} {H : Heap} {locs : List Loc} {ls : Array Slot} {st0 : List Value} {a : Array Value} {Q' : Option Value → Mm → Prop} (C : Ctx l g own cc nL rt p s m args meth c) (hS : va_S (AW g) s.heap H locs) (hl : LVs g ls nL lv) (hr : va_Run p l e (rmv d) s m args below meth c H locs 0 0 0 0 (F0 m pc ls st0) (st.map (conc g)) (Qvw g Q' a) (AW g)) (K : ∀ r μ', Q' r μ' → V l g own cc nL rt d (pc + 3) lv (r.toList ++ st) μ' Q) : W p l e (rmv d) s m args below meth c H locs 0 0 (MQ below (Qvw g Q) args s 0 0 (AW g)) (F0 m pc ls st0) := by
  intro T hT X
  obtain ⟨v, st₀, t, T', L, h0, X', hL, e1, e2, ⟨⟨r, μ', hv, hQ, hP'⟩, hz, hk⟩, stp⟩ := hr T hT X
  have hv : v = r.map (conc g) := by cases hv; rfl
  subst hv
  rw [h0] at hz hk
  have hS' : va_S (AW g) s.heap T'.heap (locs ++ L) := ⟨Nat.le_trans hS.1 (by rw [e1]; exact hz), fun q h1 h2 => by rw [e1, hk q (Nat.lt_of_lt_of_le h1 hS.1) h2]; exact hS.2.1 q h1 h2, fun q hq => by
      rcases List.mem_append.mp hq with h | h
      · exact hS.2.2 q h
      · exact hL q h⟩
  obtain ⟨t2, a1, b1⟩ := K r μ' hQ p e s m args below meth c C T'.heap (locs ++ L) ls (by rw [e1]; exact hP') hS' hl T' rfl X'
  refine ⟨t2, stp t2 ?_, b1⟩
  cases r <;> exact a1
theorem cat_rest {st : List Value} (h : (st.map fun v => v.category).sum ≤ 8) : ((st.map (conc g)).map fun v => v.category).sum ≤ 8 := by
  have e : ((st.map (conc g)).map fun v => v.category) = st.map fun v => v.category := by rw [List.map_map]; exact List.map_congr_left (fun v _ => conc_cat g v)
  rw [e]
  exact h
theorem V_inv {idx n k ci d' : Nat} {y : MethodName} {cc' : ByteArray} {nL' : Nat} {rt' : Option FieldType} {As : List Value} {Q' : Option Value → Mm → Prop} (dg : decode cc pc = .ok (.invokevirtual idx, 3)) (ml : MLv own idx y cc' nL' rt' n) (hA : As.length = n) (hk : k < 88) (ht : kt k = ci) (hci : ci < 9 ∧ clR ci = y.cls) (hC : Con l g y cc' nL' rt' d' (.ref k :: As) μ Q') (hd : d' < d) (hst : (st.map fun v => v.category).sum ≤ 8) (K : ∀ r μ', Q' r μ' → V l g own cc nL rt d (pc + 3) lv (r.toList ++ st) μ' Q) : V l g own cc nL rt d pc lv (As.reverse ++ .ref k :: st) μ Q := by
  intro p e s m args below meth c C H locs ls hP hS hl
  obtain ⟨hx, hb, hr0, hml, hown, hlk, hts, hO⟩ := id C
  obtain ⟨⟨m1, m2, m3, m4, m5, m6⟩, m7, m8⟩ := ml
  obtain ⟨c1, c2, c3, c4⟩ := CLo_all ci hci.1
  have he := Wd_at g μ hk
  rw [cellE_obj ht hci.1] at he
  have hG : GoodIn wsL_law (.code y cc' nL' rt' :: wsL_law) := fun w hw => by
    rcases List.mem_cons.mp hw with rfl | hw
    · exact wsL_G _ m3
    · exact wsL_G _ hw
  have hR : (rmv d').frames + 1 ≤ (rmv d).frames ∧ 8 + (nL' + 11) + (rmv d').locals ≤ (rmv d).locals := by
    constructor
    · exact hd
    · show 8 + (nL' + 11) + 48 * d' ≤ 48 * d
      omega
  have hn : ∀ sig, parseMethodDescriptor y.desc = some sig → n = sig.parameters.length := by
    intro sig h
    rw [h] at m5
    exact (Option.some.inj m5).symm
  have hp : PreV s H y.cls (g.2.2 k) (va_Pc ((Value.ref k :: As).map (conc g)) (fun U => OKw g U ∧ va_P g.1 vwCl (Wd g μ) U.heap)) (As.map (conc g)) := by
    refine ⟨Con_blind, ?_, fun U hU hW => ⟨rfl, hO.moved hW (by rw [hU]; exact hS), by rw [hU]; exact hP⟩⟩
    have hrv := va_recv hO.1 hP (ci := ci) (q0 := k) c1 he
    rw [← hci.2]
    exact hrv
  have hstk : (As.reverse ++ Value.ref k :: st).map (conc g) = (As.map (conc g)).reverse ++ .ref (g.2.2 k) :: st.map (conc g) := by
    rw [List.map_append, List.map_reverse]
    rfl
  rw [hstk]
  rcases m1 with m1 | m1
  · exact V_callW C hS hl (va_runV (As := As.map (conc g)) (rest := st.map (conc g)) ⟨hx, hb, hml, hown, hts⟩ hC ⟨⟨rfl, rfl, hR.1, hR.2, pay_in hts hG, List.mem_cons_self, hts _ m3, hts _ m2, m4, hn, hts _ m1⟩, hts _ m7, hts _ m8⟩ hp rfl (by rw [List.length_map]; exact hA) hl.1 rfl (lv_room (cat_rest hst)) dg ⟨Nat.zero_le _, Nat.zero_le _⟩) K
  · exact V_callW C hS hl (va_runVN (As := As.map (conc g)) (rest := st.map (conc g)) ⟨hx, hb, hml, hown, hts⟩ hC ⟨⟨⟨rfl, rfl, hR.1, hR.2, pay_in hts hG, List.mem_cons_self⟩, hts _ m3, hts _ m2, m4, hn, va_Nw.use rfl (hO.2.1 _ m1)⟩, hts _ m7, hts _ m8⟩ hp rfl (by rw [List.length_map]; exact hA) hl.1 rfl (lv_room (cat_rest hst)) dg ⟨Nat.zero_le _, Nat.zero_le _⟩) K
theorem V_ins {idx n d' : Nat} {y : MethodName} {cc' : ByteArray} {nL' : Nat} {rt' : Option FieldType} {As : List Value} {Q' : Option Value → Mm → Prop} (dg : decode cc pc = .ok (.invokestatic idx, 3)) (ml : MLs own idx y cc' nL' rt' n) (hA : As.length = n) (hC : Con l g y cc' nL' rt' d' As μ Q') (hd : d' < d) (hst : (st.map fun v => v.category).sum ≤ 8) (K : ∀ r μ', Q' r μ' → V l g own cc nL rt d (pc + 3) lv (r.toList ++ st) μ' Q) : V l g own cc nL rt d pc lv (As.reverse ++ st) μ Q := by
  intro p e s m args below meth c C H locs ls hP hS hl
  obtain ⟨hx, hb, hr0, hml, hown, hlk, hts, hO⟩ := id C
  obtain ⟨⟨m1, m2, m3, m4, m5, m6⟩, m7⟩ := ml
  have hG : GoodIn wsL_law (.code y cc' nL' rt' :: wsL_law) := fun w hw => by
    rcases List.mem_cons.mp hw with rfl | hw
    · exact wsL_G _ m3
    · exact wsL_G _ hw
  have hR : (rmv d').frames + 1 ≤ (rmv d).frames ∧ 8 + (nL' + 11) + (rmv d').locals ≤ (rmv d).locals := by
    constructor
    · exact hd
    · show 8 + (nL' + 11) + 48 * d' ≤ 48 * d
      omega
  have hn : ∀ sig, parseMethodDescriptor y.desc = some sig → n = sig.parameters.length := by
    intro sig h
    rw [h] at m5
    exact (Option.some.inj m5).symm
  have hp : PreS s H (va_Pc (As.map (conc g)) (fun U => OKw g U ∧ va_P g.1 vwCl (Wd g μ) U.heap)) (As.map (conc g)) := ⟨Con_blind, fun U hU hW => ⟨rfl, hO.moved hW (by rw [hU]; exact hS), by rw [hU]; exact hP⟩⟩
  have hstk : (As.reverse ++ st).map (conc g) = (As.map (conc g)).reverse ++ st.map (conc g) := by
    rw [List.map_append, List.map_reverse]
  rw [hstk]
  rcases m1 with m1 | m1
  · exact V_callW C hS hl (va_runS (As := As.map (conc g)) (rest := st.map (conc g)) ⟨hx, hb, hml, hown, hts⟩ hC ⟨⟨rfl, rfl, hR.1, hR.2, pay_in hts hG, List.mem_cons_self, hts _ m3, hts _ m2, m4, hn, hts _ m1⟩, hts _ m7⟩ hp rfl (by rw [List.length_map]; exact hA) hl.1 rfl (lv_room (cat_rest hst)) dg ⟨Nat.zero_le _, Nat.zero_le _⟩) K
  · exact V_callW C hS hl (va_runSN (As := As.map (conc g)) (rest := st.map (conc g)) ⟨hx, hb, hml, hown, hts⟩ hC ⟨⟨⟨rfl, rfl, hR.1, hR.2, pay_in hts hG, List.mem_cons_self⟩, hts _ m3, hts _ m2, m4, hn, va_Nw.use rfl (hO.2.1 _ m1)⟩, hts _ m7, trivial⟩ hp rfl (by rw [List.length_map]; exact hA) hl.1 rfl (lv_room (cat_rest hst)) dg ⟨Nat.zero_le _, Nat.zero_le _⟩) K
theorem V_inv0 {idx k ci d' : Nat} {y : MethodName} {cc' : ByteArray} {nL' : Nat} {rt' : Option FieldType} {Q' : Option Value → Mm → Prop} (dg : decode cc pc = .ok (.invokevirtual idx, 3)) (ml : MLv own idx y cc' nL' rt' 0) (hk : k < 88) (ht : kt k = ci) (hci : ci < 9 ∧ clR ci = y.cls) (hd : d' < d) (hst : (st.map fun v => v.category).sum ≤ 8) (hC : Con l g y cc' nL' rt' d' (.ref k :: []) μ Q') (K : ∀ r μ', Q' r μ' → V l g own cc nL rt d (pc + 3) lv (r.toList ++ st) μ' Q) : V l g own cc nL rt d pc lv (.ref k :: st) μ Q := V_inv dg ml rfl hk ht hci hC hd hst K
theorem V_ins0 {idx d' : Nat} {y : MethodName} {cc' : ByteArray} {nL' : Nat} {rt' : Option FieldType} {Q' : Option Value → Mm → Prop} (dg : decode cc pc = .ok (.invokestatic idx, 3)) (ml : MLs own idx y cc' nL' rt' 0) (hd : d' < d) (hst : (st.map fun v => v.category).sum ≤ 8) (hC : Con l g y cc' nL' rt' d' [] μ Q') (K : ∀ r μ', Q' r μ' → V l g own cc nL rt d (pc + 3) lv (r.toList ++ st) μ' Q) : V l g own cc nL rt d pc lv (st) μ Q := V_ins dg ml rfl hC hd hst K
theorem V_inv1 {idx k ci d' : Nat} {y : MethodName} {cc' : ByteArray} {nL' : Nat} {rt' : Option FieldType} {a0 : Value} {Q' : Option Value → Mm → Prop} (dg : decode cc pc = .ok (.invokevirtual idx, 3)) (ml : MLv own idx y cc' nL' rt' 1) (hk : k < 88) (ht : kt k = ci) (hci : ci < 9 ∧ clR ci = y.cls) (hd : d' < d) (hst : (st.map fun v => v.category).sum ≤ 8) (hC : Con l g y cc' nL' rt' d' (.ref k :: [a0]) μ Q') (K : ∀ r μ', Q' r μ' → V l g own cc nL rt d (pc + 3) lv (r.toList ++ st) μ' Q) : V l g own cc nL rt d pc lv (a0 :: .ref k :: st) μ Q := V_inv dg ml rfl hk ht hci hC hd hst K
theorem V_ins1 {idx d' : Nat} {y : MethodName} {cc' : ByteArray} {nL' : Nat} {rt' : Option FieldType} {a0 : Value} {Q' : Option Value → Mm → Prop} (dg : decode cc pc = .ok (.invokestatic idx, 3)) (ml : MLs own idx y cc' nL' rt' 1) (hd : d' < d) (hst : (st.map fun v => v.category).sum ≤ 8) (hC : Con l g y cc' nL' rt' d' [a0] μ Q') (K : ∀ r μ', Q' r μ' → V l g own cc nL rt d (pc + 3) lv (r.toList ++ st) μ' Q) : V l g own cc nL rt d pc lv (a0 :: st) μ Q := V_ins dg ml rfl hC hd hst K
theorem V_inv2 {idx k ci d' : Nat} {y : MethodName} {cc' : ByteArray} {nL' : Nat} {rt' : Option FieldType} {a0 a1 : Value} {Q' : Option Value → Mm → Prop} (dg : decode cc pc = .ok (.invokevirtual idx, 3)) (ml : MLv own idx y cc' nL' rt' 2) (hk : k < 88) (ht : kt k = ci) (hci : ci < 9 ∧ clR ci = y.cls) (hd : d' < d) (hst : (st.map fun v => v.category).sum ≤ 8) (hC : Con l g y cc' nL' rt' d' (.ref k :: [a0, a1]) μ Q') (K : ∀ r μ', Q' r μ' → V l g own cc nL rt d (pc + 3) lv (r.toList ++ st) μ' Q) : V l g own cc nL rt d pc lv (a1 :: a0 :: .ref k :: st) μ Q := V_inv dg ml rfl hk ht hci hC hd hst K
theorem V_ins2 {idx d' : Nat} {y : MethodName} {cc' : ByteArray} {nL' : Nat} {rt' : Option FieldType} {a0 a1 : Value} {Q' : Option Value → Mm → Prop} (dg : decode cc pc = .ok (.invokestatic idx, 3)) (ml : MLs own idx y cc' nL' rt' 2) (hd : d' < d) (hst : (st.map fun v => v.category).sum ≤ 8) (hC : Con l g y cc' nL' rt' d' [a0, a1] μ Q') (K : ∀ r μ', Q' r μ' → V l g own cc nL rt d (pc + 3) lv (r.toList ++ st) μ' Q) : V l g own cc nL rt d pc lv (a1 :: a0 :: st) μ Q := V_ins dg ml rfl hC hd hst K
theorem V_inv3 {idx k ci d' : Nat} {y : MethodName} {cc' : ByteArray} {nL' : Nat} {rt' : Option FieldType} {a0 a1 a2 : Value} {Q' : Option Value → Mm → Prop} (dg : decode cc pc = .ok (.invokevirtual idx, 3)) (ml : MLv own idx y cc' nL' rt' 3) (hk : k < 88) (ht : kt k = ci) (hci : ci < 9 ∧ clR ci = y.cls) (hd : d' < d) (hst : (st.map fun v => v.category).sum ≤ 8) (hC : Con l g y cc' nL' rt' d' (.ref k :: [a0, a1, a2]) μ Q') (K : ∀ r μ', Q' r μ' → V l g own cc nL rt d (pc + 3) lv (r.toList ++ st) μ' Q) : V l g own cc nL rt d pc lv (a2 :: a1 :: a0 :: .ref k :: st) μ Q := V_inv dg ml rfl hk ht hci hC hd hst K
theorem V_ins3 {idx d' : Nat} {y : MethodName} {cc' : ByteArray} {nL' : Nat} {rt' : Option FieldType} {a0 a1 a2 : Value} {Q' : Option Value → Mm → Prop} (dg : decode cc pc = .ok (.invokestatic idx, 3)) (ml : MLs own idx y cc' nL' rt' 3) (hd : d' < d) (hst : (st.map fun v => v.category).sum ≤ 8) (hC : Con l g y cc' nL' rt' d' [a0, a1, a2] μ Q') (K : ∀ r μ', Q' r μ' → V l g own cc nL rt d (pc + 3) lv (r.toList ++ st) μ' Q) : V l g own cc nL rt d pc lv (a2 :: a1 :: a0 :: st) μ Q := V_ins dg ml rfl hC hd hst K
theorem V_inv4 {idx k ci d' : Nat} {y : MethodName} {cc' : ByteArray} {nL' : Nat} {rt' : Option FieldType} {a0 a1 a2 a3 : Value} {Q' : Option Value → Mm → Prop} (dg : decode cc pc = .ok (.invokevirtual idx, 3)) (ml : MLv own idx y cc' nL' rt' 4) (hk : k < 88) (ht : kt k = ci) (hci : ci < 9 ∧ clR ci = y.cls) (hd : d' < d) (hst : (st.map fun v => v.category).sum ≤ 8) (hC : Con l g y cc' nL' rt' d' (.ref k :: [a0, a1, a2, a3]) μ Q') (K : ∀ r μ', Q' r μ' → V l g own cc nL rt d (pc + 3) lv (r.toList ++ st) μ' Q) : V l g own cc nL rt d pc lv (a3 :: a2 :: a1 :: a0 :: .ref k :: st) μ Q := V_inv dg ml rfl hk ht hci hC hd hst K
theorem V_ins4 {idx d' : Nat} {y : MethodName} {cc' : ByteArray} {nL' : Nat} {rt' : Option FieldType} {a0 a1 a2 a3 : Value} {Q' : Option Value → Mm → Prop} (dg : decode cc pc = .ok (.invokestatic idx, 3)) (ml : MLs own idx y cc' nL' rt' 4) (hd : d' < d) (hst : (st.map fun v => v.category).sum ≤ 8) (hC : Con l g y cc' nL' rt' d' [a0, a1, a2, a3] μ Q') (K : ∀ r μ', Q' r μ' → V l g own cc nL rt d (pc + 3) lv (r.toList ++ st) μ' Q) : V l g own cc nL rt d pc lv (a3 :: a2 :: a1 :: a0 :: st) μ Q := V_ins dg ml rfl hC hd hst K
theorem V_inv5 {idx k ci d' : Nat} {y : MethodName} {cc' : ByteArray} {nL' : Nat} {rt' : Option FieldType} {a0 a1 a2 a3 a4 : Value} {Q' : Option Value → Mm → Prop} (dg : decode cc pc = .ok (.invokevirtual idx, 3)) (ml : MLv own idx y cc' nL' rt' 5) (hk : k < 88) (ht : kt k = ci) (hci : ci < 9 ∧ clR ci = y.cls) (hd : d' < d) (hst : (st.map fun v => v.category).sum ≤ 8) (hC : Con l g y cc' nL' rt' d' (.ref k :: [a0, a1, a2, a3, a4]) μ Q') (K : ∀ r μ', Q' r μ' → V l g own cc nL rt d (pc + 3) lv (r.toList ++ st) μ' Q) : V l g own cc nL rt d pc lv (a4 :: a3 :: a2 :: a1 :: a0 :: .ref k :: st) μ Q := V_inv dg ml rfl hk ht hci hC hd hst K
theorem V_ins5 {idx d' : Nat} {y : MethodName} {cc' : ByteArray} {nL' : Nat} {rt' : Option FieldType} {a0 a1 a2 a3 a4 : Value} {Q' : Option Value → Mm → Prop} (dg : decode cc pc = .ok (.invokestatic idx, 3)) (ml : MLs own idx y cc' nL' rt' 5) (hd : d' < d) (hst : (st.map fun v => v.category).sum ≤ 8) (hC : Con l g y cc' nL' rt' d' [a0, a1, a2, a3, a4] μ Q') (K : ∀ r μ', Q' r μ' → V l g own cc nL rt d (pc + 3) lv (r.toList ++ st) μ' Q) : V l g own cc nL rt d pc lv (a4 :: a3 :: a2 :: a1 :: a0 :: st) μ Q := V_ins dg ml rfl hC hd hst K
theorem V_inv6 {idx k ci d' : Nat} {y : MethodName} {cc' : ByteArray} {nL' : Nat} {rt' : Option FieldType} {a0 a1 a2 a3 a4 a5 : Value} {Q' : Option Value → Mm → Prop} (dg : decode cc pc = .ok (.invokevirtual idx, 3)) (ml : MLv own idx y cc' nL' rt' 6) (hk : k < 88) (ht : kt k = ci) (hci : ci < 9 ∧ clR ci = y.cls) (hd : d' < d) (hst : (st.map fun v => v.category).sum ≤ 8) (hC : Con l g y cc' nL' rt' d' (.ref k :: [a0, a1, a2, a3, a4, a5]) μ Q') (K : ∀ r μ', Q' r μ' → V l g own cc nL rt d (pc + 3) lv (r.toList ++ st) μ' Q) : V l g own cc nL rt d pc lv (a5 :: a4 :: a3 :: a2 :: a1 :: a0 :: .ref k :: st) μ Q := V_inv dg ml rfl hk ht hci hC hd hst K
theorem V_ins6 {idx d' : Nat} {y : MethodName} {cc' : ByteArray} {nL' : Nat} {rt' : Option FieldType} {a0 a1 a2 a3 a4 a5 : Value} {Q' : Option Value → Mm → Prop} (dg : decode cc pc = .ok (.invokestatic idx, 3)) (ml : MLs own idx y cc' nL' rt' 6) (hd : d' < d) (hst : (st.map fun v => v.category).sum ≤ 8) (hC : Con l g y cc' nL' rt' d' [a0, a1, a2, a3, a4, a5] μ Q') (K : ∀ r μ', Q' r μ' → V l g own cc nL rt d (pc + 3) lv (r.toList ++ st) μ' Q) : V l g own cc nL rt d pc lv (a5 :: a4 :: a3 :: a2 :: a1 :: a0 :: st) μ Q := V_ins dg ml rfl hC hd hst K
end VROWS
