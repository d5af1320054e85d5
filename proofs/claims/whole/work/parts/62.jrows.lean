/-! ===== ROWS AT ONE FRAME ===== -/
def J (p : Program) (l : Launch) (e : Env) (R : Room) (s : State) (m : MethodId) (args : Array Value) (below : List Frame) (meth : Method) (c : Code) (Z : State → Prop) (g : GW) (nL : Nat) (X : Heap → List Loc → Prop) (cn sn pc : Nat) (lv st : List Value) : Prop :=
  ∀ (H : Heap) (locs : List Loc) (ls : Array Slot), X H locs → LVs g ls nL lv → W p l e R s m args below meth c H locs cn sn Z (F0 m pc ls (st.map (conc g)))
section JROWS
variable {p : Program} {l : Launch} {e : Env} {R : Room} {s : State} {m : MethodId} {args : Array Value} {below : List Frame} {meth : Method} {c : Code} {Z : State → Prop} {g : GW} {nL : Nat} {X : Heap → List Loc → Prop} {cn sn pc : Nat} {lv st : List Value} {cc : ByteArray}
theorem J_aload_n (hx : p.tables.exec = Jvm.exec) (hb : c.code = cc) {k : Fin 4} {i : Nat} {x : Nat} (dg : decode cc pc = .ok (.aload_n k, 1)) (hi : (k : Nat) = i) (h0 : lv[i]? = some (.ref x)) (K : J p l e R s m args below meth c Z g nL X cn sn (pc + 1) lv (.ref x :: st)) : J p l e R s m args below meth c Z g nL X cn sn pc lv st := by
  intro H locs ls hX hl
  exact lv_aload_n hx hb dg hi (hl.get h0 (by intro q; cases q)) (K H locs ls hX hl)
theorem J_iload_n (hx : p.tables.exec = Jvm.exec) (hb : c.code = cc) {k : Fin 4} {i : Nat} {x : Int32} (dg : decode cc pc = .ok (.iload_n k, 1)) (hi : (k : Nat) = i) (h0 : lv[i]? = some (.int x)) (K : J p l e R s m args below meth c Z g nL X cn sn (pc + 1) lv (.int x :: st)) : J p l e R s m args below meth c Z g nL X cn sn pc lv st := by
  intro H locs ls hX hl
  exact lv_iload_n hx hb dg hi (hl.get h0 (by intro q; cases q)) (K H locs ls hX hl)
theorem J_iload (hx : p.tables.exec = Jvm.exec) (hb : c.code = cc) {i : Nat} {x : Int32} (dg : decode cc pc = .ok (.iload i, 2)) (h0 : lv[i]? = some (.int x)) (K : J p l e R s m args below meth c Z g nL X cn sn (pc + 2) lv (.int x :: st)) : J p l e R s m args below meth c Z g nL X cn sn pc lv st := by
  intro H locs ls hX hl
  exact lv_iload hx hb dg (hl.get h0 (by intro q; cases q)) (K H locs ls hX hl)
theorem J_iconst (hx : p.tables.exec = Jvm.exec) (hb : c.code = cc) {n : Int} {v : Int32} (dg : decode cc pc = .ok (.iconst n, 1)) (hv : Int32.ofInt n = v) (K : J p l e R s m args below meth c Z g nL X cn sn (pc + 1) lv (.int v :: st)) : J p l e R s m args below meth c Z g nL X cn sn pc lv st := by
  intro H locs ls hX hl
  exact lv_iconst hx hb dg hv (K H locs ls hX hl)
theorem J_bipush (hx : p.tables.exec = Jvm.exec) (hb : c.code = cc) {n : Int} {v : Int32} (dg : decode cc pc = .ok (.bipush n, 2)) (hv : (Int8.ofInt n).toInt32 = v) (K : J p l e R s m args below meth c Z g nL X cn sn (pc + 2) lv (.int v :: st)) : J p l e R s m args below meth c Z g nL X cn sn pc lv st := by
  intro H locs ls hX hl
  exact lv_bipush hx hb dg hv (K H locs ls hX hl)
theorem J_sipush (hx : p.tables.exec = Jvm.exec) (hb : c.code = cc) {n : Int} {v : Int32} (dg : decode cc pc = .ok (.sipush n, 3)) (hv : (Int16.ofInt n).toInt32 = v) (K : J p l e R s m args below meth c Z g nL X cn sn (pc + 3) lv (.int v :: st)) : J p l e R s m args below meth c Z g nL X cn sn pc lv st := by
  intro H locs ls hX hl
  exact lv_sipush hx hb dg hv (K H locs ls hX hl)
theorem J_dup (hx : p.tables.exec = Jvm.exec) (hb : c.code = cc) {va : Value} (dg : decode cc pc = .ok (.dup, 1)) (hva : va.category = 1) (K : J p l e R s m args below meth c Z g nL X cn sn (pc + 1) lv (va :: va :: st)) : J p l e R s m args below meth c Z g nL X cn sn pc lv (va :: st) := by
  intro H locs ls hX hl
  exact lv_dup hx hb dg (by rw [conc_cat]; exact hva) (K H locs ls hX hl)
theorem J_istore_n (hx : p.tables.exec = Jvm.exec) (hb : c.code = cc) {k : Fin 4} {i : Nat} {x : Int32} (dg : decode cc pc = .ok (.istore_n k, 1)) (hi : (k : Nat) = i) (hn : i < nL) (ho : okp lv i = true) (K : J p l e R s m args below meth c Z g nL X cn sn (pc + 1) (lv.set i (.int x)) st) : J p l e R s m args below meth c Z g nL X cn sn pc lv (.int x :: st) := by
  intro H locs ls hX hl
  exact lv_istore_n hx hb dg hi hl hn rfl (fun ls2 h2 => (K H locs ls2 hX (LVs.put (v := .int x) ho h2)))
theorem J_istore (hx : p.tables.exec = Jvm.exec) (hb : c.code = cc) {i : Nat} {x : Int32} (dg : decode cc pc = .ok (.istore i, 2)) (hn : i < nL) (ho : okp lv i = true) (K : J p l e R s m args below meth c Z g nL X cn sn (pc + 2) (lv.set i (.int x)) st) : J p l e R s m args below meth c Z g nL X cn sn pc lv (.int x :: st) := by
  intro H locs ls hX hl
  exact lv_istore hx hb dg hl hn rfl (fun ls2 h2 => (K H locs ls2 hX (LVs.put (v := .int x) ho h2)))
theorem J_iinc (hx : p.tables.exec = Jvm.exec) (hb : c.code = cc) {i : Nat} {n : Int} {x v : Int32} (dg : decode cc pc = .ok (.iinc i n, 3)) (h0 : lv[i]? = some (.int x)) (hv : x + Int32.ofInt n = v) (hn : i < nL) (ho : okp lv i = true) (K : J p l e R s m args below meth c Z g nL X cn sn (pc + 3) (lv.set i (.int v)) st) : J p l e R s m args below meth c Z g nL X cn sn pc lv st := by
  intro H locs ls hX hl
  obtain ⟨k, hk⟩ := asl_at (g := g) h0 (by intro q; cases q)
  exact lv_iinc hx hb dg hl hk hv hn rfl (fun ls2 h2 => (K H locs ls2 hX (LVs.put (v := .int v) ho h2)))
theorem J_goto (hx : p.tables.exec = Jvm.exec) (hb : c.code = cc) {off : Int} {tgt : Nat} (dg : decode cc pc = .ok (.goto off, 3)) (ht : (pc : Int) + off = (tgt : Int)) (K : J p l e R s m args below meth c Z g nL X cn sn tgt lv st) : J p l e R s m args below meth c Z g nL X cn sn pc lv st := by
  intro H locs ls hX hl
  exact lv_goto hx hb dg ht (K H locs ls hX hl)
theorem J_icmpge (hx : p.tables.exec = Jvm.exec) (hb : c.code = cc) {x y : Int32} {off : Int} {tgt : Nat} (dg : decode cc pc = .ok (.if_icmp .ge off, 3)) (ht : (pc : Int) + off = (tgt : Int)) (kt : y ≤ x → J p l e R s m args below meth c Z g nL X cn sn tgt lv st) (kf : ¬ y ≤ x → J p l e R s m args below meth c Z g nL X cn sn (pc + 3) lv st) : J p l e R s m args below meth c Z g nL X cn sn pc lv (.int y :: .int x :: st) := by
  intro H locs ls hX hl
  exact lv_icmp_ge hx hb dg ht (fun q => kt q H locs ls hX hl) (fun q => kf q H locs ls hX hl)
theorem J_icmpgt (hx : p.tables.exec = Jvm.exec) (hb : c.code = cc) {x y : Int32} {off : Int} {tgt : Nat} (dg : decode cc pc = .ok (.if_icmp .gt off, 3)) (ht : (pc : Int) + off = (tgt : Int)) (kt : y < x → J p l e R s m args below meth c Z g nL X cn sn tgt lv st) (kf : ¬ y < x → J p l e R s m args below meth c Z g nL X cn sn (pc + 3) lv st) : J p l e R s m args below meth c Z g nL X cn sn pc lv (.int y :: .int x :: st) := by
  intro H locs ls hX hl
  exact lv_icmp_gt hx hb dg ht (fun q => kt q H locs ls hX hl) (fun q => kf q H locs ls hX hl)
theorem J_icmpeq (hx : p.tables.exec = Jvm.exec) (hb : c.code = cc) {x y : Int32} {off : Int} {tgt : Nat} (dg : decode cc pc = .ok (.if_icmp .eq off, 3)) (ht : (pc : Int) + off = (tgt : Int)) (kt : x = y → J p l e R s m args below meth c Z g nL X cn sn tgt lv st) (kf : ¬ x = y → J p l e R s m args below meth c Z g nL X cn sn (pc + 3) lv st) : J p l e R s m args below meth c Z g nL X cn sn pc lv (.int y :: .int x :: st) := by
  intro H locs ls hX hl
  exact lv_icmp_eq hx hb dg ht (fun q => kt q H locs ls hX hl) (fun q => kf q H locs ls hX hl)
theorem J_icmpne (hx : p.tables.exec = Jvm.exec) (hb : c.code = cc) {x y : Int32} {off : Int} {tgt : Nat} (dg : decode cc pc = .ok (.if_icmp .ne off, 3)) (ht : (pc : Int) + off = (tgt : Int)) (kt : ¬ x = y → J p l e R s m args below meth c Z g nL X cn sn tgt lv st) (kf : x = y → J p l e R s m args below meth c Z g nL X cn sn (pc + 3) lv st) : J p l e R s m args below meth c Z g nL X cn sn pc lv (.int y :: .int x :: st) := by
  intro H locs ls hX hl
  exact lv_icmp_ne hx hb dg ht (fun q => kt q H locs ls hX hl) (fun q => kf q H locs ls hX hl)
theorem J_ifeq (hx : p.tables.exec = Jvm.exec) (hb : c.code = cc) {x : Int32} {off : Int} {tgt : Nat} (dg : decode cc pc = .ok (.ifCond .eq off, 3)) (ht : (pc : Int) + off = (tgt : Int)) (kt : x = 0 → J p l e R s m args below meth c Z g nL X cn sn tgt lv st) (kf : ¬ x = 0 → J p l e R s m args below meth c Z g nL X cn sn (pc + 3) lv st) : J p l e R s m args below meth c Z g nL X cn sn pc lv (.int x :: st) := by
  intro H locs ls hX hl
  exact lv_if_eq hx hb dg ht (fun q => kt q H locs ls hX hl) (fun q => kf q H locs ls hX hl)
theorem J_ifne (hx : p.tables.exec = Jvm.exec) (hb : c.code = cc) {x : Int32} {off : Int} {tgt : Nat} (dg : decode cc pc = .ok (.ifCond .ne off, 3)) (ht : (pc : Int) + off = (tgt : Int)) (kt : ¬ x = 0 → J p l e R s m args below meth c Z g nL X cn sn tgt lv st) (kf : x = 0 → J p l e R s m args below meth c Z g nL X cn sn (pc + 3) lv st) : J p l e R s m args below meth c Z g nL X cn sn pc lv (.int x :: st) := by
  intro H locs ls hX hl
  exact lv_if_ne hx hb dg ht (fun q => kt q H locs ls hX hl) (fun q => kf q H locs ls hX hl)
theorem J_isub (hx : p.tables.exec = Jvm.exec) (hb : c.code = cc) {x y : Int32} (dg : decode cc pc = .ok (.isub, 1)) (K : J p l e R s m args below meth c Z g nL X cn sn (pc + 1) lv (.int (x - y) :: st)) : J p l e R s m args below meth c Z g nL X cn sn pc lv (.int y :: .int x :: st) := by
  intro H locs ls hX hl
  exact lv_isub hx hb dg (K H locs ls hX hl)
theorem J_iadd (hx : p.tables.exec = Jvm.exec) (hb : c.code = cc) {x y : Int32} (dg : decode cc pc = .ok (.iadd, 1)) (K : J p l e R s m args below meth c Z g nL X cn sn (pc + 1) lv (.int (x + y) :: st)) : J p l e R s m args below meth c Z g nL X cn sn pc lv (.int y :: .int x :: st) := by
  intro H locs ls hX hl
  exact lv_iadd hx hb dg (K H locs ls hX hl)
theorem J_iand (hx : p.tables.exec = Jvm.exec) (hb : c.code = cc) {x y : Int32} (dg : decode cc pc = .ok (.iand, 1)) (K : J p l e R s m args below meth c Z g nL X cn sn (pc + 1) lv (.int (x &&& y) :: st)) : J p l e R s m args below meth c Z g nL X cn sn pc lv (.int y :: .int x :: st) := by
  intro H locs ls hX hl
  exact lv_iand hx hb dg (K H locs ls hX hl)
theorem J_i2l (hx : p.tables.exec = Jvm.exec) (hb : c.code = cc) {x : Int32}  (dg : decode cc pc = .ok (.i2l, 1)) (K : J p l e R s m args below meth c Z g nL X cn sn (pc + 1) lv (.long (x.toInt64) :: st)) : J p l e R s m args below meth c Z g nL X cn sn pc lv (.int x :: st) := by
  intro H locs ls hX hl
  exact lv_i2l hx hb dg rfl (K H locs ls hX hl)
theorem J_lshl (hx : p.tables.exec = Jvm.exec) (hb : c.code = cc) {x : Int64} {y : Int32} (dg : decode cc pc = .ok (.lshl, 1)) (K : J p l e R s m args below meth c Z g nL X cn sn (pc + 1) lv (.long (x <<< (y.toInt64 &&& 63)) :: st)) : J p l e R s m args below meth c Z g nL X cn sn pc lv (.int y :: .long x :: st) := by
  intro H locs ls hX hl
  exact lv_lshl hx hb dg rfl (K H locs ls hX hl)
theorem J_land (hx : p.tables.exec = Jvm.exec) (hb : c.code = cc) {x y : Int64} (dg : decode cc pc = .ok (.land, 1)) (K : J p l e R s m args below meth c Z g nL X cn sn (pc + 1) lv (.long (x &&& y) :: st)) : J p l e R s m args below meth c Z g nL X cn sn pc lv (.long y :: .long x :: st) := by
  intro H locs ls hX hl
  exact lv_land hx hb dg (K H locs ls hX hl)
theorem J_lor (hx : p.tables.exec = Jvm.exec) (hb : c.code = cc) {x y : Int64} (dg : decode cc pc = .ok (.lor, 1)) (K : J p l e R s m args below meth c Z g nL X cn sn (pc + 1) lv (.long (x ||| y) :: st)) : J p l e R s m args below meth c Z g nL X cn sn pc lv (.long y :: .long x :: st) := by
  intro H locs ls hX hl
  exact lv_lor hx hb dg (K H locs ls hX hl)
theorem J_lcmp (hx : p.tables.exec = Jvm.exec) (hb : c.code = cc) {x y : Int64} (dg : decode cc pc = .ok (.lcmp, 1)) (K : J p l e R s m args below meth c Z g nL X cn sn (pc + 1) lv (.int (lg_cmp x y) :: st)) : J p l e R s m args below meth c Z g nL X cn sn pc lv (.long y :: .long x :: st) := by
  intro H locs ls hX hl
  exact W.lcmp hx hb dg (K H locs ls hX hl)
theorem J_tsIn (hx : p.tables.exec = Jvm.exec) (hb : c.code = cc) {dflt lo hi : Int} {offs : Array Int} {len : Nat} {x : Int32} {off : Int} {tgt : Nat} (dg : decode cc pc = .ok (.tableswitch dflt lo hi offs, len)) (h1 : ¬ x.toInt < lo) (h2 : ¬ hi < x.toInt) (ho : offs[(x.toInt - lo).toNat]? = some off) (ht : (pc : Int) + off = (tgt : Int)) (K : J p l e R s m args below meth c Z g nL X cn sn tgt lv st) : J p l e R s m args below meth c Z g nL X cn sn pc lv (.int x :: st) := by
  intro H locs ls hX hl
  exact lv_tableIn hx hb dg h1 h2 ho ht (K H locs ls hX hl)
theorem J_tsOut (hx : p.tables.exec = Jvm.exec) (hb : c.code = cc) {dflt lo hi : Int} {offs : Array Int} {len : Nat} {x : Int32} {tgt : Nat} (dg : decode cc pc = .ok (.tableswitch dflt lo hi offs, len)) (h : x.toInt < lo ∨ hi < x.toInt) (ht : (pc : Int) + dflt = (tgt : Int)) (K : J p l e R s m args below meth c Z g nL X cn sn tgt lv st) : J p l e R s m args below meth c Z g nL X cn sn pc lv (.int x :: st) := by
  intro H locs ls hX hl
  exact lv_tableOut hx hb dg h ht (K H locs ls hX hl)
theorem J_astore_n (hx : p.tables.exec = Jvm.exec) (hb : c.code = cc) {k : Fin 4} {i : Nat} {x : Nat} (dg : decode cc pc = .ok (.astore_n k, 1)) (hi : (k : Nat) = i) (hn : i < nL) (ho : okp lv i = true) (K : J p l e R s m args below meth c Z g nL X cn sn (pc + 1) (lv.set i (.ref x)) st) : J p l e R s m args below meth c Z g nL X cn sn pc lv (.ref x :: st) := by
  intro H locs ls hX hl
  exact lv_astore_n hx hb dg hi hl hn rfl (fun ls2 h2 => (K H locs ls2 hX (LVs.put (v := .ref x) ho h2)))
theorem J_widen {k n : Nat} (hk : cn ≤ k) (hn : sn ≤ n) (K : J p l e R s m args below meth c Z g nL X k n pc lv st) : J p l e R s m args below meth c Z g nL X cn sn pc lv st := by
  intro H locs ls hX hl
  exact W.widen (k := k) (n := n) hk hn (K H locs ls hX hl)
theorem J_world {X' : Heap → List Loc → Prop} (h : ∀ H locs, X H locs → X' H locs) (K : J p l e R s m args below meth c Z g nL X' cn sn pc lv st) : J p l e R s m args below meth c Z g nL X cn sn pc lv st := fun H locs ls hX hl => K H locs ls (h H locs hX) hl
end JROWS
/-! ===== a world that grows: constructors ===== -/
abbrev ug (D : va_G) (cs : Nat → ClassId) : GW := (D, cs, fun k => k)
def UX (D : va_G) (A : Nat → Prop) (H0 : Heap) (ws : va_W) : Heap → List Loc → Prop := fun H locs => va_P D vwCl ws H ∧ va_D A ws ∧ va_S A H0 H locs
theorem va_AOA.moved {u U : State} (hvm : u.vm.Alike U.vm) (h : va_AOA .int u) : va_AOA .int U := by
  have e1 : (Cond.arrayOver (.array .int)).before #[] (u.setVm U.vm) = (Cond.arrayOver (.array .int)).before #[] u := Cond.arrayOver_setVmC hvm (.array .int)
  have e2 : (Cond.arrayOver (.array .int)).before #[] U = (Cond.arrayOver (.array .int)).before #[] (u.setVm U.vm) := by
    first
      | rfl
      | simp only [Cond.before, Cond.holds, Cond.value, State.vm_setVm]
  exact e2.trans (e1.trans h)
def UOK (D : va_G) (cs : Nat → ClassId) (s : State) : Prop := va_K D vwCl (tysW (ug D cs)) s ∧ (∀ w ∈ nestW, va_Nw w s) ∧ va_AO "NamedWind$Ship" s ∧ va_AOA .int s
theorem UOK.moved {D : va_G} {cs : Nat → ClassId} {s U : State} (h : UOK D cs s) (hW : s.WarmedH U.vm) : UOK D cs U := by
  obtain ⟨h1, h2, h3, h4⟩ := h
  refine ⟨va_K.moved hW.alike h1, fun w hw => ?_, va_AO.moved hW.alike h3, va_AOA.moved hW.alike h4⟩
  have h5 := List.all_eq_true.mp nestW_is w hw
  have h6 := h2 w hw
  cases w <;> first | exact va_Nw.warmF hW h6 | exact va_Nw.warmM hW h6 | exact absurd h5 (by simp [isNest])
theorem UOK.calling {D : va_G} {cs : Nat → ClassId} {U : State} (h : UOK D cs U) (f : JFrame) (mk : MethodId) (a : Array Value) : UOK D cs (U.calling f mk a) := by
  obtain ⟨h1, h2, h3, h4⟩ := h
  refine ⟨va_K.moved (u := U) (U := U.calling f mk a) (Vm.Alike.refl U.vm) h1, fun w hw => ?_, va_AO.moved (u := U) (U := U.calling f mk a) (Vm.Alike.refl U.vm) h3, va_AOA.moved (u := U) (U := U.calling f mk a) (Vm.Alike.refl U.vm) h4⟩
  have h5 := List.all_eq_true.mp nestW_is w hw
  have h6 := h2 w hw
  cases w <;> first | exact va_Nw.same rfl rfl h6 | exact absurd h5 (by simp [isNest])
def rmu (d mc ms : Nat) : Room := { frames := d, cells := mc, slots := ms, locals := 48 * d }
/-- the machine at a frame of a constructor (or of what it calls) -/
def UC (D : va_G) (cs : Nat → ClassId) (own : String) (cc : ByteArray) (nL : Nat) (nm : String) (A : Nat → Prop) (p : Program) (s : State) (m : MethodId) (args : Array Value) (meth : Method) (c : Code) : Prop :=
  p.tables.exec = Jvm.exec ∧ c.code = cc ∧ meth.sig.returnType = none ∧ c.maxLocals = nL ∧ s.vm.findClass own = some m.cls ∧ meth.locks = false ∧ (∀ w ∈ wsL_law, w.before args s = true) ∧ UOK D cs s ∧ meth.name = nm ∧ ∀ q, s.heap.size ≤ q → A q
def UB (D : va_G) (cs : Nat → ClassId) (own : String) (cc : ByteArray) (nL : Nat) (A : Nat → Prop) (p : Program) (s : State) (m : MethodId) (args : Array Value) (c : Code) : Prop :=
  p.tables.exec = Jvm.exec ∧ c.code = cc ∧ c.maxLocals = nL ∧ s.vm.findClass own = some m.cls ∧ (∀ w ∈ wsL_law, w.before args s = true) ∧ UOK D cs s ∧ ∀ q, s.heap.size ≤ q → A q
theorem UC.b {D : va_G} {cs : Nat → ClassId} {own nm : String} {cc : ByteArray} {nL : Nat} {A : Nat → Prop} {p : Program} {s : State} {m : MethodId} {args : Array Value} {meth : Method} {c : Code} (C : UC D cs own cc nL nm A p s m args meth c) : UB D cs own cc nL A p s m args c := ⟨C.1, C.2.1, C.2.2.2.1, C.2.2.2.2.1, C.2.2.2.2.2.2.1, C.2.2.2.2.2.2.2.1, C.2.2.2.2.2.2.2.2.2⟩
def Qu (D : va_G) (A : Nat → Prop) (P : va_W → Prop) : Array Value → State → Outcome → State → Prop := va_Qv (S := va_W) P (fun ws t => va_P D vwCl ws t.heap ∧ va_D A ws) A
def UCon (l : Launch) (D : va_G) (cs : Nat → ClassId) (y : MethodName) (cc : ByteArray) (nL d mc ms : Nat) (av : List Value) (ws0 : va_W) (sz : Nat) (P : va_W → Prop) : Prop :=
  Met l y (.code y cc nL none :: wsL_law) (rmu d mc ms) (va_Pc av (fun U => U.heap.size = sz ∧ UOK D cs U ∧ va_P D vwCl ws0 U.heap ∧ va_D (fun _ => True) ws0)) (Qu D (va_A ws0 sz) P) mc ms (va_A ws0 sz)
theorem ug_map (D : va_G) (cs : Nat → ClassId) (av : List Value) : av.map (conc (ug D cs)) = av := by
  have e : ∀ v : Value, conc (ug D cs) v = v := fun v => by cases v <;> rfl
  induction av with
  | nil => rfl
  | cons a t ih => rw [List.map_cons, e, ih]
theorem UCon.of {l : Launch} {D : va_G} {cs : Nat → ClassId} {y : MethodName} {cc : ByteArray} {nL d mc ms : Nat} {av : List Value} {ws0 : va_W} {sz : Nat} {P : va_W → Prop} (lv0 : List Value) (n0 : Nat) (hy : plainName y.cls = true) (hlen : (lg_sl av).length ≤ nL) (h0 : slo av ++ List.replicate n0 .null = lv0) (h : ∀ (p : Program) (e : Env) (s : State) (m : MethodId) (args : Array Value) (below : List Frame) (meth : Method) (c : Code), UC D cs y.cls cc nL y.name (va_A ws0 sz) p s m args meth c → J p l e (rmu d mc ms) s m args below meth c (MQ below (Qu D (va_A ws0 sz) P) args s mc ms (va_A ws0 sz)) (ug D cs) nL (UX D (va_A ws0 sz) s.heap ws0) 0 0 0 lv0 []) : UCon l D cs y cc nL d mc ms av ws0 sz P := by
  refine Met.ofW (cc := cc) (maxL := nL) (ret := none) hy rfl ?_
  intro p e s m args below meth c s₁ B hml hv
  obtain ⟨rfl, hsz, hOK, hP, hD⟩ := hv
  have hts := atoms_spec (ws := .code y cc nL none :: wsL_law) B.pre
  have hown : s.vm.findClass y.cls = some m.cls := findClass_of_methodNamed B.named
  have hnm : meth.name = y.name := (name_of_methodNamed B.named B.method).1
  have hl := lv_entry av (n := nL) hlen
  rw [lg_entry_eq]
  have hlv : LVs (ug D cs) ((lg_sl av ++ List.replicate (nL - (lg_sl av).length) Slot.unset).toArray) nL lv0 := by
    refine ⟨hl.1, hl.2.1, fun q hq => ?_⟩
    obtain ⟨v, h1, h2, h3⟩ := asl_of hq
    obtain ⟨j, qv⟩ := q
    dsimp only at h1 h3
    subst h3
    rw [← h0] at h1
    have h4 : (slo av)[j]? = some v := by
      by_cases hj : j < (slo av).length
      · rwa [List.getElem?_append_left hj] at h1
      · rw [List.getElem?_append_right (by omega)] at h1
        have := (List.mem_replicate.mp (List.mem_of_getElem? h1)).2
        exact absurd this h2
    have := slo_args (ug D cs) av 0 j v h4 h2
    rw [Nat.zero_add, ug_map] at this
    exact hl.2.2 _ this
  subst hsz
  exact h p e s m _ below meth c ⟨B.exec, B.bytes, B.returns, hml, hown, B.notSynchronized, fun w hw => hts w (List.mem_cons_of_mem _ hw), hOK, hnm, fun q hq => Or.inr hq⟩ s.heap [] _ ⟨hP, hD.self, va_S.rf⟩ hlv
theorem UCon_blind {D : va_G} {cs : Nat → ClassId} {av : List Value} {ws0 : va_W} {sz : Nat} : FrameBlind (va_Pc av (fun U => U.heap.size = sz ∧ UOK D cs U ∧ va_P D vwCl ws0 U.heap ∧ va_D (fun _ => True) ws0)) := by
  intro a U f mk h
  exact ⟨h.1, h.2.1, h.2.2.1.calling f mk a, h.2.2.2⟩
theorem cls_one {s : State} {n : String} {a b : ClassId} (h1 : s.vm.findClass n = some a) (h2 : s.vm.findClass n = some b) : a = b := Option.some.inj (h1.symm.trans h2)
section UROWS
variable {p : Program} {l : Launch} {e : Env} {R : Room} {s : State} {m : MethodId} {args : Array Value} {below : List Frame} {meth : Method} {c : Code} {Z : State → Prop} {D : va_G} {cs : Nat → ClassId} {nL : Nat} {A : Nat → Prop} {ws : va_W} {cn sn pc : Nat} {lv st : List Value} {cc : ByteArray} {own nm : String}
theorem U_objInit (C : UC D cs own cc nL nm A p s m args meth c) {idx a : Nat} (w1 : Cond.methodLink own idx objectInit ∈ wsL_law) (w2 : Cond.instanceMethod objectInit ∈ wsL_law) (w3 : Cond.code objectInit ⟨#[0xb1]⟩ 1 none ∈ wsL_law) (dg : decode cc pc = .ok (.invokespecial idx, 3)) (hst : st = []) (hf : 1 ≤ R.frames) (hlo : 20 ≤ R.locals) (K : J p l e R s m args below meth c Z (ug D cs) nL (UX D A s.heap ws) cn sn (pc + 3) lv []) : J p l e R s m args below meth c Z (ug D cs) nL (UX D A s.heap ws) cn sn pc lv (.ref a :: st) := by
  intro H locs ls hX hl
  subst hst
  obtain ⟨hx, hb, hr, hml, hown, hlk, hts, hO, hnm, hA⟩ := id C
  refine W.objInit hx hb hown (hts _ w1) (hts _ w2) (hts _ w3) rfl (by rw [hml]; exact hl.1) rfl dg hf ?_ ?_
  · exact Nat.le_trans (m := 20) (Nat.le_of_ble_eq_true rfl) hlo
  · exact W.eq (g2 := F0 m (pc + 3) ls []) rfl (K H locs ls hX hl)
theorem U_new (C : UB D cs own cc nL A p s m args c) {ci idx : Nat} {fs : List Value} (hci : ci < 9) (w1 : Cond.classLink own idx (clR ci) ∈ wsL_law) (w2 : Cond.instantiable (clR ci) (clN ci) ∈ wsL_law) (w3 : Cond.initialized (clR ci) ∈ wsL_law) (hfs : ∀ j, j < clN ci → defaultValue (clTy ci j) = vp_V fs j) (h1 : cn + 1 ≤ R.cells) (h2 : sn + clN ci ≤ R.slots) (dg : decode cc pc = .ok (.new idx, 3)) (K : ∀ q : Nat, J p l e R s m args below meth c Z (ug D cs) nL (UX D A s.heap (ws ++ [(q, .inr (ci, fs))])) (cn + 1) (sn + clN ci) (pc + 3) lv (.ref q :: st)) : J p l e R s m args below meth c Z (ug D cs) nL (UX D A s.heap ws) cn sn pc lv st := by
  intro H locs ls hX hl
  obtain ⟨hP, hD, hS⟩ := hX
  obtain ⟨hx, hb, hml, hown, hts, hO, hA⟩ := id C
  obtain ⟨c1, c2, c3, c4⟩ := CLo_all ci hci
  exact va_new (ci := ci) (fs := fs) (C := clR ci) (T := clT ci) (N := clN ci) hx hb hts c2 (clTy ci) c3 hown (hts _ w1) (hts _ w2) (hts _ w3) hO.1 hP hD hS hA c1 hfs h1 h2 dg (fun q H1 p1 d1 s1 => K q H1 locs ls ⟨p1, d1, s1⟩ hl)
theorem U_newI (C : UC D cs own cc nL nm A p s m args meth c) {N : Nat} {n : Int32} (w1 : Cond.arrayClass .int ∈ wsL_law) (hn : n = nI N) (hN : N ≤ 4000) (h1 : cn + 1 ≤ R.cells) (h2 : sn + N ≤ R.slots) (dg : decode cc pc = .ok (.newarray .int, 2)) (K : ∀ q : Nat, J p l e R s m args below meth c Z (ug D cs) nL (UX D A s.heap (ws ++ [(q, .inl (cs 0, N, .inl (fun _ => 0)))])) (cn + 1) (sn + N) (pc + 2) lv (.ref q :: st)) : J p l e R s m args below meth c Z (ug D cs) nL (UX D A s.heap ws) cn sn pc lv (.int n :: st) := by
  intro H locs ls hX hl
  obtain ⟨hP, hD, hS⟩ := hX
  obtain ⟨hx, hb, hr, hml, hown, hlk, hts, hO, hnm, hA⟩ := id C
  subst hn
  have hbb : N * componentBytes .int ≤ 536870912 := by
    show N * 4 ≤ 536870912
    omega
  refine va_newa (atype := .int) (ty := .int) (N' := N) (a0 := (N, .inl (fun _ => 0))) hx hb (hts _ w1) rfl hO.1 hP hD hS hA (fun _ => rfl) (nI_pos (by omega)) (nI_clamp (by omega)) hbb h1 h2 dg (fun q cA H1 k1 p1 d1 s1 => ?_)
  have e1 : s.vm.findClass ("[" ++ (FieldType.int).toString) = some cA := (k1.2 6 (cA, .int) rfl).2
  have e2 : s.vm.findClass ("[" ++ (FieldType.int).toString) = some (cs 0) := (hO.1.2 0 (cs 0, .int) rfl).2
  obtain rfl : cA = cs 0 := cls_one e1 e2
  exact K q H1 locs ls ⟨p1, d1, s1⟩ hl
theorem U_newB (C : UC D cs own cc nL nm A p s m args meth c) {N : Nat} {n : Int32} (w1 : Cond.arrayClass .byte ∈ wsL_law) (hn : n = nI N) (hN : N ≤ 4000) (h1 : cn + 1 ≤ R.cells) (h2 : sn + N ≤ R.slots) (dg : decode cc pc = .ok (.newarray .byte, 2)) (K : ∀ q : Nat, J p l e R s m args below meth c Z (ug D cs) nL (UX D A s.heap (ws ++ [(q, .inl (cs 1, N, .inl (fun _ => 0)))])) (cn + 1) (sn + N) (pc + 2) lv (.ref q :: st)) : J p l e R s m args below meth c Z (ug D cs) nL (UX D A s.heap ws) cn sn pc lv (.int n :: st) := by
  intro H locs ls hX hl
  obtain ⟨hP, hD, hS⟩ := hX
  obtain ⟨hx, hb, hr, hml, hown, hlk, hts, hO, hnm, hA⟩ := id C
  subst hn
  have hbb : N * componentBytes .byte ≤ 536870912 := by
    show N * 1 ≤ 536870912
    omega
  refine va_newa (atype := .byte) (ty := .byte) (N' := N) (a0 := (N, .inl (fun _ => 0))) hx hb (hts _ w1) rfl hO.1 hP hD hS hA (fun _ => rfl) (nI_pos (by omega)) (nI_clamp (by omega)) hbb h1 h2 dg (fun q cA H1 k1 p1 d1 s1 => ?_)
  have e1 : s.vm.findClass ("[" ++ (FieldType.byte).toString) = some cA := (k1.2 6 (cA, .byte) rfl).2
  have e2 : s.vm.findClass ("[" ++ (FieldType.byte).toString) = some (cs 1) := (hO.1.2 1 (cs 1, .byte) rfl).2
  obtain rfl : cA = cs 1 := cls_one e1 e2
  exact K q H1 locs ls ⟨p1, d1, s1⟩ hl
theorem U_newZ (C : UC D cs own cc nL nm A p s m args meth c) {N : Nat} {n : Int32} (w1 : Cond.arrayClass .boolean ∈ wsL_law) (hn : n = nI N) (hN : N ≤ 4000) (h1 : cn + 1 ≤ R.cells) (h2 : sn + N ≤ R.slots) (dg : decode cc pc = .ok (.newarray .boolean, 2)) (K : ∀ q : Nat, J p l e R s m args below meth c Z (ug D cs) nL (UX D A s.heap (ws ++ [(q, .inl (cs 2, N, .inl (fun _ => 0)))])) (cn + 1) (sn + N) (pc + 2) lv (.ref q :: st)) : J p l e R s m args below meth c Z (ug D cs) nL (UX D A s.heap ws) cn sn pc lv (.int n :: st) := by
  intro H locs ls hX hl
  obtain ⟨hP, hD, hS⟩ := hX
  obtain ⟨hx, hb, hr, hml, hown, hlk, hts, hO, hnm, hA⟩ := id C
  subst hn
  have hbb : N * componentBytes .boolean ≤ 536870912 := by
    show N * 1 ≤ 536870912
    omega
  refine va_newa (atype := .boolean) (ty := .boolean) (N' := N) (a0 := (N, .inl (fun _ => 0))) hx hb (hts _ w1) rfl hO.1 hP hD hS hA (fun _ => rfl) (nI_pos (by omega)) (nI_clamp (by omega)) hbb h1 h2 dg (fun q cA H1 k1 p1 d1 s1 => ?_)
  have e1 : s.vm.findClass ("[" ++ (FieldType.boolean).toString) = some cA := (k1.2 6 (cA, .boolean) rfl).2
  have e2 : s.vm.findClass ("[" ++ (FieldType.boolean).toString) = some (cs 2) := (hO.1.2 2 (cs 2, .boolean) rfl).2
  obtain rfl : cA = cs 2 := cls_one e1 e2
  exact K q H1 locs ls ⟨p1, d1, s1⟩ hl
theorem U_newJ (C : UC D cs own cc nL nm A p s m args meth c) {N : Nat} {n : Int32} (w1 : Cond.arrayClass .long ∈ wsL_law) (hn : n = nI N) (hN : N ≤ 4000) (h1 : cn + 1 ≤ R.cells) (h2 : sn + N ≤ R.slots) (dg : decode cc pc = .ok (.newarray .long, 2)) (K : ∀ q : Nat, J p l e R s m args below meth c Z (ug D cs) nL (UX D A s.heap (ws ++ [(q, .inl (cs 3, N, .inr (.inl (fun _ => 0))))])) (cn + 1) (sn + N) (pc + 2) lv (.ref q :: st)) : J p l e R s m args below meth c Z (ug D cs) nL (UX D A s.heap ws) cn sn pc lv (.int n :: st) := by
  intro H locs ls hX hl
  obtain ⟨hP, hD, hS⟩ := hX
  obtain ⟨hx, hb, hr, hml, hown, hlk, hts, hO, hnm, hA⟩ := id C
  subst hn
  have hbb : N * componentBytes .long ≤ 536870912 := by
    show N * 8 ≤ 536870912
    omega
  refine va_newa (atype := .long) (ty := .long) (N' := N) (a0 := (N, .inr (.inl (fun _ => 0)))) hx hb (hts _ w1) rfl hO.1 hP hD hS hA (fun _ => rfl) (nI_pos (by omega)) (nI_clamp (by omega)) hbb h1 h2 dg (fun q cA H1 k1 p1 d1 s1 => ?_)
  have e1 : s.vm.findClass ("[" ++ (FieldType.long).toString) = some cA := (k1.2 6 (cA, .long) rfl).2
  have e2 : s.vm.findClass ("[" ++ (FieldType.long).toString) = some (cs 3) := (hO.1.2 3 (cs 3, .long) rfl).2
  obtain rfl : cA = cs 3 := cls_one e1 e2
  exact K q H1 locs ls ⟨p1, d1, s1⟩ hl
theorem U_newq (C : UC D cs own cc nL nm A p s m args meth c) {N idx : Nat} {n : Int32} (w1 : Cond.classLink own idx "NamedWind$Ship" ∈ wsL_law) (hn : n = nI N) (hN : N ≤ 4000) (h1 : cn + 1 ≤ R.cells) (h2 : sn + N ≤ R.slots) (dg : decode cc pc = .ok (.anewarray idx, 3)) (K : ∀ q : Nat, J p l e R s m args below meth c Z (ug D cs) nL (UX D A s.heap (ws ++ [(q, .inl (cs 4, N, .inr (.inr (.inr (.inr (fun _ => none))))))])) (cn + 1) (sn + N) (pc + 3) lv (.ref q :: st)) : J p l e R s m args below meth c Z (ug D cs) nL (UX D A s.heap ws) cn sn pc lv (.int n :: st) := by
  intro H locs ls hX hl
  obtain ⟨hP, hD, hS⟩ := hX
  obtain ⟨hx, hb, hr, hml, hown, hlk, hts, hO, hnm, hA⟩ := id C
  subst hn
  refine va_newq (N' := N) (C := "NamedWind$Ship") hx hb hown (hts _ w1) hO.2.2.1 hO.1 hP hD hS hA (nI_pos (by omega)) (nI_clamp (by omega)) (by omega) h1 h2 dg (fun q cA H1 k1 p1 d1 s1 => ?_)
  obtain ⟨kA, comp, -, -, -, e1⟩ := (k1.2 6 (cA, .object "NamedWind$Ship") rfl).2
  obtain ⟨kA2, comp2, -, -, -, e2⟩ := (hO.1.2 4 (cs 4, .object "NamedWind$Ship") rfl).2
  obtain rfl : cA = cs 4 := cls_one e1 e2
  exact K q H1 locs ls ⟨p1, d1, s1⟩ hl
theorem U_mna (C : UC D cs own cc nL nm A p s m args meth c) {N M idx : Nat} {n k : Int32} (w1 : Cond.classLink own idx "[[I" ∈ wsL_law) (w2 : Cond.arrayClass .int ∈ wsL_law) (hn : n = nI N) (hk : k = nI M) (hN : N ≤ 4000) (hM : M ≤ 4000) (h1 : cn + (1 + N) ≤ R.cells) (h2 : sn + (N + N * M) ≤ R.slots) (dg : decode cc pc = .ok (.multianewarray idx 2, 4)) (K : ∀ (q : Nat) (r : Nat → Nat), J p l e R s m args below meth c Z (ug D cs) nL (UX D A s.heap (ws ++ ((q, .inl (cs 5, N, .inr (.inr (.inr (.inr (fun i => if i < N then some (r i) else none)))))) :: (List.range N).map (fun i => (r i, .inl (cs 0, M, .inl (fun _ => 0))))))) (cn + 1 + N) (sn + N + N * M) (pc + 4) lv (.ref q :: st)) : J p l e R s m args below meth c Z (ug D cs) nL (UX D A s.heap ws) cn sn pc lv (.int k :: .int n :: st) := by
  intro H locs ls hX hl
  obtain ⟨hP, hD, hS⟩ := hX
  obtain ⟨hx, hb, hr, hml, hown, hlk, hts, hO, hnm, hA⟩ := id C
  subst hn
  subst hk
  have e0 : s.vm.findClass (FieldType.array .int).toString = some (cs 0) := (hO.1.2 0 (cs 0, .int) rfl).2
  have e9 : ∀ f : Nat → va_E, ws ++ va_pl [] f = ws := fun f => List.append_nil ws
  refine va_mna (X := ws) (L := []) (f := fun _ => .inr (0, [])) (N' := N) (K' := M) (z := (M, .inl (fun _ => 0))) hx hb (ty := .int) hown (hts _ w1) hO.2.2.2 (hts _ w2) e0 hO.1 (by rw [e9]; exact hP) (by rw [e9]; exact hD) hS hA (nI_pos (by omega)) (nI_pos (by omega)) (nI_clamp (by omega)) (nI_clamp (by omega)) (by omega) (by show M * 4 ≤ 536870912; omega) (by omega) rfl rfl h1 h2 (fun c => ?_) dg (fun q r cA H1 r1 r2 k1 p1 d1 s1 => ?_)
  · show ({ cls := c, slots := Array.replicate M (defaultValue .int), vm := .none } : Cell) = _
    rw [arrV_new]
    rfl
  · have e1 : s.vm.findClass ("[" ++ (FieldType.array .int).toString) = some cA := (k1.2 6 (cA, .array .int) rfl).2
    have e2 : s.vm.findClass ("[" ++ (FieldType.array .int).toString) = some (cs 5) := (hO.1.2 5 (cs 5, .array .int) rfl).2
    obtain rfl : cA = cs 5 := cls_one e1 e2
    have ew : (ws ++ [(q, .inl (cs 5, N, .inr (.inr (.inr (.inr (fun i => if i < N then some (r i) else none))))))]) ++ va_pl ([] ++ (List.range N).map r) (vr_up (fun _ => .inr (0, [])) ((List.range N).map r) (.inl (cs 0, (M, .inl (fun _ => 0))))) = ws ++ ((q, .inl (cs 5, N, .inr (.inr (.inr (.inr (fun i => if i < N then some (r i) else none)))))) :: (List.range N).map (fun i => (r i, .inl (cs 0, M, .inl (fun _ => 0))))) := by
      rw [List.append_assoc]
      congr 1
      rw [List.singleton_append]
      congr 1
      unfold va_pl
      rw [List.nil_append, List.map_map]
      refine List.map_congr_left (fun i hi => ?_)
      show (r i, vr_up _ _ _ (r i)) = _
      rw [vr_up_in (List.mem_map.mpr ⟨i, hi, rfl⟩)]
    rw [ew] at p1 d1
    exact K q r H1 locs ls ⟨p1, d1, s1⟩ hl
theorem U_putF (C : UC D cs own cc nL "<init>" A p s m args meth c) {a ci j idx v : Nat} {fs : List Value} {ty : FieldType} (q0 : Nat) (ws' : va_W) (hci : ci < 9) (hj : j < clN ci) (w1 : Cond.fieldLink own idx (clT ci j).1 (clT ci j).2.1 (clT ci j).2.2.1 ∈ wsL_law) (he : ws[q0]? = some (a, .inr (ci, fs))) (hw : ws.set q0 (a, .inr (ci, fs.set j (.ref v))) = ws') (hty : clTy ci j = ty) (hfin : (clT ci j).2.2.2 = true) (hdc : (clT ci j).1 = own) (hn : narrow ty (.ref v) = .ref v) (hfit : fits ty (.ref v) = true) (hlen : j < fs.length) (dg : decode cc pc = .ok (.putfield idx, 3)) (K : J p l e R s m args below meth c Z (ug D cs) nL (UX D A s.heap ws') cn sn (pc + 3) lv st) : J p l e R s m args below meth c Z (ug D cs) nL (UX D A s.heap ws) cn sn pc lv (.ref v :: .ref a :: st) := by
  intro H locs ls hX hl
  obtain ⟨hP, hD, hS⟩ := hX
  obtain ⟨hx, hb, hr, hml, hown, hlk, hts, hO, hnm, hA⟩ := id C
  obtain ⟨c1, c2, c3, c4⟩ := CLo_all ci hci
  subst hw
  exact va_putF (D := D) (cl := vwCl) (tys := tysW (ug D cs)) (ci := ci) (v := .ref v) (ty := ty) hx hb hts c2 (clTy ci) c3 c4 hown hO.1 hP hD hS q0 he c1 j hj (hts _ w1) (fun _ q => q) hfin hnm hdc ((c3 j hj).trans (by rw [hty])) hn hfit hlen dg (fun H1 locs1 p1 d1 s1 => K H1 locs1 ls ⟨p1, d1, s1⟩ hl)
theorem U_put (C : UC D cs own cc nL nm A p s m args meth c) {a ci j idx : Nat} {v : Value} {fs : List Value} {ty : FieldType} (q0 : Nat) (ws' : va_W) (hci : ci < 9) (hj : j < clN ci) (w1 : Cond.fieldLink own idx (clT ci j).1 (clT ci j).2.1 (clT ci j).2.2.1 ∈ wsL_law) (he : ws[q0]? = some (a, .inr (ci, fs))) (hw : ws.set q0 (a, .inr (ci, fs.set j v)) = ws') (hty : clTy ci j = ty) (hfin : (clT ci j).2.2.2 = false) (hn : narrow ty v = v) (hfit : fits ty v = true) (hlen : j < fs.length) (hv : conc (ug D cs) v = v) (dg : decode cc pc = .ok (.putfield idx, 3)) (K : J p l e R s m args below meth c Z (ug D cs) nL (UX D A s.heap ws') cn sn (pc + 3) lv st) : J p l e R s m args below meth c Z (ug D cs) nL (UX D A s.heap ws) cn sn pc lv (v :: .ref a :: st) := by
  intro H locs ls hX hl
  obtain ⟨hP, hD, hS⟩ := hX
  obtain ⟨hx, hb, hr, hml, hown, hlk, hts, hO, hnm, hA⟩ := id C
  obtain ⟨c1, c2, c3, c4⟩ := CLo_all ci hci
  subst hw
  have h := va_put (D := D) (cl := vwCl) (tys := tysW (ug D cs)) (ci := ci) (v := v) (ty := ty) (a := a) (p := p) (l := l) (e := e) (R := R) (s := s) (m := m) (args := args) (below := below) (meth := meth) (c := c) (H := H) (locs := locs) (cells := cn) (slots := sn) (Q := Z) (pc := pc) (ls := ls) (rest := st.map (conc (ug D cs))) hx hb hts c2 (clTy ci) c3 c4 hown hO.1 hP hD hS q0 he c1 j hj (hts _ w1) (fun _ q => q) hfin ((c3 j hj).trans (by rw [hty])) hn hfit hlen dg (fun H1 locs1 p1 d1 s1 => K H1 locs1 ls ⟨p1, d1, s1⟩ hl)
  show W p l e R s m args below meth c H locs cn sn Z (F0 m pc ls (conc (ug D cs) v :: .ref a :: st.map (conc (ug D cs))))
  rw [hv]
  exact h
theorem U_get (C : UC D cs own cc nL nm A p s m args meth c) {a ci j idx v : Nat} {fs : List Value} (q0 : Nat) (hci : ci < 9) (hj : j < clN ci) (w1 : Cond.fieldLink own idx (clT ci j).1 (clT ci j).2.1 (clT ci j).2.2.1 ∈ wsL_law) (he : ws[q0]? = some (a, .inr (ci, fs))) (hv : fs[j]? = some (.ref v)) (dg : decode cc pc = .ok (.getfield idx, 3)) (K : J p l e R s m args below meth c Z (ug D cs) nL (UX D A s.heap ws) cn sn (pc + 3) lv (.ref v :: st)) : J p l e R s m args below meth c Z (ug D cs) nL (UX D A s.heap ws) cn sn pc lv (.ref a :: st) := by
  intro H locs ls hX hl
  obtain ⟨hP, hD, hS⟩ := id hX
  obtain ⟨hx, hb, hr, hml, hown, hlk, hts, hO, hnm, hA⟩ := id C
  obtain ⟨c1, c2, c3, c4⟩ := CLo_all ci hci
  exact va_get (D := D) (cl := vwCl) (tys := tysW (ug D cs)) hx hb hts c2 hown hO.1 hP q0 he c1 j hj (hts _ w1) (fun _ q => q) hv dg (K H locs ls hX hl)
theorem U_aald (C : UC D cs own cc nL nm A p s m args meth c) {a N j v : Nat} {i : Int32} {f : Nat → Option Nat} (q0 : Nat) (he : ws[q0]? = some (a, .inl (cs 5, N, .inr (.inr (.inr (.inr f)))))) (hi : i = nI j) (hj : j < N) (hN : N ≤ 4000) (hv : f j = some v) (dg : decode cc pc = .ok (.aaload, 1)) (K : J p l e R s m args below meth c Z (ug D cs) nL (UX D A s.heap ws) cn sn (pc + 1) lv (.ref v :: st)) : J p l e R s m args below meth c Z (ug D cs) nL (UX D A s.heap ws) cn sn pc lv (.int i :: .ref a :: st) := by
  intro H locs ls hX hl
  obtain ⟨hP, hD, hS⟩ := id hX
  obtain ⟨hx, hb, hr, hml, hown, hlk, hts, hO, hnm, hA⟩ := id C
  subst hi
  have ec : (nI j).toNatClampNeg = j := nI_clamp (by omega)
  have hin : vp_in (nI j) N := vp_in_nI hj (by omega)
  exact W.aald (v := .ref v) (ty := .array .int) hx hb (hP q0 _ he) ((hO.1.2 5 (cs 5, .array .int) rfl).1 N (fun j => va_rf (f j))) rfl (fun q => by cases q) (by show ¬ (nI j < 0 ∨ (arrV _ _ _).slots.size ≤ _); rw [arrV_size]; exact hin) (by show (arrV _ _ _).slots[_]? = _; rw [ec, arrV_read _ _ hj, hv]; rfl) rfl rfl dg (K H locs ls hX hl)
theorem U_alen (C : UC D cs own cc nL nm A p s m args meth c) {a N : Nat} {f : Nat → Int32} (q0 : Nat) (he : ws[q0]? = some (a, .inl (cs 0, N, .inl f))) (dg : decode cc pc = .ok (.arraylength, 1)) (K : J p l e R s m args below meth c Z (ug D cs) nL (UX D A s.heap ws) cn sn (pc + 1) lv (.int (nI N) :: st)) : J p l e R s m args below meth c Z (ug D cs) nL (UX D A s.heap ws) cn sn pc lv (.ref a :: st) := by
  intro H locs ls hX hl
  obtain ⟨hP, hD, hS⟩ := id hX
  obtain ⟨hx, hb, hr, hml, hown, hlk, hts, hO, hnm, hA⟩ := id C
  exact va_alen (D := D) (cl := vwCl) (tys := tysW (ug D cs)) hx hb hO.1 hP q0 0 he (ty := .int) rfl rfl dg (K H locs ls hX hl)
theorem U_iast (C : UC D cs own cc nL nm A p s m args meth c) {a N j : Nat} {i v : Int32} {f : Nat → Int32} (q0 : Nat) (ws' : va_W) (he : ws[q0]? = some (a, .inl (cs 0, N, .inl f))) (hw : ws.set q0 (a, .inl (cs 0, N, .inl (upd f j v))) = ws') (hi : i = nI j) (hj : j < N) (hN : N ≤ 4000) (dg : decode cc pc = .ok (.iastore, 1)) (K : J p l e R s m args below meth c Z (ug D cs) nL (UX D A s.heap ws') cn sn (pc + 1) lv st) : J p l e R s m args below meth c Z (ug D cs) nL (UX D A s.heap ws) cn sn pc lv (.int v :: .int i :: .ref a :: st) := by
  intro H locs ls hX hl
  obtain ⟨hP, hD, hS⟩ := id hX
  obtain ⟨hx, hb, hr, hml, hown, hlk, hts, hO, hnm, hA⟩ := id C
  subst hi
  subst hw
  have ec : (nI j).toNatClampNeg = j := nI_clamp (by omega)
  refine va_iast (D := D) (cl := vwCl) (tys := tysW (ug D cs)) hx hb hO.1 hP hD hS q0 0 he rfl (vp_in_nI hj (by omega)) dg (fun H1 locs1 p1 d1 s1 => ?_)
  rw [ec] at p1 d1
  exact K H1 locs1 ls ⟨p1, d1, s1⟩ hl
theorem U_aast (C : UC D cs own cc nL nm A p s m args meth c) {a N j v : Nat} {i : Int32} {f : Nat → Option Nat} {vs : List Value} (q0 qk : Nat) (ws' : va_W) (he : ws[q0]? = some (a, .inl (cs 4, N, .inr (.inr (.inr (.inr f)))))) (hv : ws[qk]? = some (v, .inr (5, vs))) (hw : ws.set q0 (a, .inl (cs 4, N, .inr (.inr (.inr (.inr (va_up f j (some v))))))) = ws') (hi : i = nI j) (hj : j < N) (hN : N ≤ 4000) (dg : decode cc pc = .ok (.aastore, 1)) (K : J p l e R s m args below meth c Z (ug D cs) nL (UX D A s.heap ws') cn sn (pc + 1) lv st) : J p l e R s m args below meth c Z (ug D cs) nL (UX D A s.heap ws) cn sn pc lv (.ref v :: .int i :: .ref a :: st) := by
  intro H locs ls hX hl
  obtain ⟨hP, hD, hS⟩ := id hX
  obtain ⟨hx, hb, hr, hml, hown, hlk, hts, hO, hnm, hA⟩ := id C
  subst hi
  subst hw
  have ec : (nI j).toNatClampNeg = j := nI_clamp (by omega)
  refine va_astq (D := D) (cl := vwCl) (tys := tysW (ug D cs)) hx hb hO.1 hP hD hS q0 4 qk 5 (r := (RX5, TX5, 5)) he rfl hv rfl (vp_in_nI hj (by omega)) dg (fun H1 locs1 p1 d1 s1 => ?_)
  rw [ec] at p1 d1
  exact K H1 locs1 ls ⟨p1, d1, s1⟩ hl
/-- the constructor of the object that came last -/
theorem U_init (C : UB D cs own cc nL A p s m args c) {y : MethodName} {cc' : ByteArray} {nL' d mc ms idx q : Nat} {ws1 : va_W} {e0 : va_E} {P : va_W → Prop} (isR : List Nat) (m1 : (Cond.methodLink own idx y ∈ wsL_law) ∨ (Cond.methodLinkNest own idx y "NamedWind" ∈ nestW)) (m2 : Cond.initialized y.cls ∈ wsL_law) (m3 : Cond.code y cc' nL' none ∈ wsL_law) (m4 : y.cls ≠ "java/lang/invoke/MethodHandle" ∧ y.cls ≠ "java/lang/invoke/VarHandle") (m5 : (parseMethodDescriptor y.desc).map (fun d => d.parameters.length) = some 0) (m6 : nL' ≤ 28) (m7 : Cond.instanceMethod y ∈ wsL_law) (m8 : y.name = "<init>") (hC : ∀ sz, UCon l D cs y cc' nL' d mc ms [.ref q] [(q, e0)] sz P) (hw : ws = ws1 ++ [(q, e0)]) (hlast : [ws1.length].map (fun i => ws[i]?) = [(q, e0)].map some) (hR : isR.map (fun i => ws[i]?) = ws1.map some) (hnd : va_nd isR = true) (hdis : ∀ i ∈ isR, i ∉ [ws1.length]) (hd : d + 1 ≤ R.frames) (hlo : 48 * (d + 1) ≤ R.locals) (hst : (st.map fun v => v.category).sum ≤ 8) (h1 : cn + mc ≤ R.cells) (h2 : sn + ms ≤ R.slots) (dg : decode cc pc = .ok (.invokespecial idx, 3)) (K : ∀ w1 : va_W, P w1 → J p l e R s m args below meth c Z (ug D cs) nL (UX D A s.heap (ws1 ++ w1)) (cn + mc) (sn + ms) (pc + 3) lv st) : J p l e R s m args below meth c Z (ug D cs) nL (UX D A s.heap ws) cn sn pc lv (.ref q :: st) := by
  intro H locs ls hX hl
  obtain ⟨hP, hD, hS⟩ := id hX
  obtain ⟨hx, hb, hml, hown, hts, hO, hA⟩ := id C
  have hPc : va_P D vwCl [(q, e0)] H := hP.sub (ws' := [(q, e0)]) [ws1.length] (by rw [hw]; simp)
  have hDc : va_D A [(q, e0)] := hD.sub (ws' := [(q, e0)]) [ws1.length] rfl hlast
  have hFc := va_free (wc := [(q, e0)]) hD hS hA [ws1.length] hlast
  have hG : GoodIn wsL_law (.code y cc' nL' none :: wsL_law) := fun w hw => by
    rcases List.mem_cons.mp hw with rfl | hw
    · exact wsL_G _ m3
    · exact wsL_G _ hw
  have hRm : (rmu d mc ms).frames + 1 ≤ R.frames ∧ 8 + (nL' + 11) + (rmu d mc ms).locals ≤ R.locals := by
    constructor
    · exact hd
    · show 8 + (nL' + 11) + 48 * d ≤ R.locals
      omega
  have hn : ∀ sig, parseMethodDescriptor y.desc = some sig → 0 = sig.parameters.length := by
    intro sig h
    rw [h] at m5
    exact (Option.some.inj m5).symm
  have hp : PreS s H (va_Pc [.ref q] (fun U => U.heap.size = H.size ∧ UOK D cs U ∧ va_P D vwCl [(q, e0)] U.heap ∧ va_D (fun _ => True) [(q, e0)])) [.ref q] := ⟨UCon_blind, fun U hU hW => ⟨rfl, by rw [hU], hO.moved hW, by rw [hU]; exact hPc, hDc.weaken (fun _ _ _ _ => trivial)⟩⟩
  have hJ : ∀ (u : va_W) (t : State) (H1 : Heap) (locs1 : List Loc), t.heap = H1 → s.vm.Alike t.vm → P u → (va_P D vwCl u t.heap ∧ va_D (va_A [(q, e0)] H.size) u) → H.size ≤ H1.size → (∀ x : Nat, x < H.size → ¬ va_A [(q, e0)] H.size x → H1[x]? = H[x]?) → va_S A s.heap H1 locs1 → W p l e R s m args below meth c H1 locs1 (cn + mc) (sn + ms) Z (F0 m (pc + 3) ls (st.map (conc (ug D cs)))) := by
    intro u t H1 locs1 ht hvm hPu hB hz1 hk1 hS1
    obtain ⟨hP1, hD1⟩ := hB
    rw [ht] at hP1
    obtain ⟨hP2, hD2⟩ := va_join (wr := ws1) (w1 := u) hP hD [ws1.length] isR hlast hR hnd hdis hk1 hFc hP1 hD1
    exact K u hPu H1 locs1 ls ⟨hP2, hD2, hS1⟩ hl
  rcases m1 with m1 | m1
  · exact va_callv (va_runI (As := []) (rest := st.map (conc (ug D cs))) ⟨hx, hb, hml, hown, hts⟩ (hC H.size) ⟨⟨rfl, rfl, hRm.1, hRm.2, pay_in hts hG, List.mem_cons_self, hts _ m3, hts _ m2, m4, hn, hts _ m1⟩, m8, hts _ m7⟩ hp rfl rfl hl.1 rfl (lv_room (cat_rest hst)) dg ⟨h1, h2⟩) hS (fun q _ h => hFc q h) hFc hJ
  · exact va_callv (va_runIN (As := []) (rest := st.map (conc (ug D cs))) ⟨hx, hb, hml, hown, hts⟩ (hC H.size) ⟨⟨⟨rfl, rfl, hRm.1, hRm.2, pay_in hts hG, List.mem_cons_self⟩, hts _ m3, hts _ m2, m4, hn, va_Nw.use rfl (hO.2.1 _ m1)⟩, m8, hts _ m7⟩ hp rfl rfl hl.1 rfl (lv_room (cat_rest hst)) dg ⟨h1, h2⟩) hS (fun q _ h => hFc q h) hFc hJ
theorem va_all {D : va_G} {A1 : Nat → Prop} {w : va_W} {H0 H : Heap} {locs : List Loc} (hD : va_D A1 w) (hS : va_S A1 H0 H locs) (hA : ∀ q, H0.size ≤ q → A1 q) : ∀ q, va_A w H.size q → A1 q := by
  intro q h
  rcases h with ⟨k, e, h⟩ | h
  · exact hD.2 k (q, e) h
  · exact hA q (Nat.le_trans hS.1 h)
/-- a call that has the whole world -/
theorem U_call (C : UC D cs own cc nL nm A p s m args meth c) {y : MethodName} {cc' : ByteArray} {nL' d n idx q ci : Nat} {As fs : List Value} {P : va_W → Prop} (q0 : Nat) (ml : MLv own idx y cc' nL' none n) (hn0 : As.length = n) (hq : ws[q0]? = some (q, .inr (ci, fs))) (hci : ci < 9 ∧ clR ci = y.cls) (hC : ∀ sz, UCon l D cs y cc' nL' d 0 0 (.ref q :: As) ws sz P) (hd : d + 1 ≤ R.frames) (hlo : 48 * (d + 1) ≤ R.locals) (hst : (st.map fun v => v.category).sum ≤ 8) (h1 : cn ≤ R.cells) (h2 : sn ≤ R.slots) (hAc : As.map (conc (ug D cs)) = As) (dg : decode cc pc = .ok (.invokevirtual idx, 3)) (K : ∀ w1 : va_W, P w1 → J p l e R s m args below meth c Z (ug D cs) nL (UX D A s.heap w1) cn sn (pc + 3) lv st) : J p l e R s m args below meth c Z (ug D cs) nL (UX D A s.heap ws) cn sn pc lv (As.reverse ++ .ref q :: st) := by
  intro H locs ls hX hl
  obtain ⟨hP, hD, hS⟩ := id hX
  obtain ⟨hx, hb, hr, hml, hown, hlk, hts, hO, hnm, hA⟩ := id C
  obtain ⟨⟨m1, m2, m3, m4, m5, m6⟩, m7, m8⟩ := ml
  obtain ⟨c1, c2, c3, c4⟩ := CLo_all ci hci.1
  have hFc := va_all (D := D) hD hS hA
  have hG : GoodIn wsL_law (.code y cc' nL' none :: wsL_law) := fun w hw => by
    rcases List.mem_cons.mp hw with rfl | hw
    · exact wsL_G _ m3
    · exact wsL_G _ hw
  have hRm : (rmu d 0 0).frames + 1 ≤ R.frames ∧ 8 + (nL' + 11) + (rmu d 0 0).locals ≤ R.locals := by
    constructor
    · exact hd
    · show 8 + (nL' + 11) + 48 * d ≤ R.locals
      omega
  have hn : ∀ sig, parseMethodDescriptor y.desc = some sig → n = sig.parameters.length := by
    intro sig h
    rw [h] at m5
    exact (Option.some.inj m5).symm
  have hp : PreV s H y.cls q (va_Pc (.ref q :: As) (fun U => U.heap.size = H.size ∧ UOK D cs U ∧ va_P D vwCl ws U.heap ∧ va_D (fun _ => True) ws)) As := by
    refine ⟨UCon_blind, ?_, fun U hU hW => ⟨rfl, by rw [hU], hO.moved hW, by rw [hU]; exact hP, hD.weaken (fun _ _ _ _ => trivial)⟩⟩
    have hrv := va_recv hO.1 hP (ci := ci) (q0 := q0) c1 hq
    rw [← hci.2]
    exact hrv
  have hstk : (As.reverse ++ Value.ref q :: st).map (conc (ug D cs)) = As.reverse ++ .ref q :: st.map (conc (ug D cs)) := by
    rw [List.map_append, List.map_reverse, hAc]
    rfl
  rw [hstk]
  have hJ : ∀ (u : va_W) (t : State) (H1 : Heap) (locs1 : List Loc), t.heap = H1 → s.vm.Alike t.vm → P u → (va_P D vwCl u t.heap ∧ va_D (va_A ws H.size) u) → H.size ≤ H1.size → (∀ x : Nat, x < H.size → ¬ va_A ws H.size x → H1[x]? = H[x]?) → va_S A s.heap H1 locs1 → W p l e R s m args below meth c H1 locs1 (cn + 0) (sn + 0) Z (F0 m (pc + 3) ls (st.map (conc (ug D cs)))) := by
    intro u t H1 locs1 ht hvm hPu hB hz1 hk1 hS1
    obtain ⟨hP1, hD1⟩ := hB
    rw [ht] at hP1
    exact K u hPu H1 locs1 ls ⟨hP1, hD1.weaken (fun _ x _ h => hFc x.1 h), hS1⟩ hl
  rcases m1 with m1 | m1
  · exact va_callv (va_runV (As := As) (rest := st.map (conc (ug D cs))) ⟨hx, hb, hml, hown, hts⟩ (hC H.size) ⟨⟨rfl, rfl, hRm.1, hRm.2, pay_in hts hG, List.mem_cons_self, hts _ m3, hts _ m2, m4, hn, hts _ m1⟩, hts _ m7, hts _ m8⟩ hp rfl hn0 hl.1 rfl (lv_room (cat_rest hst)) dg ⟨h1, h2⟩) hS (fun q _ h => hFc q h) hFc hJ
  · exact va_callv (va_runVN (As := As) (rest := st.map (conc (ug D cs))) ⟨hx, hb, hml, hown, hts⟩ (hC H.size) ⟨⟨⟨rfl, rfl, hRm.1, hRm.2, pay_in hts hG, List.mem_cons_self⟩, hts _ m3, hts _ m2, m4, hn, va_Nw.use rfl (hO.2.1 _ m1)⟩, hts _ m7, hts _ m8⟩ hp rfl hn0 hl.1 rfl (lv_room (cat_rest hst)) dg ⟨h1, h2⟩) hS (fun q _ h => hFc q h) hFc hJ
theorem U_calls (C : UC D cs own cc nL nm A p s m args meth c) {y : MethodName} {cc' : ByteArray} {nL' d n idx : Nat} {As : List Value} {P : va_W → Prop} (ml : MLs own idx y cc' nL' none n) (hn0 : As.length = n) (hC : ∀ sz, UCon l D cs y cc' nL' d 0 0 As ws sz P) (hd : d + 1 ≤ R.frames) (hlo : 48 * (d + 1) ≤ R.locals) (hst : (st.map fun v => v.category).sum ≤ 8) (h1 : cn ≤ R.cells) (h2 : sn ≤ R.slots) (hAc : As.map (conc (ug D cs)) = As) (dg : decode cc pc = .ok (.invokestatic idx, 3)) (K : ∀ w1 : va_W, P w1 → J p l e R s m args below meth c Z (ug D cs) nL (UX D A s.heap w1) cn sn (pc + 3) lv st) : J p l e R s m args below meth c Z (ug D cs) nL (UX D A s.heap ws) cn sn pc lv (As.reverse ++ st) := by
  intro H locs ls hX hl
  obtain ⟨hP, hD, hS⟩ := id hX
  obtain ⟨hx, hb, hr, hml, hown, hlk, hts, hO, hnm, hA⟩ := id C
  obtain ⟨⟨m1, m2, m3, m4, m5, m6⟩, m7⟩ := ml
  have hFc := va_all (D := D) hD hS hA
  have hG : GoodIn wsL_law (.code y cc' nL' none :: wsL_law) := fun w hw => by
    rcases List.mem_cons.mp hw with rfl | hw
    · exact wsL_G _ m3
    · exact wsL_G _ hw
  have hRm : (rmu d 0 0).frames + 1 ≤ R.frames ∧ 8 + (nL' + 11) + (rmu d 0 0).locals ≤ R.locals := by
    constructor
    · exact hd
    · show 8 + (nL' + 11) + 48 * d ≤ R.locals
      omega
  have hn : ∀ sig, parseMethodDescriptor y.desc = some sig → n = sig.parameters.length := by
    intro sig h
    rw [h] at m5
    exact (Option.some.inj m5).symm
  have hp : PreS s H (va_Pc As (fun U => U.heap.size = H.size ∧ UOK D cs U ∧ va_P D vwCl ws U.heap ∧ va_D (fun _ => True) ws)) As := ⟨UCon_blind, fun U hU hW => ⟨rfl, by rw [hU], hO.moved hW, by rw [hU]; exact hP, hD.weaken (fun _ _ _ _ => trivial)⟩⟩
  have hstk : (As.reverse ++ st).map (conc (ug D cs)) = As.reverse ++ st.map (conc (ug D cs)) := by
    rw [List.map_append, List.map_reverse, hAc]
  rw [hstk]
  have hJ : ∀ (u : va_W) (t : State) (H1 : Heap) (locs1 : List Loc), t.heap = H1 → s.vm.Alike t.vm → P u → (va_P D vwCl u t.heap ∧ va_D (va_A ws H.size) u) → H.size ≤ H1.size → (∀ x : Nat, x < H.size → ¬ va_A ws H.size x → H1[x]? = H[x]?) → va_S A s.heap H1 locs1 → W p l e R s m args below meth c H1 locs1 (cn + 0) (sn + 0) Z (F0 m (pc + 3) ls (st.map (conc (ug D cs)))) := by
    intro u t H1 locs1 ht hvm hPu hB hz1 hk1 hS1
    obtain ⟨hP1, hD1⟩ := hB
    rw [ht] at hP1
    exact K u hPu H1 locs1 ls ⟨hP1, hD1.weaken (fun _ x _ h => hFc x.1 h), hS1⟩ hl
  rcases m1 with m1 | m1
  · exact va_callv (va_runS (As := As) (rest := st.map (conc (ug D cs))) ⟨hx, hb, hml, hown, hts⟩ (hC H.size) ⟨⟨rfl, rfl, hRm.1, hRm.2, pay_in hts hG, List.mem_cons_self, hts _ m3, hts _ m2, m4, hn, hts _ m1⟩, hts _ m7⟩ hp rfl hn0 hl.1 rfl (lv_room (cat_rest hst)) dg ⟨h1, h2⟩) hS (fun q _ h => hFc q h) hFc hJ
  · exact va_callv (va_runSN (As := As) (rest := st.map (conc (ug D cs))) ⟨hx, hb, hml, hown, hts⟩ (hC H.size) ⟨⟨⟨rfl, rfl, hRm.1, hRm.2, pay_in hts hG, List.mem_cons_self⟩, hts _ m3, hts _ m2, m4, hn, va_Nw.use rfl (hO.2.1 _ m1)⟩, hts _ m7, trivial⟩ hp rfl hn0 hl.1 rfl (lv_room (cat_rest hst)) dg ⟨h1, h2⟩) hS (fun q _ h => hFc q h) hFc hJ
theorem U_vret {mc ms : Nat} {P : va_W → Prop} (C : UC D cs own cc nL nm A p s m args meth c) (is : List Nat) (ws' : va_W) (h1 : is.filterMap (fun i => ws[i]?) = ws') (h2 : va_nd is = true) (h3 : is.map (fun i => ws[i]?) = ws'.map some) (hk : cn ≤ mc) (hn : sn ≤ ms) (h : P ws') (dg : decode cc pc = .ok (.return_, 1)) : J p l e R s m args below meth c (MQ below (Qu D A P) args s mc ms A) (ug D cs) nL (UX D A s.heap ws) cn sn pc lv [] := by
  intro H locs ls hX hl
  obtain ⟨hP, hD, hS⟩ := id hX
  obtain ⟨hx, hb, hr, hml, hown, hlk, hts, hO, hnm, hA⟩ := id C
  refine W.widen (k := mc) (n := ms) hk hn ?_
  exact W.vret hx hb hr (fun t ht hW => ⟨⟨ws', rfl, h, by rw [ht]; exact hP.sub is h1, hD.sub is h2 h3⟩, hS.F ht⟩) hS.2.2 dg hlk
theorem U_vret0 {mc ms : Nat} {P : va_W → Prop} (C : UC D cs own cc nL nm A p s m args meth c) (hk : cn ≤ mc) (hn : sn ≤ ms) (h : P ws) (dg : decode cc pc = .ok (.return_, 1)) : J p l e R s m args below meth c (MQ below (Qu D A P) args s mc ms A) (ug D cs) nL (UX D A s.heap ws) cn sn pc lv [] := by
  intro H locs ls hX hl
  obtain ⟨hP, hD, hS⟩ := id hX
  obtain ⟨hx, hb, hr, hml, hown, hlk, hts, hO, hnm, hA⟩ := id C
  refine W.widen (k := mc) (n := ms) hk hn ?_
  exact W.vret hx hb hr (fun t ht hW => ⟨⟨ws, rfl, h, by rw [ht]; exact hP, hD⟩, hS.F ht⟩) hS.2.2 dg hlk
end UROWS
