/-! ===== rows at the law's frame ===== -/
def LX (g : GW) (H0 : Heap) (μ : Mm) : Heap → List Loc → Prop := fun H locs => va_P g.1 vwCl (Wd g μ) H ∧ va_S (fun q : Nat => H0.size ≤ q) H0 H locs
def LC (p : Program) (s : State) (m : MethodId) (meth : Method) (c : Code) (b L : Nat) (xs : Nat → Int32) (g : GW) : Prop := lw_At p s m meth c b L xs ∧ OKw g s ∧ (∀ k, k < 88 → s.heap.size ≤ g.2.2 k) ∧ g.2.2 91 = b ∧ L ≤ 2560
section LROWS
variable {p : Program} {l : Launch} {e : Env} {s : State} {m : MethodId} {below : List Frame} {meth : Method} {c : Code} {b L : Nat} {xs : Nat → Int32} {g : GW} {cn sn : Nat} {Z : State → Prop} {pc : Nat} {lv st : List Value} {μ : Mm}
theorem L_sld (C : LC p s m meth c b L xs g) {j : Nat} {i : Int32} (hi : i = nI j) (hj : j < L) (dg : decode code pc = .ok (.iaload, 1)) (K : J p l e room_1 s m #[Value.ref b] below meth c Z g 4 (LX g s.heap μ) cn sn (pc + 1) lv (.int (xs j) :: st)) : J p l e room_1 s m #[Value.ref b] below meth c Z g 4 (LX g s.heap μ) cn sn pc lv (.int i :: .ref 91 :: st) := by
  intro H locs ls hX hl
  obtain ⟨⟨hx, hb, hr, hml, hown, hts, hX0, hbl, hlk, hgv⟩, hO, hlo, h91, hL⟩ := id C
  subst hi
  have hj2 : j < 2 ^ 31 := by omega
  show W p l e room_1 s m #[Value.ref b] below meth c H locs cn sn Z (F0 m pc ls (.int (nI j) :: .ref (g.2.2 91) :: st.map (conc g)))
  rw [h91]
  have hbA : ¬ (fun q : Nat => s.heap.size ≤ q) b := Nat.not_le.mpr hbl
  refine va_sld hx hb hX0 hbl hbA hX.2 (vp_in_nI hj (by omega)) dg ?_
  rw [nI_clamp hj2]
  exact K H locs ls hX hl
theorem L_slen (C : LC p s m meth c b L xs g) (dg : decode code pc = .ok (.arraylength, 1)) (K : J p l e room_1 s m #[Value.ref b] below meth c Z g 4 (LX g s.heap μ) cn sn (pc + 1) lv (.int (nI L) :: st)) : J p l e room_1 s m #[Value.ref b] below meth c Z g 4 (LX g s.heap μ) cn sn pc lv (.ref 91 :: st) := by
  intro H locs ls hX hl
  obtain ⟨⟨hx, hb, hr, hml, hown, hts, hX0, hbl, hlk, hgv⟩, hO, hlo, h91, hL⟩ := id C
  show W p l e room_1 s m #[Value.ref b] below meth c H locs cn sn Z (F0 m pc ls (.ref (g.2.2 91) :: st.map (conc g)))
  rw [h91]
  have hbA : ¬ (fun q : Nat => s.heap.size ≤ q) b := Nat.not_le.mpr hbl
  exact va_slen hx hb hX0 hbl hbA hX.2 dg (K H locs ls hX hl)
theorem L_ldc2 (C : LC p s m meth c b L xs g) {index : Nat} {v : Int64} (hw : Cond.constantLong RL index v ∈ wsL_law) (dg : decode code pc = .ok (.ldc2_w index, 3)) (K : J p l e room_1 s m #[Value.ref b] below meth c Z g 4 (LX g s.heap μ) cn sn (pc + 3) lv (.long v :: st)) : J p l e room_1 s m #[Value.ref b] below meth c Z g 4 (LX g s.heap μ) cn sn pc lv st := by
  intro H locs ls hX hl
  obtain ⟨⟨hx, hb, hr, hml, hown, hts, hX0, hbl, hlk, hgv⟩, hO, hlo, h91, hL⟩ := id C
  exact lv_ldc2 (own := RL) hx hb hown (hts _ (wsL_law_in _ hw)) dg (K H locs ls hX hl)
theorem L_callW {H : Heap} {locs : List Loc} {ls : Array Slot} {st0 : List Value} {a : Array Value} {Q' : Option Value → Mm → Prop} (hlo : ∀ k, k < 88 → s.heap.size ≤ g.2.2 k) (hS : va_S (fun q : Nat => s.heap.size ≤ q) s.heap H locs) (hl : LVs g ls 4 lv) (hr : va_Run p l e room_1 s m #[Value.ref b] below meth c H locs cn sn 0 0 (F0 m pc ls st0) (st.map (conc g)) (Qvw g Q' a) (AW g)) (K : ∀ r μ', Q' r μ' → J p l e room_1 s m #[Value.ref b] below meth c Z g 4 (LX g s.heap μ') cn sn (pc + 3) lv (r.toList ++ st)) : W p l e room_1 s m #[Value.ref b] below meth c H locs cn sn Z (F0 m pc ls st0) := by
  intro T hT X
  obtain ⟨v, st₀, t, T', Lc, h0, X', hLc, e1, e2, ⟨⟨r, μ', hv, hQ, hP'⟩, hz, hk⟩, stp⟩ := hr T hT X
  have hv : v = r.map (conc g) := by cases hv; rfl
  subst hv
  rw [h0] at hz hk
  have hS' : va_S (fun q : Nat => s.heap.size ≤ q) s.heap T'.heap (locs ++ Lc) := ⟨Nat.le_trans hS.1 (by rw [e1]; exact hz), fun q h1 h2 => by
      rw [e1, hk q (Nat.lt_of_lt_of_le h1 hS.1) (fun ⟨k, k1, k2⟩ => h2 (by show s.heap.size ≤ q; rw [k2]; exact hlo k k1))]
      exact hS.2.1 q h1 h2, fun q hq => by
      rcases List.mem_append.mp hq with h | h
      · exact hS.2.2 q h
      · obtain ⟨k, k1, k2⟩ := hLc q h
        show s.heap.size ≤ q.base
        rw [k2]
        exact hlo k k1⟩
  obtain ⟨t2, a1, b1⟩ := K r μ' hQ T'.heap (locs ++ Lc) ls ⟨by rw [e1]; exact hP', hS'⟩ hl T' rfl X'
  refine ⟨t2, stp t2 ?_, b1⟩
  cases r <;> exact a1
theorem L_inv (C : LC p s m meth c b L xs g) (hcn : cn ≤ 600000) (hsn : sn ≤ 7302250) {idx n k ci d' : Nat} {y : MethodName} {cc' : ByteArray} {nL' : Nat} {rt' : Option FieldType} {As : List Value} {Q' : Option Value → Mm → Prop} (dg : decode code pc = .ok (.invokevirtual idx, 3)) (ml : MLv RL idx y cc' nL' rt' n) (hA : As.length = n) (hk : k < 88) (ht : kt k = ci) (hci : ci < 9 ∧ clR ci = y.cls) (hC : Con l g y cc' nL' rt' d' (.ref k :: As) μ Q') (hd : d' < 40) (hst : (st.map fun v => v.category).sum ≤ 8) (K : ∀ r μ', Q' r μ' → J p l e room_1 s m #[Value.ref b] below meth c Z g 4 (LX g s.heap μ') cn sn (pc + 3) lv (r.toList ++ st)) : J p l e room_1 s m #[Value.ref b] below meth c Z g 4 (LX g s.heap μ) cn sn pc lv (As.reverse ++ .ref k :: st) := by
  intro H locs ls hX hl
  obtain ⟨⟨hx, hb, hr0, hml, hown, hts0, hX0, hbl, hlk, hgv⟩, hO, hlo, h91, hL⟩ := id C
  obtain ⟨hP, hS⟩ := hX
  have hown : s.vm.findClass RL = some m.cls := hown
  have hts : ∀ w ∈ wsL_law, w.before #[Value.ref b] s = true := fun w h => hts0 w (wsL_law_in w h)
  obtain ⟨⟨m1, m2, m3, m4, m5, m6⟩, m7, m8⟩ := ml
  obtain ⟨c1, c2, c3, c4⟩ := CLo_all ci hci.1
  have he := Wd_at g μ hk
  rw [cellE_obj ht hci.1] at he
  have hG : GoodIn wsL_law (.code y cc' nL' rt' :: wsL_law) := fun w hw => by
    rcases List.mem_cons.mp hw with rfl | hw
    · exact wsL_G _ m3
    · exact wsL_G _ hw
  have hR : (rmv d').frames + 1 ≤ room_1.frames ∧ 8 + (nL' + 11) + (rmv d').locals ≤ room_1.locals := by
    constructor
    · show d' + 1 ≤ 2048
      omega
    · show 8 + (nL' + 11) + 48 * d' ≤ 84000
      omega
  have hn : ∀ sig, parseMethodDescriptor y.desc = some sig → n = sig.parameters.length := by
    intro sig h
    rw [h] at m5
    exact (Option.some.inj m5).symm
  have hS2 : ∀ U : State, U.heap = H → va_S (AW g) s.heap U.heap [] := fun U hU => by
    rw [hU]
    exact ⟨hS.1, fun q h1 h2 => hS.2.1 q h1 (Nat.not_le.mpr h1), fun _ h => by cases h⟩
  have hp : PreV s H y.cls (g.2.2 k) (va_Pc ((Value.ref k :: As).map (conc g)) (fun U => OKw g U ∧ va_P g.1 vwCl (Wd g μ) U.heap)) (As.map (conc g)) := by
    refine ⟨Con_blind, ?_, fun U hU hW => ⟨rfl, hO.moved hW (hS2 U hU), by rw [hU]; exact hP⟩⟩
    have hrv := va_recv hO.1 hP (ci := ci) (q0 := k) c1 he
    rw [← hci.2]
    exact hrv
  have hstk : (As.reverse ++ Value.ref k :: st).map (conc g) = (As.map (conc g)).reverse ++ .ref (g.2.2 k) :: st.map (conc g) := by
    rw [List.map_append, List.map_reverse]
    rfl
  rw [hstk]
  rcases m1 with m1 | m1
  · exact L_callW hlo hS hl (va_runV (As := As.map (conc g)) (rest := st.map (conc g)) ⟨hx, hb, hml, hown, hts⟩ hC ⟨⟨rfl, rfl, hR.1, hR.2, pay_in hts hG, List.mem_cons_self, hts _ m3, hts _ m2, m4, hn, hts _ m1⟩, hts _ m7, hts _ m8⟩ hp rfl (by rw [List.length_map]; exact hA) hl.1 rfl (lv_room (cat_rest hst)) dg ⟨hcn, hsn⟩) K
  · exact L_callW hlo hS hl (va_runVN (As := As.map (conc g)) (rest := st.map (conc g)) ⟨hx, hb, hml, hown, hts⟩ hC ⟨⟨⟨rfl, rfl, hR.1, hR.2, pay_in hts hG, List.mem_cons_self⟩, hts _ m3, hts _ m2, m4, hn, va_Nw.use rfl (hO.2.1 _ m1)⟩, hts _ m7, hts _ m8⟩ hp rfl (by rw [List.length_map]; exact hA) hl.1 rfl (lv_room (cat_rest hst)) dg ⟨hcn, hsn⟩) K
theorem L_inv0 (C : LC p s m meth c b L xs g) (hcn : cn ≤ 600000) (hsn : sn ≤ 7302250) {idx k ci d' : Nat} {y : MethodName} {cc' : ByteArray} {nL' : Nat} {rt' : Option FieldType} {Q' : Option Value → Mm → Prop} (dg : decode code pc = .ok (.invokevirtual idx, 3)) (ml : MLv RL idx y cc' nL' rt' 0) (hk : k < 88) (ht : kt k = ci) (hci : ci < 9 ∧ clR ci = y.cls) (hC : Con l g y cc' nL' rt' d' (.ref k :: []) μ Q') (hd : d' < 40) (hst : (st.map fun v => v.category).sum ≤ 8) (K : ∀ r μ', Q' r μ' → J p l e room_1 s m #[Value.ref b] below meth c Z g 4 (LX g s.heap μ') cn sn (pc + 3) lv (r.toList ++ st)) : J p l e room_1 s m #[Value.ref b] below meth c Z g 4 (LX g s.heap μ) cn sn pc lv (.ref k :: st) := L_inv C hcn hsn dg ml rfl hk ht hci hC hd hst K
theorem L_inv1 (C : LC p s m meth c b L xs g) (hcn : cn ≤ 600000) (hsn : sn ≤ 7302250) {idx k ci d' : Nat} {y : MethodName} {cc' : ByteArray} {nL' : Nat} {rt' : Option FieldType} {a0 : Value} {Q' : Option Value → Mm → Prop} (dg : decode code pc = .ok (.invokevirtual idx, 3)) (ml : MLv RL idx y cc' nL' rt' 1) (hk : k < 88) (ht : kt k = ci) (hci : ci < 9 ∧ clR ci = y.cls) (hC : Con l g y cc' nL' rt' d' (.ref k :: [a0]) μ Q') (hd : d' < 40) (hst : (st.map fun v => v.category).sum ≤ 8) (K : ∀ r μ', Q' r μ' → J p l e room_1 s m #[Value.ref b] below meth c Z g 4 (LX g s.heap μ') cn sn (pc + 3) lv (r.toList ++ st)) : J p l e room_1 s m #[Value.ref b] below meth c Z g 4 (LX g s.heap μ) cn sn pc lv (a0 :: .ref k :: st) := L_inv C hcn hsn dg ml rfl hk ht hci hC hd hst K
theorem L_inv2 (C : LC p s m meth c b L xs g) (hcn : cn ≤ 600000) (hsn : sn ≤ 7302250) {idx k ci d' : Nat} {y : MethodName} {cc' : ByteArray} {nL' : Nat} {rt' : Option FieldType} {a0 a1 : Value} {Q' : Option Value → Mm → Prop} (dg : decode code pc = .ok (.invokevirtual idx, 3)) (ml : MLv RL idx y cc' nL' rt' 2) (hk : k < 88) (ht : kt k = ci) (hci : ci < 9 ∧ clR ci = y.cls) (hC : Con l g y cc' nL' rt' d' (.ref k :: [a0, a1]) μ Q') (hd : d' < 40) (hst : (st.map fun v => v.category).sum ≤ 8) (K : ∀ r μ', Q' r μ' → J p l e room_1 s m #[Value.ref b] below meth c Z g 4 (LX g s.heap μ') cn sn (pc + 3) lv (r.toList ++ st)) : J p l e room_1 s m #[Value.ref b] below meth c Z g 4 (LX g s.heap μ) cn sn pc lv (a1 :: a0 :: .ref k :: st) := L_inv C hcn hsn dg ml rfl hk ht hci hC hd hst K
theorem L_inv3 (C : LC p s m meth c b L xs g) (hcn : cn ≤ 600000) (hsn : sn ≤ 7302250) {idx k ci d' : Nat} {y : MethodName} {cc' : ByteArray} {nL' : Nat} {rt' : Option FieldType} {a0 a1 a2 : Value} {Q' : Option Value → Mm → Prop} (dg : decode code pc = .ok (.invokevirtual idx, 3)) (ml : MLv RL idx y cc' nL' rt' 3) (hk : k < 88) (ht : kt k = ci) (hci : ci < 9 ∧ clR ci = y.cls) (hC : Con l g y cc' nL' rt' d' (.ref k :: [a0, a1, a2]) μ Q') (hd : d' < 40) (hst : (st.map fun v => v.category).sum ≤ 8) (K : ∀ r μ', Q' r μ' → J p l e room_1 s m #[Value.ref b] below meth c Z g 4 (LX g s.heap μ') cn sn (pc + 3) lv (r.toList ++ st)) : J p l e room_1 s m #[Value.ref b] below meth c Z g 4 (LX g s.heap μ) cn sn pc lv (a2 :: a1 :: a0 :: .ref k :: st) := L_inv C hcn hsn dg ml rfl hk ht hci hC hd hst K
theorem L_inv4 (C : LC p s m meth c b L xs g) (hcn : cn ≤ 600000) (hsn : sn ≤ 7302250) {idx k ci d' : Nat} {y : MethodName} {cc' : ByteArray} {nL' : Nat} {rt' : Option FieldType} {a0 a1 a2 a3 : Value} {Q' : Option Value → Mm → Prop} (dg : decode code pc = .ok (.invokevirtual idx, 3)) (ml : MLv RL idx y cc' nL' rt' 4) (hk : k < 88) (ht : kt k = ci) (hci : ci < 9 ∧ clR ci = y.cls) (hC : Con l g y cc' nL' rt' d' (.ref k :: [a0, a1, a2, a3]) μ Q') (hd : d' < 40) (hst : (st.map fun v => v.category).sum ≤ 8) (K : ∀ r μ', Q' r μ' → J p l e room_1 s m #[Value.ref b] below meth c Z g 4 (LX g s.heap μ') cn sn (pc + 3) lv (r.toList ++ st)) : J p l e room_1 s m #[Value.ref b] below meth c Z g 4 (LX g s.heap μ) cn sn pc lv (a3 :: a2 :: a1 :: a0 :: .ref k :: st) := L_inv C hcn hsn dg ml rfl hk ht hci hC hd hst K
theorem L_ret (C : LC p s m meth c b L xs g) (hcn : cn ≤ 600000) (hsn : sn ≤ 7302250) (dg : decode code pc = .ok (.ireturn, 1)) : J p l e room_1 s m #[Value.ref b] below meth c (lw_Z below #[Value.ref b] s) g 4 (LX g s.heap μ) cn sn pc lv [.int 1] := by
  intro H locs ls hX hl
  obtain ⟨⟨hx, hb, hr, hml, hown, hts, hX0, hbl, hlk, hgv⟩, hO, hlo, h91, hL⟩ := id C
  refine va_forget (fun q hq => hX.2.2.2 q hq) ?_
  refine W.widen (k := 600000) (n := 7302250) hcn hsn ?_
  exact lw_ret hx hb hr hlk dg
end LROWS
