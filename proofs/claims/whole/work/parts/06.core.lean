/-! Core rows of mine: contracts of methods that only read, their calls, loops and joins in a walk. -/
section ZC
variable {p : Program} {l : Launch} {e : Env} {R : Room} {s : State} {m : MethodId} {args : Array Value} {below : List Frame} {meth : Method} {c : Code} {H : Heap} {locs : List Loc} {cells slots : Nat} {Q : State → Prop} {pc : Nat} {ls : Array Slot} {rest : List Value} {cc : ByteArray}
/-- a method that answers v and leaves the heap as it was -/
def zc_Q (v : Value) : Array Value → State → Outcome → State → Prop := fun _ st o t => o = .returned (some v) ∧ t.heap = st.heap
theorem zc_callR {v : Value} {a : Array Value} {st0 : List Value} (hr : va_Run p l e R s m args below meth c H locs cells slots 0 0 (F0 m pc ls st0) rest (zc_Q v a) (fun _ => False)) (kk : W p l e R s m args below meth c H locs cells slots Q (F0 m (pc + 3) ls (v :: rest))) : W p l e R s m args below meth c H locs cells slots Q (F0 m pc ls st0) := by
  intro T hT X
  obtain ⟨v', st₀, t, T', L, h0, X', hL, e1, -, ⟨hv, hh⟩, st⟩ := hr T hT X
  cases hv
  obtain ⟨t2, a1, b1⟩ := kk T' (by rw [e1, hh, h0]) (Stand.forget X' (fun q h => (hL q h).elim))
  exact ⟨t2, st t2 a1, b1⟩
/-- the words of an ordinary call of an instance's method, out of the caller's list -/
theorem zc_V {own C : String} {index maxL mc ms : Nat} {y : MethodName} {bytes : ByteArray} {ret : Option FieldType} {Ts ws ws' : List Cond} {rm : Room} (n : Nat) (ht : ∀ w ∈ Ts, w.before args s = true) (hG : GoodIn Ts ws) (hw : ws = Cond.code y bytes maxL ret :: ws') (hrc : rm.cells = mc) (hrs : rm.slots = ms)
    (hm : ∀ w ∈ ([.methodLink own index y, .instanceMethod y, .selects C y y, .initialized y.cls] : List Cond), w ∈ Ts)
    (hd : y.cls ≠ "java/lang/invoke/MethodHandle" ∧ y.cls ≠ "java/lang/invoke/VarHandle" ∧ (parseMethodDescriptor y.desc).map (fun d => d.parameters.length) = some n) (hR : rm.frames + 1 ≤ R.frames ∧ 8 + (maxL + 11) + rm.locals ≤ R.locals) :
    CallW R s args own C index y bytes maxL ret ws rm mc ms n :=
  ⟨callB_of n ht hG hw hrc hrs (ht _ (hm _ (by simp))) (ht _ (hm _ (by simp))) hd hR, ht _ (hm _ (by simp)), ht _ (hm _ (by simp))⟩
theorem zc_S {own : String} {index maxL mc ms : Nat} {y : MethodName} {bytes : ByteArray} {ret : Option FieldType} {Ts ws ws' : List Cond} {rm : Room} (n : Nat) (ht : ∀ w ∈ Ts, w.before args s = true) (hG : GoodIn Ts ws) (hw : ws = Cond.code y bytes maxL ret :: ws') (hrc : rm.cells = mc) (hrs : rm.slots = ms)
    (hm : ∀ w ∈ ([.methodLink own index y, .static y, .initialized y.cls] : List Cond), w ∈ Ts)
    (hd : y.cls ≠ "java/lang/invoke/MethodHandle" ∧ y.cls ≠ "java/lang/invoke/VarHandle" ∧ (parseMethodDescriptor y.desc).map (fun d => d.parameters.length) = some n) (hR : rm.frames + 1 ≤ R.frames ∧ 8 + (maxL + 11) + rm.locals ≤ R.locals) :
    CallB R s args own index y bytes maxL ret ws rm mc ms n ∧ (Cond.static y).before args s = true :=
  ⟨callB_of n ht hG hw hrc hrs (ht _ (hm _ (by simp))) (ht _ (hm _ (by simp))) hd hR, ht _ (hm _ (by simp))⟩
theorem zc_I {own : String} {index maxL mc ms : Nat} {y : MethodName} {bytes : ByteArray} {Ts ws ws' : List Cond} {rm : Room} (n : Nat) (ht : ∀ w ∈ Ts, w.before args s = true) (hG : GoodIn Ts ws) (hw : ws = Cond.code y bytes maxL none :: ws') (hrc : rm.cells = mc) (hrs : rm.slots = ms)
    (hm : ∀ w ∈ ([.methodLink own index y, .instanceMethod y, .initialized y.cls] : List Cond), w ∈ Ts) (hy : y.name = "<init>")
    (hd : y.cls ≠ "java/lang/invoke/MethodHandle" ∧ y.cls ≠ "java/lang/invoke/VarHandle" ∧ (parseMethodDescriptor y.desc).map (fun d => d.parameters.length) = some n) (hR : rm.frames + 1 ≤ R.frames ∧ 8 + (maxL + 11) + rm.locals ≤ R.locals) :
    CallB R s args own index y bytes maxL none ws rm mc ms n ∧ y.name = "<init>" ∧ (Cond.instanceMethod y).before args s = true :=
  ⟨callB_of n ht hG hw hrc hrs (ht _ (hm _ (by simp))) (ht _ (hm _ (by simp))) hd hR, hy, ht _ (hm _ (by simp))⟩
/-- the number on top, said otherwise -/
theorem zc_ti {x y : Int32} (h : x = y) (k : W p l e R s m args below meth c H locs cells slots Q (F0 m pc ls (.int y :: rest))) : W p l e R s m args below meth c H locs cells slots Q (F0 m pc ls (.int x :: rest)) := by rw [h]; exact k
theorem zc_tl {x y : Int64} (h : x = y) (k : W p l e R s m args below meth c H locs cells slots Q (F0 m pc ls (.long y :: rest))) : W p l e R s m args below meth c H locs cells slots Q (F0 m pc ls (.long x :: rest)) := by rw [h]; exact k
/-- a join: what stands behind it is walked once -/
theorem zc_cut {g g' : JFrame} (k1 : W p l e R s m args below meth c H locs cells slots Q g') (k2 : W p l e R s m args below meth c H locs cells slots Q g' → W p l e R s m args below meth c H locs cells slots Q g) : W p l e R s m args below meth c H locs cells slots Q g := k2 k1
/-- a join behind which the heap may be another one -/
theorem zc_cutH {g : JFrame} (J : Heap → List Loc → Array Slot → Prop) {pcJ : Nat} {stJ : List Value} (k1 : ∀ (H1 : Heap) (locs1 : List Loc) (ls1 : Array Slot), J H1 locs1 ls1 → W p l e R s m args below meth c H1 locs1 cells slots Q (F0 m pcJ ls1 stJ)) (k2 : (∀ (H1 : Heap) (locs1 : List Loc) (ls1 : Array Slot), J H1 locs1 ls1 → W p l e R s m args below meth c H1 locs1 cells slots Q (F0 m pcJ ls1 stJ)) → W p l e R s m args below meth c H locs cells slots Q g) : W p l e R s m args below meth c H locs cells slots Q g := k2 k1
/-- a loop that writes nothing -/
theorem zc_loop {α : Type} (Inv : α → Array Slot → Prop) (μ : α → Nat) (x : α) (hi : Inv x ls) (step : ∀ (x : α) (ls : Array Slot), Inv x ls → (∀ (y : α) (ls' : Array Slot), μ y < μ x → Inv y ls' → W p l e R s m args below meth c H locs cells slots Q (F0 m pc ls' [])) → W p l e R s m args below meth c H locs cells slots Q (F0 m pc ls [])) : W p l e R s m args below meth c H locs cells slots Q (F0 m pc ls []) := by
  have key : ∀ (n : Nat) (x : α) (ls : Array Slot), μ x < n → Inv x ls → W p l e R s m args below meth c H locs cells slots Q (F0 m pc ls []) := by
    intro n
    induction n with
    | zero => intro x ls h; exact absurd h (Nat.not_lt_zero _)
    | succ n ih => intro x ls h hI; exact step x ls hI (fun y ls' hy hI' => ih y ls' (by omega) hI')
  exact key (μ x + 1) x ls (Nat.lt_succ_self _) hi
/-- a loop that writes -/
theorem zc_loopH {α : Type} (Inv : α → Heap → List Loc → Array Slot → Prop) (μ : α → Nat) (x : α) (hi : Inv x H locs ls) (step : ∀ (x : α) (H : Heap) (locs : List Loc) (ls : Array Slot), Inv x H locs ls → (∀ (y : α) (H' : Heap) (locs' : List Loc) (ls' : Array Slot), μ y < μ x → Inv y H' locs' ls' → W p l e R s m args below meth c H' locs' cells slots Q (F0 m pc ls' [])) → W p l e R s m args below meth c H locs cells slots Q (F0 m pc ls [])) : W p l e R s m args below meth c H locs cells slots Q (F0 m pc ls []) := by
  have key : ∀ (n : Nat) (x : α) (H : Heap) (locs : List Loc) (ls : Array Slot), μ x < n → Inv x H locs ls → W p l e R s m args below meth c H locs cells slots Q (F0 m pc ls []) := by
    intro n
    induction n with
    | zero => intro x H locs ls h; exact absurd h (Nat.not_lt_zero _)
    | succ n ih => intro x H locs ls h hI; exact step x H locs ls hI (fun y H' locs' ls' hy hI' => ih y H' locs' ls' (by omega) hI')
  exact key (μ x + 1) x H locs ls (Nat.lt_succ_self _) hi
variable {D : va_G} {cl : List vw_C} {tys : List (ClassId × FieldType)} {ws : va_W} {A : Nat → Prop} {H0 : Heap} {a : Nat}
/-- array reads and writes at a place that is a counted number -/
theorem zc_iald (hexec : p.tables.exec = Jvm.exec) (hb : c.code = cc) (hK : va_K D cl tys s) (hP : va_P D cl ws H) (q0 t0 : Nat) {cA : ClassId} {n : Nat} {f : Nat → Int32} (ha : ws[q0]? = some (a, .inl (cA, n, .inl f))) (ht : tys[t0]? = some (cA, .int)) {i : Int32} (k : Nat) (hi : i = nI k) (hk : k < n) (hn : n < 2 ^ 31) (hdg : decode cc pc = .ok (.iaload, 1))
    (kk : W p l e R s m args below meth c H locs cells slots Q (F0 m (pc + 1) ls (.int (f k) :: rest))) : W p l e R s m args below meth c H locs cells slots Q (F0 m pc ls (.int i :: .ref a :: rest)) := by
  subst hi
  refine va_iald hexec hb hK hP q0 t0 ha ht (vp_in_nI hk hn) hdg ?_
  rw [nI_clamp (Nat.lt_trans hk hn)]; exact kk
theorem zc_zald (hexec : p.tables.exec = Jvm.exec) (hb : c.code = cc) (hK : va_K D cl tys s) (hP : va_P D cl ws H) (q0 t0 : Nat) {cA : ClassId} {n : Nat} {f : Nat → Int32} (ha : ws[q0]? = some (a, .inl (cA, n, .inl f))) (ht : tys[t0]? = some (cA, .boolean)) {i : Int32} (k : Nat) (hi : i = nI k) (hk : k < n) (hn : n < 2 ^ 31) (hdg : decode cc pc = .ok (.baload, 1))
    (kk : W p l e R s m args below meth c H locs cells slots Q (F0 m (pc + 1) ls (.int (f k) :: rest))) : W p l e R s m args below meth c H locs cells slots Q (F0 m pc ls (.int i :: .ref a :: rest)) := by
  subst hi
  refine va_zald hexec hb hK hP q0 t0 ha ht (vp_in_nI hk hn) hdg ?_
  rw [nI_clamp (Nat.lt_trans hk hn)]; exact kk
theorem zc_lald (hexec : p.tables.exec = Jvm.exec) (hb : c.code = cc) (hK : va_K D cl tys s) (hP : va_P D cl ws H) (q0 t0 : Nat) {cA : ClassId} {n : Nat} {f : Nat → Int64} (ha : ws[q0]? = some (a, .inl (cA, n, .inr (.inl f)))) (ht : tys[t0]? = some (cA, .long)) {i : Int32} (k : Nat) (hi : i = nI k) (hk : k < n) (hn : n < 2 ^ 31) (hdg : decode cc pc = .ok (.laload, 1))
    (kk : W p l e R s m args below meth c H locs cells slots Q (F0 m (pc + 1) ls (.long (f k) :: rest))) : W p l e R s m args below meth c H locs cells slots Q (F0 m pc ls (.int i :: .ref a :: rest)) := by
  subst hi
  refine va_lald hexec hb hK hP q0 t0 ha ht (vp_in_nI hk hn) hdg ?_
  rw [nI_clamp (Nat.lt_trans hk hn)]; exact kk
theorem zc_iast (hexec : p.tables.exec = Jvm.exec) (hb : c.code = cc) (hK : va_K D cl tys s) (hP : va_P D cl ws H) (hD : va_D A ws) (hS : va_S A H0 H locs) (q0 t0 : Nat) {cA : ClassId} {n : Nat} {f : Nat → Int32} (ha : ws[q0]? = some (a, .inl (cA, n, .inl f))) (ht : tys[t0]? = some (cA, .int)) {i : Int32} {x : Int32} (k : Nat) (hi : i = nI k) (hk : k < n) (hn : n < 2 ^ 31) (hdg : decode cc pc = .ok (.iastore, 1))
    (kk : ∀ (H1 : Heap) (locs1 : List Loc), va_P D cl (ws.set q0 (a, .inl (cA, n, .inl (upd f k x)))) H1 → va_D A (ws.set q0 (a, .inl (cA, n, .inl (upd f k x)))) → va_S A H0 H1 locs1 → W p l e R s m args below meth c H1 locs1 cells slots Q (F0 m (pc + 1) ls rest)) : W p l e R s m args below meth c H locs cells slots Q (F0 m pc ls (.int x :: .int i :: .ref a :: rest)) := by
  subst hi
  refine va_iast hexec hb hK hP hD hS q0 t0 ha ht (vp_in_nI hk hn) hdg ?_
  rw [nI_clamp (Nat.lt_trans hk hn)]; exact kk
theorem zc_zast (hexec : p.tables.exec = Jvm.exec) (hb : c.code = cc) (hK : va_K D cl tys s) (hP : va_P D cl ws H) (hD : va_D A ws) (hS : va_S A H0 H locs) (q0 t0 : Nat) {cA : ClassId} {n : Nat} {f : Nat → Int32} (ha : ws[q0]? = some (a, .inl (cA, n, .inl f))) (ht : tys[t0]? = some (cA, .boolean)) {i : Int32} {x : Int32} (k : Nat) (hi : i = nI k) (hk : k < n) (hn : n < 2 ^ 31) (hx : vp_nar .boolean x = x) (hdg : decode cc pc = .ok (.bastore, 1))
    (kk : ∀ (H1 : Heap) (locs1 : List Loc), va_P D cl (ws.set q0 (a, .inl (cA, n, .inl (upd f k x)))) H1 → va_D A (ws.set q0 (a, .inl (cA, n, .inl (upd f k x)))) → va_S A H0 H1 locs1 → W p l e R s m args below meth c H1 locs1 cells slots Q (F0 m (pc + 1) ls rest)) : W p l e R s m args below meth c H locs cells slots Q (F0 m pc ls (.int x :: .int i :: .ref a :: rest)) := by
  subst hi
  refine va_zast hexec hb hK hP hD hS q0 t0 ha ht (vp_in_nI hk hn) hdg ?_
  rw [nI_clamp (Nat.lt_trans hk hn), hx]; exact kk
theorem zc_last (hexec : p.tables.exec = Jvm.exec) (hb : c.code = cc) (hK : va_K D cl tys s) (hP : va_P D cl ws H) (hD : va_D A ws) (hS : va_S A H0 H locs) (q0 t0 : Nat) {cA : ClassId} {n : Nat} {f : Nat → Int64} (ha : ws[q0]? = some (a, .inl (cA, n, .inr (.inl f)))) (ht : tys[t0]? = some (cA, .long)) {i : Int32} {x : Int64} (k : Nat) (hi : i = nI k) (hk : k < n) (hn : n < 2 ^ 31) (hdg : decode cc pc = .ok (.lastore, 1))
    (kk : ∀ (H1 : Heap) (locs1 : List Loc), va_P D cl (ws.set q0 (a, .inl (cA, n, .inr (.inl (vp_updL f k x))))) H1 → va_D A (ws.set q0 (a, .inl (cA, n, .inr (.inl (vp_updL f k x))))) → va_S A H0 H1 locs1 → W p l e R s m args below meth c H1 locs1 cells slots Q (F0 m (pc + 1) ls rest)) : W p l e R s m args below meth c H locs cells slots Q (F0 m pc ls (.long x :: .int i :: .ref a :: rest)) := by
  subst hi
  refine va_last hexec hb hK hP hD hS q0 t0 ha ht (vp_in_nI hk hn) hdg ?_
  rw [nI_clamp (Nat.lt_trans hk hn)]; exact kk
end ZC
/-- the array classes of ints, booleans and longs, everywhere in this order -/
abbrev zc_T (cI cZ cJ : ClassId) : List (ClassId × FieldType) := [(cI, .int), (cZ, .boolean), (cJ, .long)]
/-- the start of a contract that only reads -/
abbrev zc_P (av : List Value) (D : va_G) (T : List (ClassId × FieldType)) (ws : va_W) : Array Value → State → Prop := va_Pc av (fun U => va_P D vwCl ws U.heap ∧ va_K D vwCl T U)
theorem zc_blind {av : List Value} {D : va_G} {T : List (ClassId × FieldType)} {ws : va_W} : FrameBlind (zc_P av D T ws) := fun a U g mk q => by
  obtain ⟨q0, qP, qK⟩ := q
  exact ⟨q0, qP, va_K.moved (u := U) (U := U.calling g mk a) (Vm.Alike.refl U.vm) qK⟩
theorem zc_pay {s : State} {H : Heap} {av : List Value} {D : va_G} {T : List (ClassId × FieldType)} {ws : va_W} (hP : va_P D vwCl ws H) (hK : va_K D vwCl T s) : ∀ U : State, U.heap = H → s.WarmedH U.vm → zc_P av D T ws av.toArray U := fun U hU hW => ⟨rfl, by rw [hU]; exact hP, va_K.moved hW.alike hK⟩
/-- the start and end of a contract that writes into the cells ws and makes nothing -/
abbrev zc_PW (av : List Value) (D : va_G) (T : List (ClassId × FieldType)) (ws : va_W) (sz : Nat) : Array Value → State → Prop := va_Pc av (fun U => U.heap.size = sz ∧ va_P D vwCl ws U.heap ∧ va_K D vwCl T U ∧ va_D (fun _ => True) ws)
abbrev zc_B (D : va_G) (T : List (ClassId × FieldType)) (A : Nat → Prop) (ws : va_W) (t : State) : Prop := va_P D vwCl ws t.heap ∧ va_K D vwCl T t ∧ va_D A ws
theorem zc_blindW {av : List Value} {D : va_G} {T : List (ClassId × FieldType)} {ws : va_W} {sz : Nat} : FrameBlind (zc_PW av D T ws sz) := fun a U g mk q => by
  obtain ⟨q0, q1, qP, qK, qD⟩ := q
  exact ⟨q0, q1, qP, va_K.moved (u := U) (U := U.calling g mk a) (Vm.Alike.refl U.vm) qK, qD⟩
theorem zc_payW {s : State} {H : Heap} {av : List Value} {A : Nat → Prop} {D : va_G} {T : List (ClassId × FieldType)} {ws : va_W} (hP : va_P D vwCl ws H) (hK : va_K D vwCl T s) (hD : va_D A ws) : ∀ U : State, U.heap = H → s.WarmedH U.vm → zc_PW av D T ws H.size av.toArray U := fun U hU hW => ⟨rfl, by rw [hU], by rw [hU]; exact hP, va_K.moved hW.alike hK, hD.weaken (fun _ _ _ _ => trivial)⟩

theorem zn_le {a b : Nat} (h : nI a ≤ nI b) (ha : a < 2 ^ 31) (hb : b < 2 ^ 31) : a ≤ b := (nI_leI ha hb).mp h
theorem zn_nle {a b : Nat} (h : ¬ nI a ≤ nI b) (ha : a < 2 ^ 31) (hb : b < 2 ^ 31) : b < a := Nat.lt_of_not_le (fun q => h ((nI_leI ha hb).mpr q))
theorem zn_lt {a b : Nat} (h : nI a < nI b) (ha : a < 2 ^ 31) (hb : b < 2 ^ 31) : a < b := (nI_ltI ha hb).mp h
theorem zn_nlt {a b : Nat} (h : ¬ nI a < nI b) (ha : a < 2 ^ 31) (hb : b < 2 ^ 31) : b ≤ a := Nat.le_of_not_lt (fun q => h ((nI_ltI ha hb).mpr q))
theorem zn_eq {a b : Nat} (h : nI a = nI b) (ha : a < 2 ^ 31) (hb : b < 2 ^ 31) : a = b := (nI_eq ha hb).mp h
theorem zn_ne {a b : Nat} (h : ¬ nI a = nI b) (ha : a < 2 ^ 31) (hb : b < 2 ^ 31) : a ≠ b := fun q => h ((nI_eq ha hb).mpr q)
theorem zn_ix {i : Int32} {n : Nat} (h0 : ¬ i < 0) (h1 : ¬ nI n ≤ i) (hn : n < 2 ^ 31) : i = nI i.toNatClampNeg ∧ i.toNatClampNeg < n := by
  rcases pk_ix i hn with h | h | ⟨j, hj, rfl⟩
  · exact absurd h h0
  · exact absurd h h1
  · rw [nI_clamp (Nat.lt_trans hj hn)]; exact ⟨rfl, hj⟩
theorem zn_max0 {k : Nat} (h : k < 2 ^ 31) : (if (0 : Int32) < nI k then nI k else 0) = nI k := by
  by_cases h1 : (0 : Int32) < nI k
  · rw [if_pos h1]
  · rw [if_neg h1]
    rcases Nat.eq_zero_or_pos k with rfl | hk
    · exact nI_0.symm
    · exact absurd ((nI_0 ▸ nI_lt hk h) : (0 : Int32) < nI k) h1
theorem zn_pred {a : Nat} (h : 0 < a) : nI a - 1 = nI (a - 1) := by
  obtain ⟨b, rfl⟩ : ∃ b, a = b + 1 := ⟨a - 1, by omega⟩
  rw [nI_pred, Nat.add_sub_cancel]
theorem zn_dec {a : Nat} (h : 0 < a) : nI a - 1 + Int32.ofInt (-1) = nI (a - 1) - 1 := by
  rw [zn_pred h, Int32.sub_eq_add_neg]
  rfl
theorem zn_predlt {a b : Nat} (h : nI a - 1 < nI b) (ha : a < 2 ^ 31) (hb : b < 2 ^ 31) : a ≤ b := by
  rcases Nat.eq_zero_or_pos a with rfl | h0
  · exact Nat.zero_le _
  · rw [zn_pred h0] at h
    have := zn_lt h (by omega) hb
    omega
theorem zn_npredlt {a b : Nat} (h : ¬ nI a - 1 < nI b) (ha : a < 2 ^ 31) (hb : b < 2 ^ 31) : b < a := by
  rcases Nat.eq_zero_or_pos a with rfl | h0
  · refine absurd ?_ h
    have h1 : (nI 0 - 1 : Int32) = -1 := by decide
    rw [h1]
    have h2 : (0 : Int32) ≤ nI b := nI_pos' hb
    rw [Int32.lt_iff_toInt_lt]
    rw [Int32.le_iff_toInt_le] at h2
    have h3 : (-1 : Int32).toInt = -1 := by decide
    have h4 : (0 : Int32).toInt = 0 := by decide
    omega
  · rw [zn_pred h0] at h
    have := zn_nlt h (by omega) hb
    omega
/-- a choice by a proposition, and its number -/
noncomputable def zi {α : Type} (P : Prop) (a b : α) : α := @ite α P (Classical.propDecidable P) a b
theorem zi_t {α : Type} {P : Prop} {a b : α} (h : P) : zi P a b = a := by unfold zi; exact if_pos h
theorem zi_f {α : Type} {P : Prop} {a b : α} (h : ¬ P) : zi P a b = b := by unfold zi; exact if_neg h
noncomputable def zb (P : Prop) : Int32 := zi P 1 0
theorem zb_t {P : Prop} (h : P) : zb P = 1 := zi_t h
theorem zb_f {P : Prop} (h : ¬ P) : zb P = 0 := zi_f h
theorem zb_0 {P : Prop} (h : zb P = 0) : ¬ P := fun q => by rw [zb_t q] at h; exact absurd h (by decide)
theorem zb_1 {P : Prop} (h : ¬ zb P = 0) : P := Classical.byContradiction (fun q => h (zb_f q))
theorem zb_or (P : Prop) : zb P = 0 ∨ zb P = 1 := (Classical.em P).elim (fun h => Or.inr (zb_t h)) (fun h => Or.inl (zb_f h))
theorem zb_nar (P : Prop) : vp_nar .boolean (zb P) = zb P := by rcases zb_or P with h | h <;> rw [h] <;> rfl
theorem zb_congr {P Q : Prop} (h : P ↔ Q) : zb P = zb Q := by rw [propext h]
/-- the body of a method whose class's name isn't a plain one, but no native stands for the method itself -/
theorem zc_ofW {l : Launch} {y : MethodName} {ws ws' : List Cond} {rm : Room} {Pc : Array Value → State → Prop} {Qc : Array Value → State → Outcome → State → Prop} {mc ms : Nat} {free : Addr → Prop} {cc : ByteArray} {maxL : Nat} {ret : Option FieldType}
    (hy : plainFor y = true) (hw : ws = Cond.code y cc maxL ret :: ws')
    (body : ∀ p e s m args below meth c s₁, BodyLoose p l y (headSpec ws rm) cc maxL ret e s m args below meth c s₁ → c.maxLocals = maxL → Pc args s →
      W p l e (headSpec ws rm).room s m args below meth c s.heap [] 0 0 (MQ below Qc args s mc ms free) (entryFrame m args maxL)) : Met l y ws rm Pc Qc mc ms free := by
  unfold Met
  refine MetFree.of_bodySF (code := cc) (maxLocals := maxL) (ret := ret) hy ?_ ?_
  · intro args s m h hn
    obtain ⟨meth, c, h1, h2, h3, h4, h5, h6, -, -⟩ := Cond.code_spec hn (atoms_spec (ws := ws) h _ (by rw [hw]; exact List.mem_cons_self))
    exact ⟨meth, c, h1, h2, h3, h4, h5, h6⟩
  · intro p e s m args below meth c s₁ B hml hP _
    obtain ⟨t, a1, o, b1, b2, b3⟩ := body p e s m args below meth c s₁ B hml hP s₁ (by rw [B.state]; rfl) (Stand.of_body B)
    exact ⟨t, o, a1, b1, b2, ⟨b3.1, b3.2⟩⟩
/-- the frame doesn't matter to what a contract asks, with words on the nest beside it -/
theorem zc_blindN {av : List Value} {D : va_G} {T : List (ClassId × FieldType)} {ws : va_W} {w : Cond} (hw : w.onTables = true) : FrameBlind (va_Pc av (fun U => va_P D vwCl ws U.heap ∧ va_K D vwCl T U ∧ va_Nw w U)) := fun a U g mk q => by
  obtain ⟨q0, qP, qK, qN⟩ := q
  exact ⟨q0, qP, va_K.moved (u := U) (U := U.calling g mk a) (Vm.Alike.refl U.vm) qK, va_Nw.same hw (u := U) (U := U.calling g mk a) rfl qN⟩
theorem zc_blindWN {av : List Value} {D : va_G} {T : List (ClassId × FieldType)} {ws : va_W} {sz : Nat} {w : Cond} (hw : w.onTables = true) : FrameBlind (va_Pc av (fun U => U.heap.size = sz ∧ va_P D vwCl ws U.heap ∧ va_K D vwCl T U ∧ va_D (fun _ => True) ws ∧ va_Nw w U)) := fun a U g mk q => by
  obtain ⟨q0, q1, qP, qK, qD, qN⟩ := q
  exact ⟨q0, q1, qP, va_K.moved (u := U) (U := U.calling g mk a) (Vm.Alike.refl U.vm) qK, qD, va_Nw.same hw (u := U) (U := U.calling g mk a) rfl qN⟩
