/-! Fields: n of six fields, their prefixes p, digits g, numbers v. Prefixes: a table of 100 places. -/
def zp_is (p : Int32) : Prop := ¬ p < 10 ∧ ¬ 99 < p
def zp_has (L : Nat → Int32) (p : Int32) : Prop := ¬ p < 10 ∧ ¬ 99 < p ∧ ¬ L p.toNatClampNeg ≤ 0
theorem zp_ix {p : Int32} (h1 : ¬ p < 10) (h2 : ¬ 99 < p) : p = nI p.toNatClampNeg ∧ p.toNatClampNeg < 100 ∧ 10 ≤ p.toNatClampNeg := by
  have h0 : ¬ p < 0 := fun q => h1 (by rw [Int32.lt_iff_toInt_lt] at q ⊢; have : (0 : Int32).toInt = 0 := by decide
                                       have : (10 : Int32).toInt = 10 := by decide
                                       omega)
  have h3 : ¬ nI 100 ≤ p := fun q => h2 (by
    have h5 : nI 100 ≤ p := q
    rw [Int32.le_iff_toInt_le] at h5
    rw [Int32.lt_iff_toInt_lt]
    have : (nI 100).toInt = 100 := by decide
    have : (99 : Int32).toInt = 99 := by decide
    omega)
  obtain ⟨e1, e2⟩ := zn_ix h0 h3 (by decide)
  refine ⟨e1, e2, ?_⟩
  rw [e1] at h1
  exact zn_nlt (a := p.toNatClampNeg) (b := 10) h1 (by omega) (by decide)
theorem zp_hasN {L : Nat → Int32} {k : Nat} (h1 : 10 ≤ k) (h2 : k ≤ 99) : zp_has L (nI k) ↔ ¬ L k ≤ 0 := by
  have e : (nI k).toNatClampNeg = k := nI_clamp (by omega)
  have a1 : ¬ nI k < 10 := nI_nlt (b := 10) h1 (by omega)
  have a2 : ¬ 99 < nI k := nI_nlt (a := 99) h2 (by decide)
  simp [zp_has, e, a1, a2]
theorem zp_isN {k : Nat} (h1 : 10 ≤ k) (h2 : k ≤ 99) : zp_is (nI k) := ⟨nI_nlt (b := 10) h1 (by omega), nI_nlt (a := 99) h2 (by decide)⟩
/-- one of the first n is x -/
def zf_has (p : Nat → Int32) (n : Nat) (x : Int32) : Prop := ∃ j, j < n ∧ p j = x
/-- two numbers differ in one digit just -/
def zp_one (a b : Int32) : Prop := ¬ ((a / 10 = b / 10) ↔ (a - a / 10 * 10 = b - b / 10 * 10))
def zp_lets (L F : Nat → Int32) (k : Nat) (d : Int32) : Prop := (¬ F k = 0 ∧ d = L k) ∨ (F k = 0 ∧ d ≤ L k)
/-- the i-th of the places from p on that are known and near, i0 of them before -/
noncomputable def zp_near (L : Nat → Int32) (u i : Int32) : Nat → Nat → Int32 → Int32
  | 0, _, _ => -1
  | k + 1, p, b => zi (zp_has L (nI p) ∧ zp_one (nI p) u) (zi (b = i) (nI p) (zp_near L u i k (p + 1) (b + 1))) (zp_near L u i k (p + 1) b)

set_option maxHeartbeats 4000000 in
set_option maxRecDepth 100000 in
theorem c_X1_size (l : Launch) (dC : Nat → ClassId) (dI : Nat → Nat → Nat) (cI cZ cJ : ClassId) (h : Nat) (ap : Nat) (ag : Nat) (av : Nat) (n : Nat) (fp : Nat → Int32) (fg : Nat → Int32) (fv : Nat → Int64) : Met l yX1_size wsX1_size ({ frames := 0, cells := 0, slots := 0, locals := 0 }) (zc_P [.ref h] (dC, dI) (zc_T cI cZ cJ) [(h, .inr (2, [.ref ap, .ref ag, .ref av, .int (nI n)])), (ap, .inl (cI, 6, .inl fp)), (ag, .inl (cI, 6, .inl fg)), (av, .inl (cJ, 6, .inr (.inl fv)))]) (zc_Q (.int (nI n))) 0 0 (fun _ => False) := by
  refine Met.ofW (cc := cX1_size) (maxL := 1) (ret := (some .int)) (by decide) rfl ?_
  intro p e s m args below meth c s₁ B hml hv
  obtain ⟨rfl, hP, hK⟩ := hv
  have hx := B.exec
  have hb := B.bytes
  have hr := B.returns
  have hts := atoms_spec (ws := wsX1_size) B.pre
  have hown : s.vm.findClass RX1 = some m.cls := findClass_of_methodNamed B.named
  have hlocks := B.notSynchronized
  have hinX1 : ∀ w ∈ wsX10, w ∈ wsX1_size := by decide +kernel
  have hl := lv_entry ([.ref h]) (n := 1) (Nat.le_of_ble_eq_true rfl)
  rw [lg_entry_eq]
  generalize (lg_sl ([.ref h]) ++ List.replicate (1 - (lg_sl ([.ref h])).length) Slot.unset).toArray = ls at hl ⊢
  have hl : lv_has ls 1 [(0, .ref h)] := hl
  refine lv_aload_n hx hb dX1_size_0 rfl (lv_at hl 0 rfl) ?_
  refine va_get (D := (dC, dI)) (ci := 2) (v := .int (nI n)) (C := RX1) (T := TX1) (N := 4) hx hb hts hinX1 hown hK hP 0 rfl rfl 3 (by decide) (hts (.fieldLink RX1 22 "ScanCodes$Fields" "size" "I") (by decide +kernel)) (fun _ h9 => h9) rfl dX1_size_1 ?_
  have hres : (nI n) = nI n := by rfl
  exact W.iret (v := nI n) hx hb hr (fun t ht _ => ⟨congrArg (fun z => Outcome.returned (some (Value.int z))) hres, ht⟩) (fun _ h => nomatch h) dX1_size_4
set_option maxHeartbeats 4000000 in
set_option maxRecDepth 100000 in
theorem c_X1_empty (l : Launch) (dC : Nat → ClassId) (dI : Nat → Nat → Nat) (cI cZ cJ : ClassId) (h : Nat) (ap : Nat) (ag : Nat) (av : Nat) (n : Nat) (fp : Nat → Int32) (fg : Nat → Int32) (fv : Nat → Int64) (sz : Nat) : Met l yX1_empty wsX1_empty ({ frames := 0, cells := 0, slots := 0, locals := 0 }) (zc_PW [.ref h] (dC, dI) (zc_T cI cZ cJ) [(h, .inr (2, [.ref ap, .ref ag, .ref av, .int (nI n)])), (ap, .inl (cI, 6, .inl fp)), (ag, .inl (cI, 6, .inl fg)), (av, .inl (cJ, 6, .inr (.inl fv)))] sz) (va_Qv (fun _ : Unit => True) (fun _ t => zc_B (dC, dI) (zc_T cI cZ cJ) (va_A [(h, .inr (2, [.ref ap, .ref ag, .ref av, .int (nI n)])), (ap, .inl (cI, 6, .inl fp)), (ag, .inl (cI, 6, .inl fg)), (av, .inl (cJ, 6, .inr (.inl fv)))] sz) [(h, .inr (2, [.ref ap, .ref ag, .ref av, .int (nI 0)])), (ap, .inl (cI, 6, .inl fp)), (ag, .inl (cI, 6, .inl fg)), (av, .inl (cJ, 6, .inr (.inl fv)))] t) (va_A [(h, .inr (2, [.ref ap, .ref ag, .ref av, .int (nI n)])), (ap, .inl (cI, 6, .inl fp)), (ag, .inl (cI, 6, .inl fg)), (av, .inl (cJ, 6, .inr (.inl fv)))] sz)) 0 0 (va_A [(h, .inr (2, [.ref ap, .ref ag, .ref av, .int (nI n)])), (ap, .inl (cI, 6, .inl fp)), (ag, .inl (cI, 6, .inl fg)), (av, .inl (cJ, 6, .inr (.inl fv)))] sz) := by
  refine Met.ofW (cc := cX1_empty) (maxL := 1) (ret := none) (by decide) rfl ?_
  intro p e s m args below meth c s₁ B hml hv
  obtain ⟨rfl, hsz, hP, hK, hD0⟩ := hv
  have hx := B.exec
  have hb := B.bytes
  have hr := B.returns
  have hts := atoms_spec (ws := wsX1_empty) B.pre
  have hown : s.vm.findClass RX1 = some m.cls := findClass_of_methodNamed B.named
  have hlocks := B.notSynchronized
  subst hsz
  have hD := hD0.self (sz := s.heap.size)
  generalize hAe : va_A [(h, .inr (2, [.ref ap, .ref ag, .ref av, .int (nI n)])), (ap, .inl (cI, 6, .inl fp)), (ag, .inl (cI, 6, .inl fg)), (av, .inl (cJ, 6, .inr (.inl fv)))] s.heap.size = A at hD ⊢
  have hA : ∀ q : Nat, s.heap.size ≤ q → A q := fun q h => by rw [← hAe]; exact Or.inr h
  have hS : va_S A s.heap s.heap [] := va_S.rf
  have hinX1 : ∀ w ∈ wsX10, w ∈ wsX1_empty := by decide +kernel
  have hl := lv_entry ([.ref h]) (n := 1) (Nat.le_of_ble_eq_true rfl)
  rw [lg_entry_eq]
  generalize (lg_sl ([.ref h]) ++ List.replicate (1 - (lg_sl ([.ref h])).length) Slot.unset).toArray = ls at hl ⊢
  have hl : lv_has ls 1 [(0, .ref h)] := hl
  refine lv_aload_n hx hb dX1_empty_0 rfl (lv_at hl 0 rfl) ?_
  refine lv_iconst (v := 0) hx hb dX1_empty_1 (by decide) ?_
  refine va_put (D := (dC, dI)) (ci := 2) (v := .int 0) (ty := .int) (C := RX1) (T := TX1) (N := 4) hx hb hts hinX1 tyX1 tyX1_ok nmX1 hown hK hP hD hS 0 rfl rfl 3 (by decide) (hts (.fieldLink RX1 22 "ScanCodes$Fields" "size" "I") (by decide +kernel)) (fun _ h9 => h9) rfl (by decide +kernel) rfl rfl (Nat.le_of_ble_eq_true rfl) dX1_empty_2 (fun H locs hP hD hS => ?_)
  have hP : va_P (dC, dI) vwCl [(h, .inr (2, [.ref ap, .ref ag, .ref av, .int 0])), (ap, .inl (cI, 6, .inl fp)), (ag, .inl (cI, 6, .inl fg)), (av, .inl (cJ, 6, .inr (.inl fv)))] H := hP
  have hD : va_D A [(h, .inr (2, [.ref ap, .ref ag, .ref av, .int 0])), (ap, .inl (cI, 6, .inl fp)), (ag, .inl (cI, 6, .inl fg)), (av, .inl (cJ, 6, .inr (.inl fv)))] := hD
  have hP9 : va_P (dC, dI) vwCl [(h, .inr (2, [.ref ap, .ref ag, .ref av, .int (nI 0)])), (ap, .inl (cI, 6, .inl fp)), (ag, .inl (cI, 6, .inl fg)), (av, .inl (cJ, 6, .inr (.inl fv)))] H := hP
  have hD9 : va_D A [(h, .inr (2, [.ref ap, .ref ag, .ref av, .int (nI 0)])), (ap, .inl (cI, 6, .inl fp)), (ag, .inl (cI, 6, .inl fg)), (av, .inl (cJ, 6, .inr (.inl fv)))] := hD
  exact W.vret hx hb hr (fun t ht hW => ⟨⟨(), rfl, trivial, by rw [ht]; exact hP9, va_K.moved hW.alike hK, hD9⟩, hS.F ht⟩) hS.2.2 dX1_empty_5
set_option maxHeartbeats 4000000 in
set_option maxRecDepth 100000 in
theorem c_X1_add (l : Launch) (dC : Nat → ClassId) (dI : Nat → Nat → Nat) (cI cZ cJ : ClassId) (h : Nat) (ap : Nat) (ag : Nat) (av : Nat) (n : Nat) (fp : Nat → Int32) (fg : Nat → Int32) (fv : Nat → Int64) (x : Int32) (d : Int32) (y : Int64) (hn : n < 6) (sz : Nat) : Met l yX1_add wsX1_add ({ frames := 0, cells := 0, slots := 0, locals := 0 }) (zc_PW [.ref h, .int x, .int d, .long y] (dC, dI) (zc_T cI cZ cJ) [(h, .inr (2, [.ref ap, .ref ag, .ref av, .int (nI n)])), (ap, .inl (cI, 6, .inl fp)), (ag, .inl (cI, 6, .inl fg)), (av, .inl (cJ, 6, .inr (.inl fv)))] sz) (va_Qv (fun _ : Unit => True) (fun _ t => zc_B (dC, dI) (zc_T cI cZ cJ) (va_A [(h, .inr (2, [.ref ap, .ref ag, .ref av, .int (nI n)])), (ap, .inl (cI, 6, .inl fp)), (ag, .inl (cI, 6, .inl fg)), (av, .inl (cJ, 6, .inr (.inl fv)))] sz) [(h, .inr (2, [.ref ap, .ref ag, .ref av, .int (nI (n + 1))])), (ap, .inl (cI, 6, .inl (upd fp n x))), (ag, .inl (cI, 6, .inl (upd fg n d))), (av, .inl (cJ, 6, .inr (.inl (vp_updL fv n y))))] t) (va_A [(h, .inr (2, [.ref ap, .ref ag, .ref av, .int (nI n)])), (ap, .inl (cI, 6, .inl fp)), (ag, .inl (cI, 6, .inl fg)), (av, .inl (cJ, 6, .inr (.inl fv)))] sz)) 0 0 (va_A [(h, .inr (2, [.ref ap, .ref ag, .ref av, .int (nI n)])), (ap, .inl (cI, 6, .inl fp)), (ag, .inl (cI, 6, .inl fg)), (av, .inl (cJ, 6, .inr (.inl fv)))] sz) := by
  refine Met.ofW (cc := cX1_add) (maxL := 5) (ret := none) (by decide) rfl ?_
  intro p e s m args below meth c s₁ B hml hv
  obtain ⟨rfl, hsz, hP, hK, hD0⟩ := hv
  have hx := B.exec
  have hb := B.bytes
  have hr := B.returns
  have hts := atoms_spec (ws := wsX1_add) B.pre
  have hown : s.vm.findClass RX1 = some m.cls := findClass_of_methodNamed B.named
  have hlocks := B.notSynchronized
  subst hsz
  have hD := hD0.self (sz := s.heap.size)
  generalize hAe : va_A [(h, .inr (2, [.ref ap, .ref ag, .ref av, .int (nI n)])), (ap, .inl (cI, 6, .inl fp)), (ag, .inl (cI, 6, .inl fg)), (av, .inl (cJ, 6, .inr (.inl fv)))] s.heap.size = A at hD ⊢
  have hA : ∀ q : Nat, s.heap.size ≤ q → A q := fun q h => by rw [← hAe]; exact Or.inr h
  have hS : va_S A s.heap s.heap [] := va_S.rf
  have hinX1 : ∀ w ∈ wsX10, w ∈ wsX1_add := by decide +kernel
  have hl := lv_entry ([.ref h, .int x, .int d, .long y]) (n := 5) (Nat.le_of_ble_eq_true rfl)
  rw [lg_entry_eq]
  generalize (lg_sl ([.ref h, .int x, .int d, .long y]) ++ List.replicate (5 - (lg_sl ([.ref h, .int x, .int d, .long y])).length) Slot.unset).toArray = ls at hl ⊢
  have hl : lv_has ls 5 [(0, .ref h), (1, .int x), (2, .int d), (3, .long y)] := hl
  refine lv_aload_n hx hb dX1_add_0 rfl (lv_at hl 0 rfl) ?_
  refine va_get (D := (dC, dI)) (ci := 2) (v := .int (nI n)) (C := RX1) (T := TX1) (N := 4) hx hb hts hinX1 hown hK hP 0 rfl rfl 3 (by decide) (hts (.fieldLink RX1 22 "ScanCodes$Fields" "size" "I") (by decide +kernel)) (fun _ h9 => h9) rfl dX1_add_1 ?_
  refine lv_bipush (v := 6) hx hb dX1_add_4 (by decide) ?_
  refine lv_icmp_ge (tgt := 49) hx hb dX1_add_6 (by decide) (fun c6 => absurd c6 (nI_ge (b := 6) hn (by decide))) (fun c6 => ?_)
  refine lv_aload_n hx hb dX1_add_9 rfl (lv_at hl 0 rfl) ?_
  refine va_get (D := (dC, dI)) (ci := 2) (v := .ref ap) (C := RX1) (T := TX1) (N := 4) hx hb hts hinX1 hown hK hP 0 rfl rfl 0 (by decide) (hts (.fieldLink RX1 9 "ScanCodes$Fields" "prefixes" "[I") (by decide +kernel)) (fun _ h9 => h9) rfl dX1_add_10 ?_
  refine lv_aload_n hx hb dX1_add_13 rfl (lv_at hl 0 rfl) ?_
  refine va_get (D := (dC, dI)) (ci := 2) (v := .int (nI n)) (C := RX1) (T := TX1) (N := 4) hx hb hts hinX1 hown hK hP 0 rfl rfl 3 (by decide) (hts (.fieldLink RX1 22 "ScanCodes$Fields" "size" "I") (by decide +kernel)) (fun _ h9 => h9) rfl dX1_add_14 ?_
  refine lv_iload_n hx hb dX1_add_17 rfl (lv_at hl 1 rfl) ?_
  refine zc_iast hx hb hK hP hD hS 1 0 rfl rfl n rfl (by first | assumption | omega) (by decide) dX1_add_18 (fun H locs hP hD hS => ?_)
  have hP : va_P (dC, dI) vwCl [(h, .inr (2, [.ref ap, .ref ag, .ref av, .int (nI n)])), (ap, .inl (cI, 6, .inl (upd fp n x))), (ag, .inl (cI, 6, .inl fg)), (av, .inl (cJ, 6, .inr (.inl fv)))] H := hP
  have hD : va_D A [(h, .inr (2, [.ref ap, .ref ag, .ref av, .int (nI n)])), (ap, .inl (cI, 6, .inl (upd fp n x))), (ag, .inl (cI, 6, .inl fg)), (av, .inl (cJ, 6, .inr (.inl fv)))] := hD
  refine lv_aload_n hx hb dX1_add_19 rfl (lv_at hl 0 rfl) ?_
  refine va_get (D := (dC, dI)) (ci := 2) (v := .ref ag) (C := RX1) (T := TX1) (N := 4) hx hb hts hinX1 hown hK hP 0 rfl rfl 1 (by decide) (hts (.fieldLink RX1 15 "ScanCodes$Fields" "digits" "[I") (by decide +kernel)) (fun _ h9 => h9) rfl dX1_add_20 ?_
  refine lv_aload_n hx hb dX1_add_23 rfl (lv_at hl 0 rfl) ?_
  refine va_get (D := (dC, dI)) (ci := 2) (v := .int (nI n)) (C := RX1) (T := TX1) (N := 4) hx hb hts hinX1 hown hK hP 0 rfl rfl 3 (by decide) (hts (.fieldLink RX1 22 "ScanCodes$Fields" "size" "I") (by decide +kernel)) (fun _ h9 => h9) rfl dX1_add_24 ?_
  refine lv_iload_n hx hb dX1_add_27 rfl (lv_at hl 2 rfl) ?_
  refine zc_iast hx hb hK hP hD hS 2 0 rfl rfl n rfl (by first | assumption | omega) (by decide) dX1_add_28 (fun H locs hP hD hS => ?_)
  have hP : va_P (dC, dI) vwCl [(h, .inr (2, [.ref ap, .ref ag, .ref av, .int (nI n)])), (ap, .inl (cI, 6, .inl (upd fp n x))), (ag, .inl (cI, 6, .inl (upd fg n d))), (av, .inl (cJ, 6, .inr (.inl fv)))] H := hP
  have hD : va_D A [(h, .inr (2, [.ref ap, .ref ag, .ref av, .int (nI n)])), (ap, .inl (cI, 6, .inl (upd fp n x))), (ag, .inl (cI, 6, .inl (upd fg n d))), (av, .inl (cJ, 6, .inr (.inl fv)))] := hD
  refine lv_aload_n hx hb dX1_add_29 rfl (lv_at hl 0 rfl) ?_
  refine va_get (D := (dC, dI)) (ci := 2) (v := .ref av) (C := RX1) (T := TX1) (N := 4) hx hb hts hinX1 hown hK hP 0 rfl rfl 2 (by decide) (hts (.fieldLink RX1 18 "ScanCodes$Fields" "numbers" "[J") (by decide +kernel)) (fun _ h9 => h9) rfl dX1_add_30 ?_
  refine lv_aload_n hx hb dX1_add_33 rfl (lv_at hl 0 rfl) ?_
  refine va_get (D := (dC, dI)) (ci := 2) (v := .int (nI n)) (C := RX1) (T := TX1) (N := 4) hx hb hts hinX1 hown hK hP 0 rfl rfl 3 (by decide) (hts (.fieldLink RX1 22 "ScanCodes$Fields" "size" "I") (by decide +kernel)) (fun _ h9 => h9) rfl dX1_add_34 ?_
  refine lv_lload_n hx hb dX1_add_37 rfl (lv_at hl 3 rfl) ?_
  refine zc_last hx hb hK hP hD hS 3 2 rfl rfl n rfl (by first | assumption | omega) (by decide) dX1_add_38 (fun H locs hP hD hS => ?_)
  have hP : va_P (dC, dI) vwCl [(h, .inr (2, [.ref ap, .ref ag, .ref av, .int (nI n)])), (ap, .inl (cI, 6, .inl (upd fp n x))), (ag, .inl (cI, 6, .inl (upd fg n d))), (av, .inl (cJ, 6, .inr (.inl (vp_updL fv n y))))] H := hP
  have hD : va_D A [(h, .inr (2, [.ref ap, .ref ag, .ref av, .int (nI n)])), (ap, .inl (cI, 6, .inl (upd fp n x))), (ag, .inl (cI, 6, .inl (upd fg n d))), (av, .inl (cJ, 6, .inr (.inl (vp_updL fv n y))))] := hD
  refine lv_aload_n hx hb dX1_add_39 rfl (lv_at hl 0 rfl) ?_
  refine lv_dup hx hb dX1_add_40 rfl ?_
  refine va_get (D := (dC, dI)) (ci := 2) (v := .int (nI n)) (C := RX1) (T := TX1) (N := 4) hx hb hts hinX1 hown hK hP 0 rfl rfl 3 (by decide) (hts (.fieldLink RX1 22 "ScanCodes$Fields" "size" "I") (by decide +kernel)) (fun _ h9 => h9) rfl dX1_add_41 ?_
  refine lv_iconst (v := 1) hx hb dX1_add_44 (by decide) ?_
  refine lv_iadd hx hb dX1_add_45 ?_
  refine zc_ti (y := nI (n + 1)) (nI_1 n) ?_
  refine va_put (D := (dC, dI)) (ci := 2) (v := .int (nI (n + 1))) (ty := .int) (C := RX1) (T := TX1) (N := 4) hx hb hts hinX1 tyX1 tyX1_ok nmX1 hown hK hP hD hS 0 rfl rfl 3 (by decide) (hts (.fieldLink RX1 22 "ScanCodes$Fields" "size" "I") (by decide +kernel)) (fun _ h9 => h9) rfl (by decide +kernel) rfl rfl (Nat.le_of_ble_eq_true rfl) dX1_add_46 (fun H locs hP hD hS => ?_)
  have hP : va_P (dC, dI) vwCl [(h, .inr (2, [.ref ap, .ref ag, .ref av, .int (nI (n + 1))])), (ap, .inl (cI, 6, .inl (upd fp n x))), (ag, .inl (cI, 6, .inl (upd fg n d))), (av, .inl (cJ, 6, .inr (.inl (vp_updL fv n y))))] H := hP
  have hD : va_D A [(h, .inr (2, [.ref ap, .ref ag, .ref av, .int (nI (n + 1))])), (ap, .inl (cI, 6, .inl (upd fp n x))), (ag, .inl (cI, 6, .inl (upd fg n d))), (av, .inl (cJ, 6, .inr (.inl (vp_updL fv n y))))] := hD
  have hP9 : va_P (dC, dI) vwCl [(h, .inr (2, [.ref ap, .ref ag, .ref av, .int (nI (n + 1))])), (ap, .inl (cI, 6, .inl (upd fp n x))), (ag, .inl (cI, 6, .inl (upd fg n d))), (av, .inl (cJ, 6, .inr (.inl (vp_updL fv n y))))] H := hP
  have hD9 : va_D A [(h, .inr (2, [.ref ap, .ref ag, .ref av, .int (nI (n + 1))])), (ap, .inl (cI, 6, .inl (upd fp n x))), (ag, .inl (cI, 6, .inl (upd fg n d))), (av, .inl (cJ, 6, .inr (.inl (vp_updL fv n y))))] := hD
  exact W.vret hx hb hr (fun t ht hW => ⟨⟨(), rfl, trivial, by rw [ht]; exact hP9, va_K.moved hW.alike hK, hD9⟩, hS.F ht⟩) hS.2.2 dX1_add_49
set_option maxHeartbeats 4000000 in
set_option maxRecDepth 100000 in
theorem c_X1_has (l : Launch) (dC : Nat → ClassId) (dI : Nat → Nat → Nat) (cI cZ cJ : ClassId) (h : Nat) (ap : Nat) (ag : Nat) (av : Nat) (n : Nat) (fp : Nat → Int32) (fg : Nat → Int32) (fv : Nat → Int64) (x : Int32) (hn : n ≤ 6) : Met l yX1_has wsX1_has ({ frames := 0, cells := 0, slots := 0, locals := 0 }) (zc_P [.ref h, .int x] (dC, dI) (zc_T cI cZ cJ) [(h, .inr (2, [.ref ap, .ref ag, .ref av, .int (nI n)])), (ap, .inl (cI, 6, .inl fp)), (ag, .inl (cI, 6, .inl fg)), (av, .inl (cJ, 6, .inr (.inl fv)))]) (zc_Q (.int (zb (zf_has fp n x)))) 0 0 (fun _ => False) := by
  refine Met.ofW (cc := cX1_has) (maxL := 3) (ret := (some .boolean)) (by decide) rfl ?_
  intro p e s m args below meth c s₁ B hml hv
  obtain ⟨rfl, hP, hK⟩ := hv
  have hx := B.exec
  have hb := B.bytes
  have hr := B.returns
  have hts := atoms_spec (ws := wsX1_has) B.pre
  have hown : s.vm.findClass RX1 = some m.cls := findClass_of_methodNamed B.named
  have hlocks := B.notSynchronized
  have hinX1 : ∀ w ∈ wsX10, w ∈ wsX1_has := by decide +kernel
  have hl := lv_entry ([.ref h, .int x]) (n := 3) (Nat.le_of_ble_eq_true rfl)
  rw [lg_entry_eq]
  generalize (lg_sl ([.ref h, .int x]) ++ List.replicate (3 - (lg_sl ([.ref h, .int x])).length) Slot.unset).toArray = ls at hl ⊢
  have hl : lv_has ls 3 [(0, .ref h), (1, .int x)] := hl
  refine lv_iconst (v := 0) hx hb dX1_has_0 (by decide) ?_
  refine lv_istore_n (lv' := [(2, .int 0), (0, .ref h), (1, .int x)]) hx hb dX1_has_1 rfl hl (by decide) rfl (fun ls hl => ?_)
  refine zc_loop (α := Nat) (fun j ls => lv_has ls 3 [(2, .int (nI j)), (0, .ref h), (1, .int x)] ∧ (j ≤ n) ∧ (∀ k, k < j → ¬ fp k = x)) (fun j => n - j) 0 ⟨lv_sub hl [0, 1, 2] rfl, Nat.zero_le _, fun k h => absurd h (Nat.not_lt_zero _)⟩ ?_
  intro x ls hI ih2
  obtain ⟨j, rfl⟩ : ∃ z, z = x := ⟨_, rfl⟩
  obtain ⟨hl, hi1, hi2⟩ := hI
  have hl : lv_has ls 3 [(2, .int (nI j)), (0, .ref h), (1, .int x)] := hl
  try dsimp only at ih2
  refine lv_iload_n hx hb dX1_has_2 rfl (lv_at hl 0 rfl) ?_
  refine lv_aload_n hx hb dX1_has_3 rfl (lv_at hl 1 rfl) ?_
  refine va_get (D := (dC, dI)) (ci := 2) (v := .int (nI n)) (C := RX1) (T := TX1) (N := 4) hx hb hts hinX1 hown hK hP 0 rfl rfl 3 (by decide) (hts (.fieldLink RX1 22 "ScanCodes$Fields" "size" "I") (by decide +kernel)) (fun _ h9 => h9) rfl dX1_has_4 ?_
  refine lv_icmp_ge (tgt := 28) hx hb dX1_has_7 (by decide) (fun c7 => ?_) (fun c7 => ?_)
  · have hge := zn_le c7 (by omega) (by omega)
    refine lv_iconst (v := 0) hx hb dX1_has_28 (by decide) ?_
    have hres : (0 : Int32) = zb (zf_has fp n x) := by exact (zb_f (fun ⟨k, h1, h2⟩ => hi2 k (by omega) h2)).symm
    exact W.zret (v := 0) hx hb hr rfl (fun t ht _ => ⟨congrArg (fun z => Outcome.returned (some (Value.int z))) hres, ht⟩) (fun _ h => nomatch h) dX1_has_29
  · have hlt := zn_nle c7 (by omega) (by omega)
    refine lv_aload_n hx hb dX1_has_10 rfl (lv_at hl 1 rfl) ?_
    refine va_get (D := (dC, dI)) (ci := 2) (v := .ref ap) (C := RX1) (T := TX1) (N := 4) hx hb hts hinX1 hown hK hP 0 rfl rfl 0 (by decide) (hts (.fieldLink RX1 9 "ScanCodes$Fields" "prefixes" "[I") (by decide +kernel)) (fun _ h9 => h9) rfl dX1_has_11 ?_
    refine lv_iload_n hx hb dX1_has_14 rfl (lv_at hl 0 rfl) ?_
    refine zc_iald hx hb hK hP 1 0 rfl rfl j rfl (by first | assumption | omega) (by decide) dX1_has_15 ?_
    refine lv_iload_n hx hb dX1_has_16 rfl (lv_at hl 2 rfl) ?_
    refine lv_icmp_ne (tgt := 22) hx hb dX1_has_17 (by decide) (fun c17 => ?_) (fun c17 => ?_)
    · refine lv_iinc (v := nI (j + 1)) (lv' := [(2, .int (nI (j + 1))), (0, .ref h), (1, .int x)]) hx hb dX1_has_22 hl (k := 0) rfl (nI_1 j) (by decide) rfl (fun ls hl => ?_)
      refine lv_goto (tgt := 2) hx hb dX1_has_25 (by decide) ?_
      exact ih2 (j + 1) _ (by first | omega | (simp only []; omega)) ⟨lv_sub hl [0, 1, 2] rfl, hlt, fun k h => by rcases Nat.lt_or_ge k j with q | q; exact hi2 k q; rw [show k = j by omega]; exact c17⟩
    · refine lv_iconst (v := 1) hx hb dX1_has_20 (by decide) ?_
      have hres : (1 : Int32) = zb (zf_has fp n x) := by exact (zb_t ⟨j, hlt, c17⟩).symm
      exact W.zret (v := 1) hx hb hr rfl (fun t ht _ => ⟨congrArg (fun z => Outcome.returned (some (Value.int z))) hres, ht⟩) (fun _ h => nomatch h) dX1_has_21
set_option maxHeartbeats 4000000 in
set_option maxRecDepth 100000 in
theorem c_X1_prefixAt (l : Launch) (dC : Nat → ClassId) (dI : Nat → Nat → Nat) (cI cZ cJ : ClassId) (h : Nat) (ap : Nat) (ag : Nat) (av : Nat) (n : Nat) (fp : Nat → Int32) (fg : Nat → Int32) (fv : Nat → Int64) (k : Nat) (hk : k < n) (hn : n ≤ 6) : Met l yX1_prefixAt wsX1_prefixAt ({ frames := 0, cells := 0, slots := 0, locals := 0 }) (zc_P [.ref h, .int (nI k)] (dC, dI) (zc_T cI cZ cJ) [(h, .inr (2, [.ref ap, .ref ag, .ref av, .int (nI n)])), (ap, .inl (cI, 6, .inl fp)), (ag, .inl (cI, 6, .inl fg)), (av, .inl (cJ, 6, .inr (.inl fv)))]) (zc_Q (.int (fp k))) 0 0 (fun _ => False) := by
  refine Met.ofW (cc := cX1_prefixAt) (maxL := 2) (ret := (some .int)) (by decide) rfl ?_
  intro p e s m args below meth c s₁ B hml hv
  obtain ⟨rfl, hP, hK⟩ := hv
  have hx := B.exec
  have hb := B.bytes
  have hr := B.returns
  have hts := atoms_spec (ws := wsX1_prefixAt) B.pre
  have hown : s.vm.findClass RX1 = some m.cls := findClass_of_methodNamed B.named
  have hlocks := B.notSynchronized
  have hinX1 : ∀ w ∈ wsX10, w ∈ wsX1_prefixAt := by decide +kernel
  have hl := lv_entry ([.ref h, .int (nI k)]) (n := 2) (Nat.le_of_ble_eq_true rfl)
  rw [lg_entry_eq]
  generalize (lg_sl ([.ref h, .int (nI k)]) ++ List.replicate (2 - (lg_sl ([.ref h, .int (nI k)])).length) Slot.unset).toArray = ls at hl ⊢
  have hl : lv_has ls 2 [(0, .ref h), (1, .int (nI k))] := hl
  refine lv_iload_n hx hb dX1_prefixAt_0 rfl (lv_at hl 1 rfl) ?_
  refine lv_if_lt (tgt := 21) hx hb dX1_prefixAt_1 (by decide) (fun c1 => absurd c1 (nI_pos (by omega))) (fun c1 => ?_)
  refine lv_iload_n hx hb dX1_prefixAt_4 rfl (lv_at hl 1 rfl) ?_
  refine lv_aload_n hx hb dX1_prefixAt_5 rfl (lv_at hl 0 rfl) ?_
  refine va_get (D := (dC, dI)) (ci := 2) (v := .int (nI n)) (C := RX1) (T := TX1) (N := 4) hx hb hts hinX1 hown hK hP 0 rfl rfl 3 (by decide) (hts (.fieldLink RX1 22 "ScanCodes$Fields" "size" "I") (by decide +kernel)) (fun _ h9 => h9) rfl dX1_prefixAt_6 ?_
  refine lv_icmp_ge (tgt := 21) hx hb dX1_prefixAt_9 (by decide) (fun c9 => absurd c9 (nI_ge hk (by omega))) (fun c9 => ?_)
  refine lv_aload_n hx hb dX1_prefixAt_12 rfl (lv_at hl 0 rfl) ?_
  refine va_get (D := (dC, dI)) (ci := 2) (v := .ref ap) (C := RX1) (T := TX1) (N := 4) hx hb hts hinX1 hown hK hP 0 rfl rfl 0 (by decide) (hts (.fieldLink RX1 9 "ScanCodes$Fields" "prefixes" "[I") (by decide +kernel)) (fun _ h9 => h9) rfl dX1_prefixAt_13 ?_
  refine lv_iload_n hx hb dX1_prefixAt_16 rfl (lv_at hl 1 rfl) ?_
  refine zc_iald hx hb hK hP 1 0 rfl rfl k rfl (by first | assumption | omega) (by decide) dX1_prefixAt_17 ?_
  refine lv_goto (tgt := 22) hx hb dX1_prefixAt_18 (by decide) ?_
  have hres : (fp k) = fp k := by rfl
  exact W.iret (v := fp k) hx hb hr (fun t ht _ => ⟨congrArg (fun z => Outcome.returned (some (Value.int z))) hres, ht⟩) (fun _ h => nomatch h) dX1_prefixAt_22
set_option maxHeartbeats 4000000 in
set_option maxRecDepth 100000 in
theorem c_X1_digitsAt (l : Launch) (dC : Nat → ClassId) (dI : Nat → Nat → Nat) (cI cZ cJ : ClassId) (h : Nat) (ap : Nat) (ag : Nat) (av : Nat) (n : Nat) (fp : Nat → Int32) (fg : Nat → Int32) (fv : Nat → Int64) (k : Nat) (hk : k < n) (hn : n ≤ 6) : Met l yX1_digitsAt wsX1_digitsAt ({ frames := 0, cells := 0, slots := 0, locals := 0 }) (zc_P [.ref h, .int (nI k)] (dC, dI) (zc_T cI cZ cJ) [(h, .inr (2, [.ref ap, .ref ag, .ref av, .int (nI n)])), (ap, .inl (cI, 6, .inl fp)), (ag, .inl (cI, 6, .inl fg)), (av, .inl (cJ, 6, .inr (.inl fv)))]) (zc_Q (.int (fg k))) 0 0 (fun _ => False) := by
  refine Met.ofW (cc := cX1_digitsAt) (maxL := 2) (ret := (some .int)) (by decide) rfl ?_
  intro p e s m args below meth c s₁ B hml hv
  obtain ⟨rfl, hP, hK⟩ := hv
  have hx := B.exec
  have hb := B.bytes
  have hr := B.returns
  have hts := atoms_spec (ws := wsX1_digitsAt) B.pre
  have hown : s.vm.findClass RX1 = some m.cls := findClass_of_methodNamed B.named
  have hlocks := B.notSynchronized
  have hinX1 : ∀ w ∈ wsX10, w ∈ wsX1_digitsAt := by decide +kernel
  have hl := lv_entry ([.ref h, .int (nI k)]) (n := 2) (Nat.le_of_ble_eq_true rfl)
  rw [lg_entry_eq]
  generalize (lg_sl ([.ref h, .int (nI k)]) ++ List.replicate (2 - (lg_sl ([.ref h, .int (nI k)])).length) Slot.unset).toArray = ls at hl ⊢
  have hl : lv_has ls 2 [(0, .ref h), (1, .int (nI k))] := hl
  refine lv_iload_n hx hb dX1_digitsAt_0 rfl (lv_at hl 1 rfl) ?_
  refine lv_if_lt (tgt := 21) hx hb dX1_digitsAt_1 (by decide) (fun c1 => absurd c1 (nI_pos (by omega))) (fun c1 => ?_)
  refine lv_iload_n hx hb dX1_digitsAt_4 rfl (lv_at hl 1 rfl) ?_
  refine lv_aload_n hx hb dX1_digitsAt_5 rfl (lv_at hl 0 rfl) ?_
  refine va_get (D := (dC, dI)) (ci := 2) (v := .int (nI n)) (C := RX1) (T := TX1) (N := 4) hx hb hts hinX1 hown hK hP 0 rfl rfl 3 (by decide) (hts (.fieldLink RX1 22 "ScanCodes$Fields" "size" "I") (by decide +kernel)) (fun _ h9 => h9) rfl dX1_digitsAt_6 ?_
  refine lv_icmp_ge (tgt := 21) hx hb dX1_digitsAt_9 (by decide) (fun c9 => absurd c9 (nI_ge hk (by omega))) (fun c9 => ?_)
  refine lv_aload_n hx hb dX1_digitsAt_12 rfl (lv_at hl 0 rfl) ?_
  refine va_get (D := (dC, dI)) (ci := 2) (v := .ref ag) (C := RX1) (T := TX1) (N := 4) hx hb hts hinX1 hown hK hP 0 rfl rfl 1 (by decide) (hts (.fieldLink RX1 15 "ScanCodes$Fields" "digits" "[I") (by decide +kernel)) (fun _ h9 => h9) rfl dX1_digitsAt_13 ?_
  refine lv_iload_n hx hb dX1_digitsAt_16 rfl (lv_at hl 1 rfl) ?_
  refine zc_iald hx hb hK hP 2 0 rfl rfl k rfl (by first | assumption | omega) (by decide) dX1_digitsAt_17 ?_
  refine lv_goto (tgt := 22) hx hb dX1_digitsAt_18 (by decide) ?_
  have hres : (fg k) = fg k := by rfl
  exact W.iret (v := fg k) hx hb hr (fun t ht _ => ⟨congrArg (fun z => Outcome.returned (some (Value.int z))) hres, ht⟩) (fun _ h => nomatch h) dX1_digitsAt_22
set_option maxHeartbeats 4000000 in
set_option maxRecDepth 100000 in
theorem c_X1_numberAt (l : Launch) (dC : Nat → ClassId) (dI : Nat → Nat → Nat) (cI cZ cJ : ClassId) (h : Nat) (ap : Nat) (ag : Nat) (av : Nat) (n : Nat) (fp : Nat → Int32) (fg : Nat → Int32) (fv : Nat → Int64) (k : Nat) (hk : k < n) (hn : n ≤ 6) : Met l yX1_numberAt wsX1_numberAt ({ frames := 0, cells := 0, slots := 0, locals := 0 }) (zc_P [.ref h, .int (nI k)] (dC, dI) (zc_T cI cZ cJ) [(h, .inr (2, [.ref ap, .ref ag, .ref av, .int (nI n)])), (ap, .inl (cI, 6, .inl fp)), (ag, .inl (cI, 6, .inl fg)), (av, .inl (cJ, 6, .inr (.inl fv)))]) (zc_Q (.long (fv k))) 0 0 (fun _ => False) := by
  refine Met.ofW (cc := cX1_numberAt) (maxL := 2) (ret := (some .long)) (by decide) rfl ?_
  intro p e s m args below meth c s₁ B hml hv
  obtain ⟨rfl, hP, hK⟩ := hv
  have hx := B.exec
  have hb := B.bytes
  have hr := B.returns
  have hts := atoms_spec (ws := wsX1_numberAt) B.pre
  have hown : s.vm.findClass RX1 = some m.cls := findClass_of_methodNamed B.named
  have hlocks := B.notSynchronized
  have hinX1 : ∀ w ∈ wsX10, w ∈ wsX1_numberAt := by decide +kernel
  have hl := lv_entry ([.ref h, .int (nI k)]) (n := 2) (Nat.le_of_ble_eq_true rfl)
  rw [lg_entry_eq]
  generalize (lg_sl ([.ref h, .int (nI k)]) ++ List.replicate (2 - (lg_sl ([.ref h, .int (nI k)])).length) Slot.unset).toArray = ls at hl ⊢
  have hl : lv_has ls 2 [(0, .ref h), (1, .int (nI k))] := hl
  refine lv_iload_n hx hb dX1_numberAt_0 rfl (lv_at hl 1 rfl) ?_
  refine lv_if_lt (tgt := 21) hx hb dX1_numberAt_1 (by decide) (fun c1 => absurd c1 (nI_pos (by omega))) (fun c1 => ?_)
  refine lv_iload_n hx hb dX1_numberAt_4 rfl (lv_at hl 1 rfl) ?_
  refine lv_aload_n hx hb dX1_numberAt_5 rfl (lv_at hl 0 rfl) ?_
  refine va_get (D := (dC, dI)) (ci := 2) (v := .int (nI n)) (C := RX1) (T := TX1) (N := 4) hx hb hts hinX1 hown hK hP 0 rfl rfl 3 (by decide) (hts (.fieldLink RX1 22 "ScanCodes$Fields" "size" "I") (by decide +kernel)) (fun _ h9 => h9) rfl dX1_numberAt_6 ?_
  refine lv_icmp_ge (tgt := 21) hx hb dX1_numberAt_9 (by decide) (fun c9 => absurd c9 (nI_ge hk (by omega))) (fun c9 => ?_)
  refine lv_aload_n hx hb dX1_numberAt_12 rfl (lv_at hl 0 rfl) ?_
  refine va_get (D := (dC, dI)) (ci := 2) (v := .ref av) (C := RX1) (T := TX1) (N := 4) hx hb hts hinX1 hown hK hP 0 rfl rfl 2 (by decide) (hts (.fieldLink RX1 18 "ScanCodes$Fields" "numbers" "[J") (by decide +kernel)) (fun _ h9 => h9) rfl dX1_numberAt_13 ?_
  refine lv_iload_n hx hb dX1_numberAt_16 rfl (lv_at hl 1 rfl) ?_
  refine zc_lald hx hb hK hP 3 2 rfl rfl k rfl (by first | assumption | omega) (by decide) dX1_numberAt_17 ?_
  refine lv_goto (tgt := 22) hx hb dX1_numberAt_18 (by decide) ?_
  have hres : (fv k) = fv k := by rfl
  exact W.lret (v := fv k) hx hb hr (fun t ht _ => ⟨congrArg (fun z => Outcome.returned (some (Value.long z))) hres, ht⟩) (fun _ h => nomatch h) dX1_numberAt_22
set_option maxHeartbeats 4000000 in
set_option maxRecDepth 100000 in
theorem c_X6_isPrefix (l : Launch) (dC : Nat → ClassId) (dI : Nat → Nat → Nat) (cI cZ cJ : ClassId) (x : Int32) : Met l yX6_isPrefix wsX6_isPrefix ({ frames := 0, cells := 0, slots := 0, locals := 0 }) (zc_P [.int x] (dC, dI) (zc_T cI cZ cJ) []) (zc_Q (.int (zb (zp_is x)))) 0 0 (fun _ => False) := by
  refine Met.ofW (cc := cX6_isPrefix) (maxL := 1) (ret := (some .boolean)) (by decide) rfl ?_
  intro p e s m args below meth c s₁ B hml hv
  obtain ⟨rfl, hP, hK⟩ := hv
  have hx := B.exec
  have hb := B.bytes
  have hr := B.returns
  have hts := atoms_spec (ws := wsX6_isPrefix) B.pre
  have hown : s.vm.findClass RX6 = some m.cls := findClass_of_methodNamed B.named
  have hlocks := B.notSynchronized
  have hl := lv_entry ([.int x]) (n := 1) (Nat.le_of_ble_eq_true rfl)
  rw [lg_entry_eq]
  generalize (lg_sl ([.int x]) ++ List.replicate (1 - (lg_sl ([.int x])).length) Slot.unset).toArray = ls at hl ⊢
  have hl : lv_has ls 1 [(0, .int x)] := hl
  refine lv_iload_n hx hb dX6_isPrefix_0 rfl (lv_at hl 0 rfl) ?_
  refine lv_bipush (v := 10) hx hb dX6_isPrefix_1 (by decide) ?_
  refine lv_icmp_lt (tgt := 16) hx hb dX6_isPrefix_3 (by decide) (fun c3 => ?_) (fun c3 => ?_)
  · refine lv_iconst (v := 0) hx hb dX6_isPrefix_16 (by decide) ?_
    have hres : (0 : Int32) = zb (zp_is x) := by exact (zb_f (fun q => q.1 c3)).symm
    exact W.zret (v := 0) hx hb hr rfl (fun t ht _ => ⟨congrArg (fun z => Outcome.returned (some (Value.int z))) hres, ht⟩) (fun _ h => nomatch h) dX6_isPrefix_17
  · refine lv_iload_n hx hb dX6_isPrefix_6 rfl (lv_at hl 0 rfl) ?_
    refine lv_bipush (v := 99) hx hb dX6_isPrefix_7 (by decide) ?_
    refine lv_icmp_gt (tgt := 16) hx hb dX6_isPrefix_9 (by decide) (fun c9 => ?_) (fun c9 => ?_)
    · refine lv_iconst (v := 0) hx hb dX6_isPrefix_16 (by decide) ?_
      have hres : (0 : Int32) = zb (zp_is x) := by exact (zb_f (fun q => q.2 c9)).symm
      exact W.zret (v := 0) hx hb hr rfl (fun t ht _ => ⟨congrArg (fun z => Outcome.returned (some (Value.int z))) hres, ht⟩) (fun _ h => nomatch h) dX6_isPrefix_17
    · refine lv_iconst (v := 1) hx hb dX6_isPrefix_12 (by decide) ?_
      refine lv_goto (tgt := 17) hx hb dX6_isPrefix_13 (by decide) ?_
      have hres : (1 : Int32) = zb (zp_is x) := by exact (zb_t ⟨c3, c9⟩).symm
      exact W.zret (v := 1) hx hb hr rfl (fun t ht _ => ⟨congrArg (fun z => Outcome.returned (some (Value.int z))) hres, ht⟩) (fun _ h => nomatch h) dX6_isPrefix_17
set_option maxHeartbeats 4000000 in
set_option maxRecDepth 100000 in
theorem c_X6_isStation (l : Launch) (dC : Nat → ClassId) (dI : Nat → Nat → Nat) (cI cZ cJ : ClassId) (x : Int32) : Met l yX6_isStation wsX6_isStation ({ frames := 0, cells := 0, slots := 0, locals := 0 }) (zc_P [.int x] (dC, dI) (zc_T cI cZ cJ) []) (zc_Q (.int (zb (¬ x < 0 ∧ ¬ 8 ≤ x)))) 0 0 (fun _ => False) := by
  refine Met.ofW (cc := cX6_isStation) (maxL := 1) (ret := (some .boolean)) (by decide) rfl ?_
  intro p e s m args below meth c s₁ B hml hv
  obtain ⟨rfl, hP, hK⟩ := hv
  have hx := B.exec
  have hb := B.bytes
  have hr := B.returns
  have hts := atoms_spec (ws := wsX6_isStation) B.pre
  have hown : s.vm.findClass RX6 = some m.cls := findClass_of_methodNamed B.named
  have hlocks := B.notSynchronized
  have hl := lv_entry ([.int x]) (n := 1) (Nat.le_of_ble_eq_true rfl)
  rw [lg_entry_eq]
  generalize (lg_sl ([.int x]) ++ List.replicate (1 - (lg_sl ([.int x])).length) Slot.unset).toArray = ls at hl ⊢
  have hl : lv_has ls 1 [(0, .int x)] := hl
  refine lv_iload_n hx hb dX6_isStation_0 rfl (lv_at hl 0 rfl) ?_
  refine lv_if_lt (tgt := 14) hx hb dX6_isStation_1 (by decide) (fun c1 => ?_) (fun c1 => ?_)
  · refine lv_iconst (v := 0) hx hb dX6_isStation_14 (by decide) ?_
    have hres : (0 : Int32) = zb (¬ x < 0 ∧ ¬ 8 ≤ x) := by exact (zb_f (fun q => q.1 c1)).symm
    exact W.zret (v := 0) hx hb hr rfl (fun t ht _ => ⟨congrArg (fun z => Outcome.returned (some (Value.int z))) hres, ht⟩) (fun _ h => nomatch h) dX6_isStation_15
  · refine lv_iload_n hx hb dX6_isStation_4 rfl (lv_at hl 0 rfl) ?_
    refine lv_bipush (v := 8) hx hb dX6_isStation_5 (by decide) ?_
    refine lv_icmp_ge (tgt := 14) hx hb dX6_isStation_7 (by decide) (fun c7 => ?_) (fun c7 => ?_)
    · refine lv_iconst (v := 0) hx hb dX6_isStation_14 (by decide) ?_
      have hres : (0 : Int32) = zb (¬ x < 0 ∧ ¬ 8 ≤ x) := by exact (zb_f (fun q => q.2 c7)).symm
      exact W.zret (v := 0) hx hb hr rfl (fun t ht _ => ⟨congrArg (fun z => Outcome.returned (some (Value.int z))) hres, ht⟩) (fun _ h => nomatch h) dX6_isStation_15
    · refine lv_iconst (v := 1) hx hb dX6_isStation_10 (by decide) ?_
      refine lv_goto (tgt := 15) hx hb dX6_isStation_11 (by decide) ?_
      have hres : (1 : Int32) = zb (¬ x < 0 ∧ ¬ 8 ≤ x) := by exact (zb_t ⟨c1, c7⟩).symm
      exact W.zret (v := 1) hx hb hr rfl (fun t ht _ => ⟨congrArg (fun z => Outcome.returned (some (Value.int z))) hres, ht⟩) (fun _ h => nomatch h) dX6_isStation_15
set_option maxHeartbeats 4000000 in
set_option maxRecDepth 100000 in
theorem c_X2_size (l : Launch) (dC : Nat → ClassId) (dI : Nat → Nat → Nat) (cI cZ cJ : ClassId) (h : Nat) (aL : Nat) (aF : Nat) (aS : Nat) (aN : Nat) (z : Int32) (L : Nat → Int32) (F : Nat → Int32) (S : Nat → Int32) (N : Nat → Int32) : Met l yX2_size wsX2_size ({ frames := 0, cells := 0, slots := 0, locals := 0 }) (zc_P [.ref h] (dC, dI) (zc_T cI cZ cJ) [(h, .inr (3, [.ref aL, .ref aF, .ref aS, .ref aN, .int z])), (aL, .inl (cI, 100, .inl L)), (aF, .inl (cZ, 100, .inl F)), (aS, .inl (cI, 100, .inl S)), (aN, .inl (cI, 100, .inl N))]) (zc_Q (.int z)) 0 0 (fun _ => False) := by
  refine Met.ofW (cc := cX2_size) (maxL := 1) (ret := (some .int)) (by decide) rfl ?_
  intro p e s m args below meth c s₁ B hml hv
  obtain ⟨rfl, hP, hK⟩ := hv
  have hx := B.exec
  have hb := B.bytes
  have hr := B.returns
  have hts := atoms_spec (ws := wsX2_size) B.pre
  have hown : s.vm.findClass RX2 = some m.cls := findClass_of_methodNamed B.named
  have hlocks := B.notSynchronized
  have hinX2 : ∀ w ∈ wsX20, w ∈ wsX2_size := by decide +kernel
  have hl := lv_entry ([.ref h]) (n := 1) (Nat.le_of_ble_eq_true rfl)
  rw [lg_entry_eq]
  generalize (lg_sl ([.ref h]) ++ List.replicate (1 - (lg_sl ([.ref h])).length) Slot.unset).toArray = ls at hl ⊢
  have hl : lv_has ls 1 [(0, .ref h)] := hl
  refine lv_aload_n hx hb dX2_size_0 rfl (lv_at hl 0 rfl) ?_
  refine va_get (D := (dC, dI)) (ci := 3) (v := .int z) (C := RX2) (T := TX2) (N := 5) hx hb hts hinX2 hown hK hP 0 rfl rfl 4 (by decide) (hts (.fieldLink RX2 25 "ScanCodes$Prefixes" "size" "I") (by decide +kernel)) (fun _ h9 => h9) rfl dX2_size_1 ?_
  have hres : z = z := by rfl
  exact W.iret (v := z) hx hb hr (fun t ht _ => ⟨congrArg (fun z => Outcome.returned (some (Value.int z))) hres, ht⟩) (fun _ h => nomatch h) dX2_size_4
set_option maxHeartbeats 4000000 in
set_option maxRecDepth 100000 in
theorem c_X2_has (l : Launch) (dC : Nat → ClassId) (dI : Nat → Nat → Nat) (cI cZ cJ : ClassId) (h : Nat) (aL : Nat) (aF : Nat) (aS : Nat) (aN : Nat) (z : Int32) (L : Nat → Int32) (F : Nat → Int32) (S : Nat → Int32) (N : Nat → Int32) (x : Int32) : Met l yX2_has wsX2_has ({ frames := 0, cells := 0, slots := 0, locals := 0 }) (zc_P [.ref h, .int x] (dC, dI) (zc_T cI cZ cJ) [(h, .inr (3, [.ref aL, .ref aF, .ref aS, .ref aN, .int z])), (aL, .inl (cI, 100, .inl L)), (aF, .inl (cZ, 100, .inl F)), (aS, .inl (cI, 100, .inl S)), (aN, .inl (cI, 100, .inl N))]) (zc_Q (.int (zb (zp_has L x)))) 0 0 (fun _ => False) := by
  refine Met.ofW (cc := cX2_has) (maxL := 2) (ret := (some .boolean)) (by decide) rfl ?_
  intro p e s m args below meth c s₁ B hml hv
  obtain ⟨rfl, hP, hK⟩ := hv
  have hx := B.exec
  have hb := B.bytes
  have hr := B.returns
  have hts := atoms_spec (ws := wsX2_has) B.pre
  have hown : s.vm.findClass RX2 = some m.cls := findClass_of_methodNamed B.named
  have hlocks := B.notSynchronized
  have hinX2 : ∀ w ∈ wsX20, w ∈ wsX2_has := by decide +kernel
  have hl := lv_entry ([.ref h, .int x]) (n := 2) (Nat.le_of_ble_eq_true rfl)
  rw [lg_entry_eq]
  generalize (lg_sl ([.ref h, .int x]) ++ List.replicate (2 - (lg_sl ([.ref h, .int x])).length) Slot.unset).toArray = ls at hl ⊢
  have hl : lv_has ls 2 [(0, .ref h), (1, .int x)] := hl
  refine lv_iload_n hx hb dX2_has_0 rfl (lv_at hl 1 rfl) ?_
  refine lv_bipush (v := 10) hx hb dX2_has_1 (by decide) ?_
  refine lv_icmp_lt (tgt := 25) hx hb dX2_has_3 (by decide) (fun c3 => ?_) (fun c3 => ?_)
  · refine lv_iconst (v := 0) hx hb dX2_has_25 (by decide) ?_
    have hres : (0 : Int32) = zb (zp_has L x) := by exact (zb_f (fun q => q.1 c3)).symm
    exact W.zret (v := 0) hx hb hr rfl (fun t ht _ => ⟨congrArg (fun z => Outcome.returned (some (Value.int z))) hres, ht⟩) (fun _ h => nomatch h) dX2_has_26
  · refine lv_iload_n hx hb dX2_has_6 rfl (lv_at hl 1 rfl) ?_
    refine lv_bipush (v := 99) hx hb dX2_has_7 (by decide) ?_
    refine lv_icmp_gt (tgt := 25) hx hb dX2_has_9 (by decide) (fun c9 => ?_) (fun c9 => ?_)
    · refine lv_iconst (v := 0) hx hb dX2_has_25 (by decide) ?_
      have hres : (0 : Int32) = zb (zp_has L x) := by exact (zb_f (fun q => q.2.1 c9)).symm
      exact W.zret (v := 0) hx hb hr rfl (fun t ht _ => ⟨congrArg (fun z => Outcome.returned (some (Value.int z))) hres, ht⟩) (fun _ h => nomatch h) dX2_has_26
    · have hix := zp_ix c3 c9
      refine lv_aload_n hx hb dX2_has_12 rfl (lv_at hl 0 rfl) ?_
      refine va_get (D := (dC, dI)) (ci := 3) (v := .ref aL) (C := RX2) (T := TX2) (N := 5) hx hb hts hinX2 hown hK hP 0 rfl rfl 0 (by decide) (hts (.fieldLink RX2 9 "ScanCodes$Prefixes" "lengths" "[I") (by decide +kernel)) (fun _ h9 => h9) rfl dX2_has_13 ?_
      refine lv_iload_n hx hb dX2_has_16 rfl (lv_at hl 1 rfl) ?_
      refine zc_iald hx hb hK hP 1 0 rfl rfl x.toNatClampNeg hix.1 hix.2.1 (by decide) dX2_has_17 ?_
      refine lv_if_le (tgt := 25) hx hb dX2_has_18 (by decide) (fun c18 => ?_) (fun c18 => ?_)
      · refine lv_iconst (v := 0) hx hb dX2_has_25 (by decide) ?_
        have hres : (0 : Int32) = zb (zp_has L x) := by exact (zb_f (fun q => q.2.2 c18)).symm
        exact W.zret (v := 0) hx hb hr rfl (fun t ht _ => ⟨congrArg (fun z => Outcome.returned (some (Value.int z))) hres, ht⟩) (fun _ h => nomatch h) dX2_has_26
      · refine lv_iconst (v := 1) hx hb dX2_has_21 (by decide) ?_
        refine lv_goto (tgt := 26) hx hb dX2_has_22 (by decide) ?_
        have hres : (1 : Int32) = zb (zp_has L x) := by exact (zb_t ⟨c3, c9, c18⟩).symm
        exact W.zret (v := 1) hx hb hr rfl (fun t ht _ => ⟨congrArg (fun z => Outcome.returned (some (Value.int z))) hres, ht⟩) (fun _ h => nomatch h) dX2_has_26
set_option maxHeartbeats 4000000 in
set_option maxRecDepth 100000 in
theorem c_X2_lengthOf (l : Launch) (dC : Nat → ClassId) (dI : Nat → Nat → Nat) (cI cZ cJ : ClassId) (h : Nat) (aL : Nat) (aF : Nat) (aS : Nat) (aN : Nat) (z : Int32) (L : Nat → Int32) (F : Nat → Int32) (S : Nat → Int32) (N : Nat → Int32) (k : Nat) (h1 : 10 ≤ k) (h2 : k ≤ 99) (h3 : ¬ L k ≤ 0) : Met l yX2_lengthOf wsX2_lengthOf ({ frames := 1, cells := 0, slots := 0, locals := 21 }) (zc_P [.ref h, .int (nI k)] (dC, dI) (zc_T cI cZ cJ) [(h, .inr (3, [.ref aL, .ref aF, .ref aS, .ref aN, .int z])), (aL, .inl (cI, 100, .inl L)), (aF, .inl (cZ, 100, .inl F)), (aS, .inl (cI, 100, .inl S)), (aN, .inl (cI, 100, .inl N))]) (zc_Q (.int (L k))) 0 0 (fun _ => False) := by
  refine Met.ofW (cc := cX2_lengthOf) (maxL := 2) (ret := (some .int)) (by decide) rfl ?_
  intro p e s m args below meth c s₁ B hml hv
  obtain ⟨rfl, hP, hK⟩ := hv
  have hx := B.exec
  have hb := B.bytes
  have hr := B.returns
  have hts := atoms_spec (ws := wsX2_lengthOf) B.pre
  have hown : s.vm.findClass RX2 = some m.cls := findClass_of_methodNamed B.named
  have hlocks := B.notSynchronized
  have hinX2 : ∀ w ∈ wsX20, w ∈ wsX2_lengthOf := by decide +kernel
  have hl := lv_entry ([.ref h, .int (nI k)]) (n := 2) (Nat.le_of_ble_eq_true rfl)
  rw [lg_entry_eq]
  generalize (lg_sl ([.ref h, .int (nI k)]) ++ List.replicate (2 - (lg_sl ([.ref h, .int (nI k)])).length) Slot.unset).toArray = ls at hl ⊢
  have hl : lv_has ls 2 [(0, .ref h), (1, .int (nI k))] := hl
  refine lv_aload_n hx hb dX2_lengthOf_0 rfl (lv_at hl 0 rfl) ?_
  refine lv_iload_n hx hb dX2_lengthOf_1 rfl (lv_at hl 1 rfl) ?_
  refine zc_callR (va_runV (As := [.int (nI k)]) (rest := []) ⟨hx, hb, hml, hown, hts⟩ (c_X2_has l dC dI cI cZ cJ h aL aF aS aN z L F S N (nI k)) (zc_V 1 hts ggX2_lengthOf_X2_has rfl rfl rfl (by decide +kernel) (by decide +kernel) ⟨Nat.le_of_ble_eq_true rfl, Nat.le_of_ble_eq_true rfl⟩) ⟨zc_blind, va_recv hK hP (ci := 3) (q0 := 0) rfl rfl, zc_pay (hP.sub (ws' := [(h, .inr (3, [.ref aL, .ref aF, .ref aS, .ref aN, .int z])), (aL, .inl (cI, 100, .inl L)), (aF, .inl (cZ, 100, .inl F)), (aS, .inl (cI, 100, .inl S)), (aN, .inl (cI, 100, .inl N))]) [0, 1, 2, 3, 4] rfl) hK⟩ rfl rfl hl.1 rfl (lv_room (Nat.le_of_ble_eq_true rfl)) dX2_lengthOf_2 ⟨Nat.le_of_ble_eq_true rfl, Nat.le_of_ble_eq_true rfl⟩) ?_
  refine lv_if_eq (tgt := 17) hx hb dX2_lengthOf_5 (by decide) (fun c5 => absurd c5 (fun c => zb_0 c ((zp_hasN h1 h2).mpr h3))) (fun c5 => ?_)
  refine lv_aload_n hx hb dX2_lengthOf_8 rfl (lv_at hl 0 rfl) ?_
  refine va_get (D := (dC, dI)) (ci := 3) (v := .ref aL) (C := RX2) (T := TX2) (N := 5) hx hb hts hinX2 hown hK hP 0 rfl rfl 0 (by decide) (hts (.fieldLink RX2 9 "ScanCodes$Prefixes" "lengths" "[I") (by decide +kernel)) (fun _ h9 => h9) rfl dX2_lengthOf_9 ?_
  refine lv_iload_n hx hb dX2_lengthOf_12 rfl (lv_at hl 1 rfl) ?_
  refine zc_iald hx hb hK hP 1 0 rfl rfl k rfl (by first | assumption | omega) (by decide) dX2_lengthOf_13 ?_
  refine lv_goto (tgt := 18) hx hb dX2_lengthOf_14 (by decide) ?_
  have hres : (L k) = L k := by rfl
  exact W.iret (v := L k) hx hb hr (fun t ht _ => ⟨congrArg (fun z => Outcome.returned (some (Value.int z))) hres, ht⟩) (fun _ h => nomatch h) dX2_lengthOf_18
set_option maxHeartbeats 4000000 in
set_option maxRecDepth 100000 in
theorem c_X2_stationOf (l : Launch) (dC : Nat → ClassId) (dI : Nat → Nat → Nat) (cI cZ cJ : ClassId) (h : Nat) (aL : Nat) (aF : Nat) (aS : Nat) (aN : Nat) (z : Int32) (L : Nat → Int32) (F : Nat → Int32) (S : Nat → Int32) (N : Nat → Int32) (k : Nat) (h1 : 10 ≤ k) (h2 : k ≤ 99) (h3 : ¬ L k ≤ 0) : Met l yX2_stationOf wsX2_stationOf ({ frames := 1, cells := 0, slots := 0, locals := 21 }) (zc_P [.ref h, .int (nI k)] (dC, dI) (zc_T cI cZ cJ) [(h, .inr (3, [.ref aL, .ref aF, .ref aS, .ref aN, .int z])), (aL, .inl (cI, 100, .inl L)), (aF, .inl (cZ, 100, .inl F)), (aS, .inl (cI, 100, .inl S)), (aN, .inl (cI, 100, .inl N))]) (zc_Q (.int (S k))) 0 0 (fun _ => False) := by
  refine Met.ofW (cc := cX2_stationOf) (maxL := 2) (ret := (some .int)) (by decide) rfl ?_
  intro p e s m args below meth c s₁ B hml hv
  obtain ⟨rfl, hP, hK⟩ := hv
  have hx := B.exec
  have hb := B.bytes
  have hr := B.returns
  have hts := atoms_spec (ws := wsX2_stationOf) B.pre
  have hown : s.vm.findClass RX2 = some m.cls := findClass_of_methodNamed B.named
  have hlocks := B.notSynchronized
  have hinX2 : ∀ w ∈ wsX20, w ∈ wsX2_stationOf := by decide +kernel
  have hl := lv_entry ([.ref h, .int (nI k)]) (n := 2) (Nat.le_of_ble_eq_true rfl)
  rw [lg_entry_eq]
  generalize (lg_sl ([.ref h, .int (nI k)]) ++ List.replicate (2 - (lg_sl ([.ref h, .int (nI k)])).length) Slot.unset).toArray = ls at hl ⊢
  have hl : lv_has ls 2 [(0, .ref h), (1, .int (nI k))] := hl
  refine lv_aload_n hx hb dX2_stationOf_0 rfl (lv_at hl 0 rfl) ?_
  refine lv_iload_n hx hb dX2_stationOf_1 rfl (lv_at hl 1 rfl) ?_
  refine zc_callR (va_runV (As := [.int (nI k)]) (rest := []) ⟨hx, hb, hml, hown, hts⟩ (c_X2_has l dC dI cI cZ cJ h aL aF aS aN z L F S N (nI k)) (zc_V 1 hts ggX2_stationOf_X2_has rfl rfl rfl (by decide +kernel) (by decide +kernel) ⟨Nat.le_of_ble_eq_true rfl, Nat.le_of_ble_eq_true rfl⟩) ⟨zc_blind, va_recv hK hP (ci := 3) (q0 := 0) rfl rfl, zc_pay (hP.sub (ws' := [(h, .inr (3, [.ref aL, .ref aF, .ref aS, .ref aN, .int z])), (aL, .inl (cI, 100, .inl L)), (aF, .inl (cZ, 100, .inl F)), (aS, .inl (cI, 100, .inl S)), (aN, .inl (cI, 100, .inl N))]) [0, 1, 2, 3, 4] rfl) hK⟩ rfl rfl hl.1 rfl (lv_room (Nat.le_of_ble_eq_true rfl)) dX2_stationOf_2 ⟨Nat.le_of_ble_eq_true rfl, Nat.le_of_ble_eq_true rfl⟩) ?_
  refine lv_if_eq (tgt := 17) hx hb dX2_stationOf_5 (by decide) (fun c5 => absurd c5 (fun c => zb_0 c ((zp_hasN h1 h2).mpr h3))) (fun c5 => ?_)
  refine lv_aload_n hx hb dX2_stationOf_8 rfl (lv_at hl 0 rfl) ?_
  refine va_get (D := (dC, dI)) (ci := 3) (v := .ref aS) (C := RX2) (T := TX2) (N := 5) hx hb hts hinX2 hown hK hP 0 rfl rfl 2 (by decide) (hts (.fieldLink RX2 19 "ScanCodes$Prefixes" "stations" "[I") (by decide +kernel)) (fun _ h9 => h9) rfl dX2_stationOf_9 ?_
  refine lv_iload_n hx hb dX2_stationOf_12 rfl (lv_at hl 1 rfl) ?_
  refine zc_iald hx hb hK hP 3 0 rfl rfl k rfl (by first | assumption | omega) (by decide) dX2_stationOf_13 ?_
  refine lv_goto (tgt := 18) hx hb dX2_stationOf_14 (by decide) ?_
  have hres : (S k) = S k := by rfl
  exact W.iret (v := S k) hx hb hr (fun t ht _ => ⟨congrArg (fun z => Outcome.returned (some (Value.int z))) hres, ht⟩) (fun _ h => nomatch h) dX2_stationOf_18
set_option maxHeartbeats 4000000 in
set_option maxRecDepth 100000 in
theorem c_X2_needOf (l : Launch) (dC : Nat → ClassId) (dI : Nat → Nat → Nat) (cI cZ cJ : ClassId) (h : Nat) (aL : Nat) (aF : Nat) (aS : Nat) (aN : Nat) (z : Int32) (L : Nat → Int32) (F : Nat → Int32) (S : Nat → Int32) (N : Nat → Int32) (k : Nat) (h1 : 10 ≤ k) (h2 : k ≤ 99) (h3 : ¬ L k ≤ 0) : Met l yX2_needOf wsX2_needOf ({ frames := 1, cells := 0, slots := 0, locals := 21 }) (zc_P [.ref h, .int (nI k)] (dC, dI) (zc_T cI cZ cJ) [(h, .inr (3, [.ref aL, .ref aF, .ref aS, .ref aN, .int z])), (aL, .inl (cI, 100, .inl L)), (aF, .inl (cZ, 100, .inl F)), (aS, .inl (cI, 100, .inl S)), (aN, .inl (cI, 100, .inl N))]) (zc_Q (.int (N k))) 0 0 (fun _ => False) := by
  refine Met.ofW (cc := cX2_needOf) (maxL := 2) (ret := (some .int)) (by decide) rfl ?_
  intro p e s m args below meth c s₁ B hml hv
  obtain ⟨rfl, hP, hK⟩ := hv
  have hx := B.exec
  have hb := B.bytes
  have hr := B.returns
  have hts := atoms_spec (ws := wsX2_needOf) B.pre
  have hown : s.vm.findClass RX2 = some m.cls := findClass_of_methodNamed B.named
  have hlocks := B.notSynchronized
  have hinX2 : ∀ w ∈ wsX20, w ∈ wsX2_needOf := by decide +kernel
  have hl := lv_entry ([.ref h, .int (nI k)]) (n := 2) (Nat.le_of_ble_eq_true rfl)
  rw [lg_entry_eq]
  generalize (lg_sl ([.ref h, .int (nI k)]) ++ List.replicate (2 - (lg_sl ([.ref h, .int (nI k)])).length) Slot.unset).toArray = ls at hl ⊢
  have hl : lv_has ls 2 [(0, .ref h), (1, .int (nI k))] := hl
  refine lv_aload_n hx hb dX2_needOf_0 rfl (lv_at hl 0 rfl) ?_
  refine lv_iload_n hx hb dX2_needOf_1 rfl (lv_at hl 1 rfl) ?_
  refine zc_callR (va_runV (As := [.int (nI k)]) (rest := []) ⟨hx, hb, hml, hown, hts⟩ (c_X2_has l dC dI cI cZ cJ h aL aF aS aN z L F S N (nI k)) (zc_V 1 hts ggX2_needOf_X2_has rfl rfl rfl (by decide +kernel) (by decide +kernel) ⟨Nat.le_of_ble_eq_true rfl, Nat.le_of_ble_eq_true rfl⟩) ⟨zc_blind, va_recv hK hP (ci := 3) (q0 := 0) rfl rfl, zc_pay (hP.sub (ws' := [(h, .inr (3, [.ref aL, .ref aF, .ref aS, .ref aN, .int z])), (aL, .inl (cI, 100, .inl L)), (aF, .inl (cZ, 100, .inl F)), (aS, .inl (cI, 100, .inl S)), (aN, .inl (cI, 100, .inl N))]) [0, 1, 2, 3, 4] rfl) hK⟩ rfl rfl hl.1 rfl (lv_room (Nat.le_of_ble_eq_true rfl)) dX2_needOf_2 ⟨Nat.le_of_ble_eq_true rfl, Nat.le_of_ble_eq_true rfl⟩) ?_
  refine lv_if_eq (tgt := 17) hx hb dX2_needOf_5 (by decide) (fun c5 => absurd c5 (fun c => zb_0 c ((zp_hasN h1 h2).mpr h3))) (fun c5 => ?_)
  refine lv_aload_n hx hb dX2_needOf_8 rfl (lv_at hl 0 rfl) ?_
  refine va_get (D := (dC, dI)) (ci := 3) (v := .ref aN) (C := RX2) (T := TX2) (N := 5) hx hb hts hinX2 hown hK hP 0 rfl rfl 3 (by decide) (hts (.fieldLink RX2 22 "ScanCodes$Prefixes" "needs" "[I") (by decide +kernel)) (fun _ h9 => h9) rfl dX2_needOf_9 ?_
  refine lv_iload_n hx hb dX2_needOf_12 rfl (lv_at hl 1 rfl) ?_
  refine zc_iald hx hb hK hP 4 0 rfl rfl k rfl (by first | assumption | omega) (by decide) dX2_needOf_13 ?_
  refine lv_goto (tgt := 18) hx hb dX2_needOf_14 (by decide) ?_
  have hres : (N k) = N k := by rfl
  exact W.iret (v := N k) hx hb hr (fun t ht _ => ⟨congrArg (fun z => Outcome.returned (some (Value.int z))) hres, ht⟩) (fun _ h => nomatch h) dX2_needOf_18
set_option maxHeartbeats 4000000 in
set_option maxRecDepth 100000 in
theorem c_X2_isFixed (l : Launch) (dC : Nat → ClassId) (dI : Nat → Nat → Nat) (cI cZ cJ : ClassId) (h : Nat) (aL : Nat) (aF : Nat) (aS : Nat) (aN : Nat) (z : Int32) (L : Nat → Int32) (F : Nat → Int32) (S : Nat → Int32) (N : Nat → Int32) (k : Nat) (h1 : 10 ≤ k) (h2 : k ≤ 99) (h3 : ¬ L k ≤ 0) : Met l yX2_isFixed wsX2_isFixed ({ frames := 1, cells := 0, slots := 0, locals := 21 }) (zc_P [.ref h, .int (nI k)] (dC, dI) (zc_T cI cZ cJ) [(h, .inr (3, [.ref aL, .ref aF, .ref aS, .ref aN, .int z])), (aL, .inl (cI, 100, .inl L)), (aF, .inl (cZ, 100, .inl F)), (aS, .inl (cI, 100, .inl S)), (aN, .inl (cI, 100, .inl N))]) (zc_Q (.int (zb (¬ F k = 0)))) 0 0 (fun _ => False) := by
  refine Met.ofW (cc := cX2_isFixed) (maxL := 2) (ret := (some .boolean)) (by decide) rfl ?_
  intro p e s m args below meth c s₁ B hml hv
  obtain ⟨rfl, hP, hK⟩ := hv
  have hx := B.exec
  have hb := B.bytes
  have hr := B.returns
  have hts := atoms_spec (ws := wsX2_isFixed) B.pre
  have hown : s.vm.findClass RX2 = some m.cls := findClass_of_methodNamed B.named
  have hlocks := B.notSynchronized
  have hinX2 : ∀ w ∈ wsX20, w ∈ wsX2_isFixed := by decide +kernel
  have hl := lv_entry ([.ref h, .int (nI k)]) (n := 2) (Nat.le_of_ble_eq_true rfl)
  rw [lg_entry_eq]
  generalize (lg_sl ([.ref h, .int (nI k)]) ++ List.replicate (2 - (lg_sl ([.ref h, .int (nI k)])).length) Slot.unset).toArray = ls at hl ⊢
  have hl : lv_has ls 2 [(0, .ref h), (1, .int (nI k))] := hl
  refine lv_aload_n hx hb dX2_isFixed_0 rfl (lv_at hl 0 rfl) ?_
  refine lv_iload_n hx hb dX2_isFixed_1 rfl (lv_at hl 1 rfl) ?_
  refine zc_callR (va_runV (As := [.int (nI k)]) (rest := []) ⟨hx, hb, hml, hown, hts⟩ (c_X2_has l dC dI cI cZ cJ h aL aF aS aN z L F S N (nI k)) (zc_V 1 hts ggX2_isFixed_X2_has rfl rfl rfl (by decide +kernel) (by decide +kernel) ⟨Nat.le_of_ble_eq_true rfl, Nat.le_of_ble_eq_true rfl⟩) ⟨zc_blind, va_recv hK hP (ci := 3) (q0 := 0) rfl rfl, zc_pay (hP.sub (ws' := [(h, .inr (3, [.ref aL, .ref aF, .ref aS, .ref aN, .int z])), (aL, .inl (cI, 100, .inl L)), (aF, .inl (cZ, 100, .inl F)), (aS, .inl (cI, 100, .inl S)), (aN, .inl (cI, 100, .inl N))]) [0, 1, 2, 3, 4] rfl) hK⟩ rfl rfl hl.1 rfl (lv_room (Nat.le_of_ble_eq_true rfl)) dX2_isFixed_2 ⟨Nat.le_of_ble_eq_true rfl, Nat.le_of_ble_eq_true rfl⟩) ?_
  refine lv_if_eq (tgt := 21) hx hb dX2_isFixed_5 (by decide) (fun c5 => absurd c5 (fun c => zb_0 c ((zp_hasN h1 h2).mpr h3))) (fun c5 => ?_)
  refine lv_aload_n hx hb dX2_isFixed_8 rfl (lv_at hl 0 rfl) ?_
  refine va_get (D := (dC, dI)) (ci := 3) (v := .ref aF) (C := RX2) (T := TX2) (N := 5) hx hb hts hinX2 hown hK hP 0 rfl rfl 1 (by decide) (hts (.fieldLink RX2 15 "ScanCodes$Prefixes" "fixed" "[Z") (by decide +kernel)) (fun _ h9 => h9) rfl dX2_isFixed_9 ?_
  refine lv_iload_n hx hb dX2_isFixed_12 rfl (lv_at hl 1 rfl) ?_
  refine zc_zald hx hb hK hP 2 1 rfl rfl k rfl (by first | assumption | omega) (by decide) dX2_isFixed_13 ?_
  refine lv_if_eq (tgt := 21) hx hb dX2_isFixed_14 (by decide) (fun c14 => ?_) (fun c14 => ?_)
  · refine lv_iconst (v := 0) hx hb dX2_isFixed_21 (by decide) ?_
    have hres : (0 : Int32) = zb (¬ F k = 0) := by exact (zb_f (fun q => q c14)).symm
    exact W.zret (v := 0) hx hb hr rfl (fun t ht _ => ⟨congrArg (fun z => Outcome.returned (some (Value.int z))) hres, ht⟩) (fun _ h => nomatch h) dX2_isFixed_22
  · refine lv_iconst (v := 1) hx hb dX2_isFixed_17 (by decide) ?_
    refine lv_goto (tgt := 22) hx hb dX2_isFixed_18 (by decide) ?_
    have hres : (1 : Int32) = zb (¬ F k = 0) := by exact (zb_t c14).symm
    exact W.zret (v := 1) hx hb hr rfl (fun t ht _ => ⟨congrArg (fun z => Outcome.returned (some (Value.int z))) hres, ht⟩) (fun _ h => nomatch h) dX2_isFixed_22
set_option maxHeartbeats 4000000 in
set_option maxRecDepth 100000 in
theorem c_X2_putNeed (l : Launch) (dC : Nat → ClassId) (dI : Nat → Nat → Nat) (cI cZ cJ : ClassId) (h : Nat) (aL : Nat) (aF : Nat) (aS : Nat) (aN : Nat) (z : Int32) (L : Nat → Int32) (F : Nat → Int32) (S : Nat → Int32) (N : Nat → Int32) (k : Nat) (x : Int32) (h1 : 10 ≤ k) (h2 : k ≤ 99) (h3 : ¬ L k ≤ 0) (sz : Nat) : Met l yX2_putNeed wsX2_putNeed ({ frames := 1, cells := 0, slots := 0, locals := 21 }) (zc_PW [.ref h, .int (nI k), .int x] (dC, dI) (zc_T cI cZ cJ) [(h, .inr (3, [.ref aL, .ref aF, .ref aS, .ref aN, .int z])), (aL, .inl (cI, 100, .inl L)), (aF, .inl (cZ, 100, .inl F)), (aS, .inl (cI, 100, .inl S)), (aN, .inl (cI, 100, .inl N))] sz) (va_Qv (fun _ : Unit => True) (fun _ t => zc_B (dC, dI) (zc_T cI cZ cJ) (va_A [(h, .inr (3, [.ref aL, .ref aF, .ref aS, .ref aN, .int z])), (aL, .inl (cI, 100, .inl L)), (aF, .inl (cZ, 100, .inl F)), (aS, .inl (cI, 100, .inl S)), (aN, .inl (cI, 100, .inl N))] sz) [(h, .inr (3, [.ref aL, .ref aF, .ref aS, .ref aN, .int z])), (aL, .inl (cI, 100, .inl L)), (aF, .inl (cZ, 100, .inl F)), (aS, .inl (cI, 100, .inl S)), (aN, .inl (cI, 100, .inl (upd N k x)))] t) (va_A [(h, .inr (3, [.ref aL, .ref aF, .ref aS, .ref aN, .int z])), (aL, .inl (cI, 100, .inl L)), (aF, .inl (cZ, 100, .inl F)), (aS, .inl (cI, 100, .inl S)), (aN, .inl (cI, 100, .inl N))] sz)) 0 0 (va_A [(h, .inr (3, [.ref aL, .ref aF, .ref aS, .ref aN, .int z])), (aL, .inl (cI, 100, .inl L)), (aF, .inl (cZ, 100, .inl F)), (aS, .inl (cI, 100, .inl S)), (aN, .inl (cI, 100, .inl N))] sz) := by
  refine Met.ofW (cc := cX2_putNeed) (maxL := 3) (ret := none) (by decide) rfl ?_
  intro p e s m args below meth c s₁ B hml hv
  obtain ⟨rfl, hsz, hP, hK, hD0⟩ := hv
  have hx := B.exec
  have hb := B.bytes
  have hr := B.returns
  have hts := atoms_spec (ws := wsX2_putNeed) B.pre
  have hown : s.vm.findClass RX2 = some m.cls := findClass_of_methodNamed B.named
  have hlocks := B.notSynchronized
  subst hsz
  have hD := hD0.self (sz := s.heap.size)
  generalize hAe : va_A [(h, .inr (3, [.ref aL, .ref aF, .ref aS, .ref aN, .int z])), (aL, .inl (cI, 100, .inl L)), (aF, .inl (cZ, 100, .inl F)), (aS, .inl (cI, 100, .inl S)), (aN, .inl (cI, 100, .inl N))] s.heap.size = A at hD ⊢
  have hA : ∀ q : Nat, s.heap.size ≤ q → A q := fun q h => by rw [← hAe]; exact Or.inr h
  have hS : va_S A s.heap s.heap [] := va_S.rf
  have hinX2 : ∀ w ∈ wsX20, w ∈ wsX2_putNeed := by decide +kernel
  have hl := lv_entry ([.ref h, .int (nI k), .int x]) (n := 3) (Nat.le_of_ble_eq_true rfl)
  rw [lg_entry_eq]
  generalize (lg_sl ([.ref h, .int (nI k), .int x]) ++ List.replicate (3 - (lg_sl ([.ref h, .int (nI k), .int x])).length) Slot.unset).toArray = ls at hl ⊢
  have hl : lv_has ls 3 [(0, .ref h), (1, .int (nI k)), (2, .int x)] := hl
  refine lv_aload_n hx hb dX2_putNeed_0 rfl (lv_at hl 0 rfl) ?_
  refine lv_iload_n hx hb dX2_putNeed_1 rfl (lv_at hl 1 rfl) ?_
  refine zc_callR (va_runV (As := [.int (nI k)]) (rest := []) ⟨hx, hb, hml, hown, hts⟩ (c_X2_has l dC dI cI cZ cJ h aL aF aS aN z L F S N (nI k)) (zc_V 1 hts ggX2_putNeed_X2_has rfl rfl rfl (by decide +kernel) (by decide +kernel) ⟨Nat.le_of_ble_eq_true rfl, Nat.le_of_ble_eq_true rfl⟩) ⟨zc_blind, va_recv hK hP (ci := 3) (q0 := 0) rfl rfl, zc_pay (hP.sub (ws' := [(h, .inr (3, [.ref aL, .ref aF, .ref aS, .ref aN, .int z])), (aL, .inl (cI, 100, .inl L)), (aF, .inl (cZ, 100, .inl F)), (aS, .inl (cI, 100, .inl S)), (aN, .inl (cI, 100, .inl N))]) [0, 1, 2, 3, 4] rfl) hK⟩ rfl rfl hl.1 rfl (lv_room (Nat.le_of_ble_eq_true rfl)) dX2_putNeed_2 ⟨Nat.le_of_ble_eq_true rfl, Nat.le_of_ble_eq_true rfl⟩) ?_
  refine lv_if_eq (tgt := 15) hx hb dX2_putNeed_5 (by decide) (fun c5 => absurd c5 (fun c => zb_0 c ((zp_hasN h1 h2).mpr h3))) (fun c5 => ?_)
  refine lv_aload_n hx hb dX2_putNeed_8 rfl (lv_at hl 0 rfl) ?_
  refine va_get (D := (dC, dI)) (ci := 3) (v := .ref aN) (C := RX2) (T := TX2) (N := 5) hx hb hts hinX2 hown hK hP 0 rfl rfl 3 (by decide) (hts (.fieldLink RX2 22 "ScanCodes$Prefixes" "needs" "[I") (by decide +kernel)) (fun _ h9 => h9) rfl dX2_putNeed_9 ?_
  refine lv_iload_n hx hb dX2_putNeed_12 rfl (lv_at hl 1 rfl) ?_
  refine lv_iload_n hx hb dX2_putNeed_13 rfl (lv_at hl 2 rfl) ?_
  refine zc_iast hx hb hK hP hD hS 4 0 rfl rfl k rfl (by first | assumption | omega) (by decide) dX2_putNeed_14 (fun H locs hP hD hS => ?_)
  have hP : va_P (dC, dI) vwCl [(h, .inr (3, [.ref aL, .ref aF, .ref aS, .ref aN, .int z])), (aL, .inl (cI, 100, .inl L)), (aF, .inl (cZ, 100, .inl F)), (aS, .inl (cI, 100, .inl S)), (aN, .inl (cI, 100, .inl (upd N k x)))] H := hP
  have hD : va_D A [(h, .inr (3, [.ref aL, .ref aF, .ref aS, .ref aN, .int z])), (aL, .inl (cI, 100, .inl L)), (aF, .inl (cZ, 100, .inl F)), (aS, .inl (cI, 100, .inl S)), (aN, .inl (cI, 100, .inl (upd N k x)))] := hD
  have hP9 : va_P (dC, dI) vwCl [(h, .inr (3, [.ref aL, .ref aF, .ref aS, .ref aN, .int z])), (aL, .inl (cI, 100, .inl L)), (aF, .inl (cZ, 100, .inl F)), (aS, .inl (cI, 100, .inl S)), (aN, .inl (cI, 100, .inl (upd N k x)))] H := hP
  have hD9 : va_D A [(h, .inr (3, [.ref aL, .ref aF, .ref aS, .ref aN, .int z])), (aL, .inl (cI, 100, .inl L)), (aF, .inl (cZ, 100, .inl F)), (aS, .inl (cI, 100, .inl S)), (aN, .inl (cI, 100, .inl (upd N k x)))] := hD
  exact W.vret hx hb hr (fun t ht hW => ⟨⟨(), rfl, trivial, by rw [ht]; exact hP9, va_K.moved hW.alike hK, hD9⟩, hS.F ht⟩) hS.2.2 dX2_putNeed_15
set_option maxHeartbeats 4000000 in
set_option maxRecDepth 100000 in
theorem c_X2_put (l : Launch) (dC : Nat → ClassId) (dI : Nat → Nat → Nat) (cI cZ cJ : ClassId) (h : Nat) (aL : Nat) (aF : Nat) (aS : Nat) (aN : Nat) (z : Int32) (L : Nat → Int32) (F : Nat → Int32) (S : Nat → Int32) (N : Nat → Int32) (k : Nat) (x : Int32) (b : Int32) (y : Int32) (h1 : 10 ≤ k) (h2 : k ≤ 99) (hbool : vp_nar .boolean b = b) (sz : Nat) : Met l yX2_put wsX2_put ({ frames := 1, cells := 0, slots := 0, locals := 21 }) (va_Pc [.ref h, .int (nI k), .int x, .int b, .int y] (fun U => U.heap.size = sz ∧ va_P (dC, dI) vwCl [(h, .inr (3, [.ref aL, .ref aF, .ref aS, .ref aN, .int z])), (aL, .inl (cI, 100, .inl L)), (aF, .inl (cZ, 100, .inl F)), (aS, .inl (cI, 100, .inl S)), (aN, .inl (cI, 100, .inl N))] U.heap ∧ va_K (dC, dI) vwCl (zc_T cI cZ cJ) U ∧ va_D (fun _ => True) [(h, .inr (3, [.ref aL, .ref aF, .ref aS, .ref aN, .int z])), (aL, .inl (cI, 100, .inl L)), (aF, .inl (cZ, 100, .inl F)), (aS, .inl (cI, 100, .inl S)), (aN, .inl (cI, 100, .inl N))] ∧ va_Nw (.methodLinkNest RX2 29 yX6_isPrefix "ScanCodes") U)) (va_Qv (fun _ : Unit => True) (fun _ t => zc_B (dC, dI) (zc_T cI cZ cJ) (va_A [(h, .inr (3, [.ref aL, .ref aF, .ref aS, .ref aN, .int z])), (aL, .inl (cI, 100, .inl L)), (aF, .inl (cZ, 100, .inl F)), (aS, .inl (cI, 100, .inl S)), (aN, .inl (cI, 100, .inl N))] sz) [(h, .inr (3, [.ref aL, .ref aF, .ref aS, .ref aN, .int (zi (zp_has L (nI k)) z (z + 1))])), (aL, .inl (cI, 100, .inl (upd L k x))), (aF, .inl (cZ, 100, .inl (upd F k b))), (aS, .inl (cI, 100, .inl (upd S k y))), (aN, .inl (cI, 100, .inl (upd N k 0)))] t) (va_A [(h, .inr (3, [.ref aL, .ref aF, .ref aS, .ref aN, .int z])), (aL, .inl (cI, 100, .inl L)), (aF, .inl (cZ, 100, .inl F)), (aS, .inl (cI, 100, .inl S)), (aN, .inl (cI, 100, .inl N))] sz)) 0 0 (va_A [(h, .inr (3, [.ref aL, .ref aF, .ref aS, .ref aN, .int z])), (aL, .inl (cI, 100, .inl L)), (aF, .inl (cZ, 100, .inl F)), (aS, .inl (cI, 100, .inl S)), (aN, .inl (cI, 100, .inl N))] sz) := by
  refine Met.ofW (cc := cX2_put) (maxL := 5) (ret := none) (by decide) rfl ?_
  intro p e s m args below meth c s₁ B hml hv
  obtain ⟨rfl, hsz, hP, hK, hD0, hn0⟩ := hv
  have hx := B.exec
  have hb := B.bytes
  have hr := B.returns
  have hts := atoms_spec (ws := wsX2_put) B.pre
  have hown : s.vm.findClass RX2 = some m.cls := findClass_of_methodNamed B.named
  have hlocks := B.notSynchronized
  subst hsz
  have hD := hD0.self (sz := s.heap.size)
  generalize hAe : va_A [(h, .inr (3, [.ref aL, .ref aF, .ref aS, .ref aN, .int z])), (aL, .inl (cI, 100, .inl L)), (aF, .inl (cZ, 100, .inl F)), (aS, .inl (cI, 100, .inl S)), (aN, .inl (cI, 100, .inl N))] s.heap.size = A at hD ⊢
  have hA : ∀ q : Nat, s.heap.size ≤ q → A q := fun q h => by rw [← hAe]; exact Or.inr h
  have hS : va_S A s.heap s.heap [] := va_S.rf
  have hinX2 : ∀ w ∈ wsX20, w ∈ wsX2_put := by decide +kernel
  have hl := lv_entry ([.ref h, .int (nI k), .int x, .int b, .int y]) (n := 5) (Nat.le_of_ble_eq_true rfl)
  rw [lg_entry_eq]
  generalize (lg_sl ([.ref h, .int (nI k), .int x, .int b, .int y]) ++ List.replicate (5 - (lg_sl ([.ref h, .int (nI k), .int x, .int b, .int y])).length) Slot.unset).toArray = ls at hl ⊢
  have hl : lv_has ls 5 [(0, .ref h), (1, .int (nI k)), (2, .int x), (3, .int b), (4, .int y)] := hl
  refine lv_iload_n hx hb dX2_put_0 rfl (lv_at hl 1 rfl) ?_
  refine zc_callR (va_runSN (As := [.int (nI k)]) (rest := []) ⟨hx, hb, hml, hown, hts⟩ (c_X6_isPrefix l dC dI cI cZ cJ (nI k)) ⟨va_cnB 1 hts ggX2_put_X6_isPrefix rfl rfl rfl hn0 (hts (.initialized RX6) (by decide +kernel)) (by decide +kernel) ⟨Nat.le_of_ble_eq_true rfl, Nat.le_of_ble_eq_true rfl⟩, hts (.static yX6_isPrefix) (by decide +kernel), trivial⟩ ⟨zc_blind, zc_pay (hP.sub (ws' := []) [] rfl) hK⟩ rfl rfl hl.1 rfl (lv_room (Nat.le_of_ble_eq_true rfl)) dX2_put_1 ⟨Nat.le_of_ble_eq_true rfl, Nat.le_of_ble_eq_true rfl⟩) ?_
  refine lv_if_ne (tgt := 8) hx hb dX2_put_4 (by decide) (fun c4 => ?_) (fun c4 => absurd c4 (fun q => zb_0 q (zp_isN h1 h2)))
  refine lv_aload_n hx hb dX2_put_8 rfl (lv_at hl 0 rfl) ?_
  refine lv_iload_n hx hb dX2_put_9 rfl (lv_at hl 1 rfl) ?_
  refine zc_callR (va_runV (As := [.int (nI k)]) (rest := []) ⟨hx, hb, hml, hown, hts⟩ (c_X2_has l dC dI cI cZ cJ h aL aF aS aN z L F S N (nI k)) (zc_V 1 hts ggX2_put_X2_has rfl rfl rfl (by decide +kernel) (by decide +kernel) ⟨Nat.le_of_ble_eq_true rfl, Nat.le_of_ble_eq_true rfl⟩) ⟨zc_blind, va_recv hK hP (ci := 3) (q0 := 0) rfl rfl, zc_pay (hP.sub (ws' := [(h, .inr (3, [.ref aL, .ref aF, .ref aS, .ref aN, .int z])), (aL, .inl (cI, 100, .inl L)), (aF, .inl (cZ, 100, .inl F)), (aS, .inl (cI, 100, .inl S)), (aN, .inl (cI, 100, .inl N))]) [0, 1, 2, 3, 4] rfl) hK⟩ rfl rfl hl.1 rfl (lv_room (Nat.le_of_ble_eq_true rfl)) dX2_put_10 ⟨Nat.le_of_ble_eq_true rfl, Nat.le_of_ble_eq_true rfl⟩) ?_
  refine lv_if_ne (tgt := 26) hx hb dX2_put_13 (by decide) (fun c13 => ?_) (fun c13 => ?_)
  · have ez : zi (zp_has L (nI k)) z (z + 1) = z := zi_t (zb_1 c13)
    refine lv_aload_n hx hb dX2_put_26 rfl (lv_at hl 0 rfl) ?_
    refine va_get (D := (dC, dI)) (ci := 3) (v := .ref aL) (C := RX2) (T := TX2) (N := 5) hx hb hts hinX2 hown hK hP 0 rfl rfl 0 (by decide) (hts (.fieldLink RX2 9 "ScanCodes$Prefixes" "lengths" "[I") (by decide +kernel)) (fun _ h9 => h9) rfl dX2_put_27 ?_
    refine lv_iload_n hx hb dX2_put_30 rfl (lv_at hl 1 rfl) ?_
    refine lv_iload_n hx hb dX2_put_31 rfl (lv_at hl 2 rfl) ?_
    refine zc_iast hx hb hK hP hD hS 1 0 rfl rfl k rfl (by first | assumption | omega) (by decide) dX2_put_32 (fun H locs hP hD hS => ?_)
    have hP : va_P (dC, dI) vwCl [(h, .inr (3, [.ref aL, .ref aF, .ref aS, .ref aN, .int z])), (aL, .inl (cI, 100, .inl (upd L k x))), (aF, .inl (cZ, 100, .inl F)), (aS, .inl (cI, 100, .inl S)), (aN, .inl (cI, 100, .inl N))] H := hP
    have hD : va_D A [(h, .inr (3, [.ref aL, .ref aF, .ref aS, .ref aN, .int z])), (aL, .inl (cI, 100, .inl (upd L k x))), (aF, .inl (cZ, 100, .inl F)), (aS, .inl (cI, 100, .inl S)), (aN, .inl (cI, 100, .inl N))] := hD
    refine lv_aload_n hx hb dX2_put_33 rfl (lv_at hl 0 rfl) ?_
    refine va_get (D := (dC, dI)) (ci := 3) (v := .ref aF) (C := RX2) (T := TX2) (N := 5) hx hb hts hinX2 hown hK hP 0 rfl rfl 1 (by decide) (hts (.fieldLink RX2 15 "ScanCodes$Prefixes" "fixed" "[Z") (by decide +kernel)) (fun _ h9 => h9) rfl dX2_put_34 ?_
    refine lv_iload_n hx hb dX2_put_37 rfl (lv_at hl 1 rfl) ?_
    refine lv_iload_n hx hb dX2_put_38 rfl (lv_at hl 3 rfl) ?_
    refine zc_zast hx hb hK hP hD hS 2 1 rfl rfl k rfl (by first | assumption | omega) (by decide) hbool dX2_put_39 (fun H locs hP hD hS => ?_)
    have hP : va_P (dC, dI) vwCl [(h, .inr (3, [.ref aL, .ref aF, .ref aS, .ref aN, .int z])), (aL, .inl (cI, 100, .inl (upd L k x))), (aF, .inl (cZ, 100, .inl (upd F k b))), (aS, .inl (cI, 100, .inl S)), (aN, .inl (cI, 100, .inl N))] H := hP
    have hD : va_D A [(h, .inr (3, [.ref aL, .ref aF, .ref aS, .ref aN, .int z])), (aL, .inl (cI, 100, .inl (upd L k x))), (aF, .inl (cZ, 100, .inl (upd F k b))), (aS, .inl (cI, 100, .inl S)), (aN, .inl (cI, 100, .inl N))] := hD
    refine lv_aload_n hx hb dX2_put_40 rfl (lv_at hl 0 rfl) ?_
    refine va_get (D := (dC, dI)) (ci := 3) (v := .ref aS) (C := RX2) (T := TX2) (N := 5) hx hb hts hinX2 hown hK hP 0 rfl rfl 2 (by decide) (hts (.fieldLink RX2 19 "ScanCodes$Prefixes" "stations" "[I") (by decide +kernel)) (fun _ h9 => h9) rfl dX2_put_41 ?_
    refine lv_iload_n hx hb dX2_put_44 rfl (lv_at hl 1 rfl) ?_
    refine lv_iload hx hb dX2_put_45 (lv_at hl 4 rfl) ?_
    refine zc_iast hx hb hK hP hD hS 3 0 rfl rfl k rfl (by first | assumption | omega) (by decide) dX2_put_47 (fun H locs hP hD hS => ?_)
    have hP : va_P (dC, dI) vwCl [(h, .inr (3, [.ref aL, .ref aF, .ref aS, .ref aN, .int z])), (aL, .inl (cI, 100, .inl (upd L k x))), (aF, .inl (cZ, 100, .inl (upd F k b))), (aS, .inl (cI, 100, .inl (upd S k y))), (aN, .inl (cI, 100, .inl N))] H := hP
    have hD : va_D A [(h, .inr (3, [.ref aL, .ref aF, .ref aS, .ref aN, .int z])), (aL, .inl (cI, 100, .inl (upd L k x))), (aF, .inl (cZ, 100, .inl (upd F k b))), (aS, .inl (cI, 100, .inl (upd S k y))), (aN, .inl (cI, 100, .inl N))] := hD
    refine lv_aload_n hx hb dX2_put_48 rfl (lv_at hl 0 rfl) ?_
    refine va_get (D := (dC, dI)) (ci := 3) (v := .ref aN) (C := RX2) (T := TX2) (N := 5) hx hb hts hinX2 hown hK hP 0 rfl rfl 3 (by decide) (hts (.fieldLink RX2 22 "ScanCodes$Prefixes" "needs" "[I") (by decide +kernel)) (fun _ h9 => h9) rfl dX2_put_49 ?_
    refine lv_iload_n hx hb dX2_put_52 rfl (lv_at hl 1 rfl) ?_
    refine lv_iconst (v := 0) hx hb dX2_put_53 (by decide) ?_
    refine zc_iast hx hb hK hP hD hS 4 0 rfl rfl k rfl (by first | assumption | omega) (by decide) dX2_put_54 (fun H locs hP hD hS => ?_)
    have hP : va_P (dC, dI) vwCl [(h, .inr (3, [.ref aL, .ref aF, .ref aS, .ref aN, .int z])), (aL, .inl (cI, 100, .inl (upd L k x))), (aF, .inl (cZ, 100, .inl (upd F k b))), (aS, .inl (cI, 100, .inl (upd S k y))), (aN, .inl (cI, 100, .inl (upd N k 0)))] H := hP
    have hD : va_D A [(h, .inr (3, [.ref aL, .ref aF, .ref aS, .ref aN, .int z])), (aL, .inl (cI, 100, .inl (upd L k x))), (aF, .inl (cZ, 100, .inl (upd F k b))), (aS, .inl (cI, 100, .inl (upd S k y))), (aN, .inl (cI, 100, .inl (upd N k 0)))] := hD
    have hP9 : va_P (dC, dI) vwCl [(h, .inr (3, [.ref aL, .ref aF, .ref aS, .ref aN, .int (zi (zp_has L (nI k)) z (z + 1))])), (aL, .inl (cI, 100, .inl (upd L k x))), (aF, .inl (cZ, 100, .inl (upd F k b))), (aS, .inl (cI, 100, .inl (upd S k y))), (aN, .inl (cI, 100, .inl (upd N k 0)))] H := by rw [ez]; exact hP
    have hD9 : va_D A [(h, .inr (3, [.ref aL, .ref aF, .ref aS, .ref aN, .int (zi (zp_has L (nI k)) z (z + 1))])), (aL, .inl (cI, 100, .inl (upd L k x))), (aF, .inl (cZ, 100, .inl (upd F k b))), (aS, .inl (cI, 100, .inl (upd S k y))), (aN, .inl (cI, 100, .inl (upd N k 0)))] := by rw [ez]; exact hD
    exact W.vret hx hb hr (fun t ht hW => ⟨⟨(), rfl, trivial, by rw [ht]; exact hP9, va_K.moved hW.alike hK, hD9⟩, hS.F ht⟩) hS.2.2 dX2_put_55
  · have ez : zi (zp_has L (nI k)) z (z + 1) = z + 1 := zi_f (zb_0 c13)
    refine lv_aload_n hx hb dX2_put_16 rfl (lv_at hl 0 rfl) ?_
    refine lv_dup hx hb dX2_put_17 rfl ?_
    refine va_get (D := (dC, dI)) (ci := 3) (v := .int z) (C := RX2) (T := TX2) (N := 5) hx hb hts hinX2 hown hK hP 0 rfl rfl 4 (by decide) (hts (.fieldLink RX2 25 "ScanCodes$Prefixes" "size" "I") (by decide +kernel)) (fun _ h9 => h9) rfl dX2_put_18 ?_
    refine lv_iconst (v := 1) hx hb dX2_put_21 (by decide) ?_
    refine lv_iadd hx hb dX2_put_22 ?_
    refine va_put (D := (dC, dI)) (ci := 3) (v := .int (z + 1)) (ty := .int) (C := RX2) (T := TX2) (N := 5) hx hb hts hinX2 tyX2 tyX2_ok nmX2 hown hK hP hD hS 0 rfl rfl 4 (by decide) (hts (.fieldLink RX2 25 "ScanCodes$Prefixes" "size" "I") (by decide +kernel)) (fun _ h9 => h9) rfl (by decide +kernel) rfl rfl (Nat.le_of_ble_eq_true rfl) dX2_put_23 (fun H locs hP hD hS => ?_)
    have hP : va_P (dC, dI) vwCl [(h, .inr (3, [.ref aL, .ref aF, .ref aS, .ref aN, .int (z + 1)])), (aL, .inl (cI, 100, .inl L)), (aF, .inl (cZ, 100, .inl F)), (aS, .inl (cI, 100, .inl S)), (aN, .inl (cI, 100, .inl N))] H := hP
    have hD : va_D A [(h, .inr (3, [.ref aL, .ref aF, .ref aS, .ref aN, .int (z + 1)])), (aL, .inl (cI, 100, .inl L)), (aF, .inl (cZ, 100, .inl F)), (aS, .inl (cI, 100, .inl S)), (aN, .inl (cI, 100, .inl N))] := hD
    refine lv_aload_n hx hb dX2_put_26 rfl (lv_at hl 0 rfl) ?_
    refine va_get (D := (dC, dI)) (ci := 3) (v := .ref aL) (C := RX2) (T := TX2) (N := 5) hx hb hts hinX2 hown hK hP 0 rfl rfl 0 (by decide) (hts (.fieldLink RX2 9 "ScanCodes$Prefixes" "lengths" "[I") (by decide +kernel)) (fun _ h9 => h9) rfl dX2_put_27 ?_
    refine lv_iload_n hx hb dX2_put_30 rfl (lv_at hl 1 rfl) ?_
    refine lv_iload_n hx hb dX2_put_31 rfl (lv_at hl 2 rfl) ?_
    refine zc_iast hx hb hK hP hD hS 1 0 rfl rfl k rfl (by first | assumption | omega) (by decide) dX2_put_32 (fun H locs hP hD hS => ?_)
    have hP : va_P (dC, dI) vwCl [(h, .inr (3, [.ref aL, .ref aF, .ref aS, .ref aN, .int (z + 1)])), (aL, .inl (cI, 100, .inl (upd L k x))), (aF, .inl (cZ, 100, .inl F)), (aS, .inl (cI, 100, .inl S)), (aN, .inl (cI, 100, .inl N))] H := hP
    have hD : va_D A [(h, .inr (3, [.ref aL, .ref aF, .ref aS, .ref aN, .int (z + 1)])), (aL, .inl (cI, 100, .inl (upd L k x))), (aF, .inl (cZ, 100, .inl F)), (aS, .inl (cI, 100, .inl S)), (aN, .inl (cI, 100, .inl N))] := hD
    refine lv_aload_n hx hb dX2_put_33 rfl (lv_at hl 0 rfl) ?_
    refine va_get (D := (dC, dI)) (ci := 3) (v := .ref aF) (C := RX2) (T := TX2) (N := 5) hx hb hts hinX2 hown hK hP 0 rfl rfl 1 (by decide) (hts (.fieldLink RX2 15 "ScanCodes$Prefixes" "fixed" "[Z") (by decide +kernel)) (fun _ h9 => h9) rfl dX2_put_34 ?_
    refine lv_iload_n hx hb dX2_put_37 rfl (lv_at hl 1 rfl) ?_
    refine lv_iload_n hx hb dX2_put_38 rfl (lv_at hl 3 rfl) ?_
    refine zc_zast hx hb hK hP hD hS 2 1 rfl rfl k rfl (by first | assumption | omega) (by decide) hbool dX2_put_39 (fun H locs hP hD hS => ?_)
    have hP : va_P (dC, dI) vwCl [(h, .inr (3, [.ref aL, .ref aF, .ref aS, .ref aN, .int (z + 1)])), (aL, .inl (cI, 100, .inl (upd L k x))), (aF, .inl (cZ, 100, .inl (upd F k b))), (aS, .inl (cI, 100, .inl S)), (aN, .inl (cI, 100, .inl N))] H := hP
    have hD : va_D A [(h, .inr (3, [.ref aL, .ref aF, .ref aS, .ref aN, .int (z + 1)])), (aL, .inl (cI, 100, .inl (upd L k x))), (aF, .inl (cZ, 100, .inl (upd F k b))), (aS, .inl (cI, 100, .inl S)), (aN, .inl (cI, 100, .inl N))] := hD
    refine lv_aload_n hx hb dX2_put_40 rfl (lv_at hl 0 rfl) ?_
    refine va_get (D := (dC, dI)) (ci := 3) (v := .ref aS) (C := RX2) (T := TX2) (N := 5) hx hb hts hinX2 hown hK hP 0 rfl rfl 2 (by decide) (hts (.fieldLink RX2 19 "ScanCodes$Prefixes" "stations" "[I") (by decide +kernel)) (fun _ h9 => h9) rfl dX2_put_41 ?_
    refine lv_iload_n hx hb dX2_put_44 rfl (lv_at hl 1 rfl) ?_
    refine lv_iload hx hb dX2_put_45 (lv_at hl 4 rfl) ?_
    refine zc_iast hx hb hK hP hD hS 3 0 rfl rfl k rfl (by first | assumption | omega) (by decide) dX2_put_47 (fun H locs hP hD hS => ?_)
    have hP : va_P (dC, dI) vwCl [(h, .inr (3, [.ref aL, .ref aF, .ref aS, .ref aN, .int (z + 1)])), (aL, .inl (cI, 100, .inl (upd L k x))), (aF, .inl (cZ, 100, .inl (upd F k b))), (aS, .inl (cI, 100, .inl (upd S k y))), (aN, .inl (cI, 100, .inl N))] H := hP
    have hD : va_D A [(h, .inr (3, [.ref aL, .ref aF, .ref aS, .ref aN, .int (z + 1)])), (aL, .inl (cI, 100, .inl (upd L k x))), (aF, .inl (cZ, 100, .inl (upd F k b))), (aS, .inl (cI, 100, .inl (upd S k y))), (aN, .inl (cI, 100, .inl N))] := hD
    refine lv_aload_n hx hb dX2_put_48 rfl (lv_at hl 0 rfl) ?_
    refine va_get (D := (dC, dI)) (ci := 3) (v := .ref aN) (C := RX2) (T := TX2) (N := 5) hx hb hts hinX2 hown hK hP 0 rfl rfl 3 (by decide) (hts (.fieldLink RX2 22 "ScanCodes$Prefixes" "needs" "[I") (by decide +kernel)) (fun _ h9 => h9) rfl dX2_put_49 ?_
    refine lv_iload_n hx hb dX2_put_52 rfl (lv_at hl 1 rfl) ?_
    refine lv_iconst (v := 0) hx hb dX2_put_53 (by decide) ?_
    refine zc_iast hx hb hK hP hD hS 4 0 rfl rfl k rfl (by first | assumption | omega) (by decide) dX2_put_54 (fun H locs hP hD hS => ?_)
    have hP : va_P (dC, dI) vwCl [(h, .inr (3, [.ref aL, .ref aF, .ref aS, .ref aN, .int (z + 1)])), (aL, .inl (cI, 100, .inl (upd L k x))), (aF, .inl (cZ, 100, .inl (upd F k b))), (aS, .inl (cI, 100, .inl (upd S k y))), (aN, .inl (cI, 100, .inl (upd N k 0)))] H := hP
    have hD : va_D A [(h, .inr (3, [.ref aL, .ref aF, .ref aS, .ref aN, .int (z + 1)])), (aL, .inl (cI, 100, .inl (upd L k x))), (aF, .inl (cZ, 100, .inl (upd F k b))), (aS, .inl (cI, 100, .inl (upd S k y))), (aN, .inl (cI, 100, .inl (upd N k 0)))] := hD
    have hP9 : va_P (dC, dI) vwCl [(h, .inr (3, [.ref aL, .ref aF, .ref aS, .ref aN, .int (zi (zp_has L (nI k)) z (z + 1))])), (aL, .inl (cI, 100, .inl (upd L k x))), (aF, .inl (cZ, 100, .inl (upd F k b))), (aS, .inl (cI, 100, .inl (upd S k y))), (aN, .inl (cI, 100, .inl (upd N k 0)))] H := by rw [ez]; exact hP
    have hD9 : va_D A [(h, .inr (3, [.ref aL, .ref aF, .ref aS, .ref aN, .int (zi (zp_has L (nI k)) z (z + 1))])), (aL, .inl (cI, 100, .inl (upd L k x))), (aF, .inl (cZ, 100, .inl (upd F k b))), (aS, .inl (cI, 100, .inl (upd S k y))), (aN, .inl (cI, 100, .inl (upd N k 0)))] := by rw [ez]; exact hD
    exact W.vret hx hb hr (fun t ht hW => ⟨⟨(), rfl, trivial, by rw [ht]; exact hP9, va_K.moved hW.alike hK, hD9⟩, hS.F ht⟩) hS.2.2 dX2_put_55
set_option maxHeartbeats 4000000 in
set_option maxRecDepth 100000 in
theorem c_X2_lets (l : Launch) (dC : Nat → ClassId) (dI : Nat → Nat → Nat) (cI cZ cJ : ClassId) (h : Nat) (aL : Nat) (aF : Nat) (aS : Nat) (aN : Nat) (z : Int32) (L : Nat → Int32) (F : Nat → Int32) (S : Nat → Int32) (N : Nat → Int32) (k : Nat) (d : Int32) (h1 : 10 ≤ k) (h2 : k ≤ 99) (h3 : ¬ L k ≤ 0) : Met l yX2_lets wsX2_lets ({ frames := 2, cells := 0, slots := 0, locals := 42 }) (zc_P [.ref h, .int (nI k), .int d] (dC, dI) (zc_T cI cZ cJ) [(h, .inr (3, [.ref aL, .ref aF, .ref aS, .ref aN, .int z])), (aL, .inl (cI, 100, .inl L)), (aF, .inl (cZ, 100, .inl F)), (aS, .inl (cI, 100, .inl S)), (aN, .inl (cI, 100, .inl N))]) (zc_Q (.int (zb (zp_lets L F k d)))) 0 0 (fun _ => False) := by
  refine Met.ofW (cc := cX2_lets) (maxL := 4) (ret := (some .boolean)) (by decide) rfl ?_
  intro p e s m args below meth c s₁ B hml hv
  obtain ⟨rfl, hP, hK⟩ := hv
  have hx := B.exec
  have hb := B.bytes
  have hr := B.returns
  have hts := atoms_spec (ws := wsX2_lets) B.pre
  have hown : s.vm.findClass RX2 = some m.cls := findClass_of_methodNamed B.named
  have hlocks := B.notSynchronized
  have hl := lv_entry ([.ref h, .int (nI k), .int d]) (n := 4) (Nat.le_of_ble_eq_true rfl)
  rw [lg_entry_eq]
  generalize (lg_sl ([.ref h, .int (nI k), .int d]) ++ List.replicate (4 - (lg_sl ([.ref h, .int (nI k), .int d])).length) Slot.unset).toArray = ls at hl ⊢
  have hl : lv_has ls 4 [(0, .ref h), (1, .int (nI k)), (2, .int d)] := hl
  refine lv_aload_n hx hb dX2_lets_0 rfl (lv_at hl 0 rfl) ?_
  refine lv_iload_n hx hb dX2_lets_1 rfl (lv_at hl 1 rfl) ?_
  refine zc_callR (va_runV (As := [.int (nI k)]) (rest := []) ⟨hx, hb, hml, hown, hts⟩ (c_X2_lengthOf l dC dI cI cZ cJ h aL aF aS aN z L F S N k (by first | assumption | omega) (by first | assumption | omega) (by first | assumption | omega)) (zc_V 1 hts ggX2_lets_X2_lengthOf rfl rfl rfl (by decide +kernel) (by decide +kernel) ⟨Nat.le_of_ble_eq_true rfl, Nat.le_of_ble_eq_true rfl⟩) ⟨zc_blind, va_recv hK hP (ci := 3) (q0 := 0) rfl rfl, zc_pay (hP.sub (ws' := [(h, .inr (3, [.ref aL, .ref aF, .ref aS, .ref aN, .int z])), (aL, .inl (cI, 100, .inl L)), (aF, .inl (cZ, 100, .inl F)), (aS, .inl (cI, 100, .inl S)), (aN, .inl (cI, 100, .inl N))]) [0, 1, 2, 3, 4] rfl) hK⟩ rfl rfl hl.1 rfl (lv_room (Nat.le_of_ble_eq_true rfl)) dX2_lets_2 ⟨Nat.le_of_ble_eq_true rfl, Nat.le_of_ble_eq_true rfl⟩) ?_
  refine lv_istore_n (lv' := [(3, .int (L k)), (0, .ref h), (1, .int (nI k)), (2, .int d)]) hx hb dX2_lets_5 rfl hl (by decide) rfl (fun ls hl => ?_)
  refine lv_aload_n hx hb dX2_lets_6 rfl (lv_at hl 1 rfl) ?_
  refine lv_iload_n hx hb dX2_lets_7 rfl (lv_at hl 2 rfl) ?_
  refine zc_callR (va_runV (As := [.int (nI k)]) (rest := []) ⟨hx, hb, hml, hown, hts⟩ (c_X2_isFixed l dC dI cI cZ cJ h aL aF aS aN z L F S N k (by first | assumption | omega) (by first | assumption | omega) (by first | assumption | omega)) (zc_V 1 hts ggX2_lets_X2_isFixed rfl rfl rfl (by decide +kernel) (by decide +kernel) ⟨Nat.le_of_ble_eq_true rfl, Nat.le_of_ble_eq_true rfl⟩) ⟨zc_blind, va_recv hK hP (ci := 3) (q0 := 0) rfl rfl, zc_pay (hP.sub (ws' := [(h, .inr (3, [.ref aL, .ref aF, .ref aS, .ref aN, .int z])), (aL, .inl (cI, 100, .inl L)), (aF, .inl (cZ, 100, .inl F)), (aS, .inl (cI, 100, .inl S)), (aN, .inl (cI, 100, .inl N))]) [0, 1, 2, 3, 4] rfl) hK⟩ rfl rfl hl.1 rfl (lv_room (Nat.le_of_ble_eq_true rfl)) dX2_lets_8 ⟨Nat.le_of_ble_eq_true rfl, Nat.le_of_ble_eq_true rfl⟩) ?_
  refine lv_if_eq (tgt := 27) hx hb dX2_lets_11 (by decide) (fun c11 => ?_) (fun c11 => ?_)
  · have hf : F k = 0 := Classical.byContradiction (zb_0 c11)
    refine lv_iload_n hx hb dX2_lets_27 rfl (lv_at hl 3 rfl) ?_
    refine lv_iload_n hx hb dX2_lets_28 rfl (lv_at hl 0 rfl) ?_
    refine lv_icmp_gt (tgt := 36) hx hb dX2_lets_29 (by decide) (fun c29 => ?_) (fun c29 => ?_)
    · refine lv_iconst (v := 0) hx hb dX2_lets_36 (by decide) ?_
      have hres : (0 : Int32) = zb (zp_lets L F k d) := by exact (zb_f (fun q => q.elim (fun z => z.1 hf) (fun z => Int32.not_le.mpr c29 z.2))).symm
      exact W.zret (v := 0) hx hb hr rfl (fun t ht _ => ⟨congrArg (fun z => Outcome.returned (some (Value.int z))) hres, ht⟩) (fun _ h => nomatch h) dX2_lets_37
    · refine lv_iconst (v := 1) hx hb dX2_lets_32 (by decide) ?_
      refine lv_goto (tgt := 37) hx hb dX2_lets_33 (by decide) ?_
      have hres : (1 : Int32) = zb (zp_lets L F k d) := by exact (zb_t (Or.inr ⟨hf, Int32.not_lt.mp c29⟩)).symm
      exact W.zret (v := 1) hx hb hr rfl (fun t ht _ => ⟨congrArg (fun z => Outcome.returned (some (Value.int z))) hres, ht⟩) (fun _ h => nomatch h) dX2_lets_37
  · have hf : ¬ F k = 0 := zb_1 c11
    refine lv_iload_n hx hb dX2_lets_14 rfl (lv_at hl 3 rfl) ?_
    refine lv_iload_n hx hb dX2_lets_15 rfl (lv_at hl 0 rfl) ?_
    refine lv_icmp_ne (tgt := 23) hx hb dX2_lets_16 (by decide) (fun c16 => ?_) (fun c16 => ?_)
    · refine lv_iconst (v := 0) hx hb dX2_lets_23 (by decide) ?_
      refine lv_goto (tgt := 37) hx hb dX2_lets_24 (by decide) ?_
      have hres : (0 : Int32) = zb (zp_lets L F k d) := by exact (zb_f (fun q => q.elim (fun z => c16 z.2) (fun z => hf z.1))).symm
      exact W.zret (v := 0) hx hb hr rfl (fun t ht _ => ⟨congrArg (fun z => Outcome.returned (some (Value.int z))) hres, ht⟩) (fun _ h => nomatch h) dX2_lets_37
    · refine lv_iconst (v := 1) hx hb dX2_lets_19 (by decide) ?_
      refine lv_goto (tgt := 37) hx hb dX2_lets_20 (by decide) ?_
      have hres : (1 : Int32) = zb (zp_lets L F k d) := by exact (zb_t (Or.inl ⟨hf, c16⟩)).symm
      exact W.zret (v := 1) hx hb hr rfl (fun t ht _ => ⟨congrArg (fun z => Outcome.returned (some (Value.int z))) hres, ht⟩) (fun _ h => nomatch h) dX2_lets_37
set_option maxHeartbeats 4000000 in
set_option maxRecDepth 100000 in
theorem c_X2_differInOneDigit (l : Launch) (dC : Nat → ClassId) (dI : Nat → Nat → Nat) (cI cZ cJ : ClassId) (a : Int32) (b : Int32) : Met l yX2_differInOneDigit wsX2_differInOneDigit ({ frames := 0, cells := 0, slots := 0, locals := 0 }) (zc_P [.int a, .int b] (dC, dI) (zc_T cI cZ cJ) []) (zc_Q (.int (zb (zp_one a b)))) 0 0 (fun _ => False) := by
  refine Met.ofW (cc := cX2_differInOneDigit) (maxL := 4) (ret := (some .boolean)) (by decide) rfl ?_
  intro p e s m args below meth c s₁ B hml hv
  obtain ⟨rfl, hP, hK⟩ := hv
  have hx := B.exec
  have hb := B.bytes
  have hr := B.returns
  have hts := atoms_spec (ws := wsX2_differInOneDigit) B.pre
  have hown : s.vm.findClass RX2 = some m.cls := findClass_of_methodNamed B.named
  have hlocks := B.notSynchronized
  have hl := lv_entry ([.int a, .int b]) (n := 4) (Nat.le_of_ble_eq_true rfl)
  rw [lg_entry_eq]
  generalize (lg_sl ([.int a, .int b]) ++ List.replicate (4 - (lg_sl ([.int a, .int b])).length) Slot.unset).toArray = ls at hl ⊢
  have hl : lv_has ls 4 [(0, .int a), (1, .int b)] := hl
  refine lv_iload_n hx hb dX2_differInOneDigit_0 rfl (lv_at hl 0 rfl) ?_
  refine lv_bipush (v := 10) hx hb dX2_differInOneDigit_1 (by decide) ?_
  refine lv_idiv hx hb dX2_differInOneDigit_3 (by decide) ?_
  refine lv_iload_n hx hb dX2_differInOneDigit_4 rfl (lv_at hl 1 rfl) ?_
  refine lv_bipush (v := 10) hx hb dX2_differInOneDigit_5 (by decide) ?_
  refine lv_idiv hx hb dX2_differInOneDigit_7 (by decide) ?_
  refine lv_icmp_eq (tgt := 15) hx hb dX2_differInOneDigit_8 (by decide) (fun c8 => ?_) (fun c8 => ?_)
  · refine lv_iconst (v := 0) hx hb dX2_differInOneDigit_15 (by decide) ?_
    refine lv_istore_n (lv' := [(2, .int 0), (0, .int a), (1, .int b)]) hx hb dX2_differInOneDigit_16 rfl hl (by decide) rfl (fun ls hl => ?_)
    refine lv_iload_n hx hb dX2_differInOneDigit_17 rfl (lv_at hl 1 rfl) ?_
    refine lv_bipush (v := 10) hx hb dX2_differInOneDigit_18 (by decide) ?_
    refine lv_irem hx hb dX2_differInOneDigit_20 (by decide) ?_
    refine lv_iload_n hx hb dX2_differInOneDigit_21 rfl (lv_at hl 2 rfl) ?_
    refine lv_bipush (v := 10) hx hb dX2_differInOneDigit_22 (by decide) ?_
    refine lv_irem hx hb dX2_differInOneDigit_24 (by decide) ?_
    refine lv_icmp_eq (tgt := 32) hx hb dX2_differInOneDigit_25 (by decide) (fun c25 => ?_) (fun c25 => ?_)
    · refine lv_iconst (v := 0) hx hb dX2_differInOneDigit_32 (by decide) ?_
      refine lv_istore_n (lv' := [(3, .int 0), (2, .int 0), (0, .int a), (1, .int b)]) hx hb dX2_differInOneDigit_33 rfl hl (by decide) rfl (fun ls hl => ?_)
      refine lv_iload_n hx hb dX2_differInOneDigit_34 rfl (lv_at hl 1 rfl) ?_
      refine lv_iload_n hx hb dX2_differInOneDigit_35 rfl (lv_at hl 0 rfl) ?_
      refine lv_icmp_eq (tgt := 43) hx hb dX2_differInOneDigit_36 (by decide) (fun c36 => ?_) (fun c36 => absurd rfl c36)
      refine lv_iconst (v := 0) hx hb dX2_differInOneDigit_43 (by decide) ?_
      have hres : (0 : Int32) = zb (zp_one a b) := by exact (zb_f (fun q => q ⟨fun _ => c25, fun _ => c8⟩)).symm
      exact W.zret (v := 0) hx hb hr rfl (fun t ht _ => ⟨congrArg (fun z => Outcome.returned (some (Value.int z))) hres, ht⟩) (fun _ h => nomatch h) dX2_differInOneDigit_44
    · refine lv_iconst (v := 1) hx hb dX2_differInOneDigit_28 (by decide) ?_
      refine lv_goto (tgt := 33) hx hb dX2_differInOneDigit_29 (by decide) ?_
      refine lv_istore_n (lv' := [(3, .int 1), (2, .int 0), (0, .int a), (1, .int b)]) hx hb dX2_differInOneDigit_33 rfl hl (by decide) rfl (fun ls hl => ?_)
      refine lv_iload_n hx hb dX2_differInOneDigit_34 rfl (lv_at hl 1 rfl) ?_
      refine lv_iload_n hx hb dX2_differInOneDigit_35 rfl (lv_at hl 0 rfl) ?_
      refine lv_icmp_eq (tgt := 43) hx hb dX2_differInOneDigit_36 (by decide) (fun c36 => absurd c36 (by decide)) (fun c36 => ?_)
      refine lv_iconst (v := 1) hx hb dX2_differInOneDigit_39 (by decide) ?_
      refine lv_goto (tgt := 44) hx hb dX2_differInOneDigit_40 (by decide) ?_
      have hres : (1 : Int32) = zb (zp_one a b) := by exact (zb_t (fun q => c25 (q.mp c8))).symm
      exact W.zret (v := 1) hx hb hr rfl (fun t ht _ => ⟨congrArg (fun z => Outcome.returned (some (Value.int z))) hres, ht⟩) (fun _ h => nomatch h) dX2_differInOneDigit_44
  · refine lv_iconst (v := 1) hx hb dX2_differInOneDigit_11 (by decide) ?_
    refine lv_goto (tgt := 16) hx hb dX2_differInOneDigit_12 (by decide) ?_
    refine lv_istore_n (lv' := [(2, .int 1), (0, .int a), (1, .int b)]) hx hb dX2_differInOneDigit_16 rfl hl (by decide) rfl (fun ls hl => ?_)
    refine lv_iload_n hx hb dX2_differInOneDigit_17 rfl (lv_at hl 1 rfl) ?_
    refine lv_bipush (v := 10) hx hb dX2_differInOneDigit_18 (by decide) ?_
    refine lv_irem hx hb dX2_differInOneDigit_20 (by decide) ?_
    refine lv_iload_n hx hb dX2_differInOneDigit_21 rfl (lv_at hl 2 rfl) ?_
    refine lv_bipush (v := 10) hx hb dX2_differInOneDigit_22 (by decide) ?_
    refine lv_irem hx hb dX2_differInOneDigit_24 (by decide) ?_
    refine lv_icmp_eq (tgt := 32) hx hb dX2_differInOneDigit_25 (by decide) (fun c25 => ?_) (fun c25 => ?_)
    · refine lv_iconst (v := 0) hx hb dX2_differInOneDigit_32 (by decide) ?_
      refine lv_istore_n (lv' := [(3, .int 0), (2, .int 1), (0, .int a), (1, .int b)]) hx hb dX2_differInOneDigit_33 rfl hl (by decide) rfl (fun ls hl => ?_)
      refine lv_iload_n hx hb dX2_differInOneDigit_34 rfl (lv_at hl 1 rfl) ?_
      refine lv_iload_n hx hb dX2_differInOneDigit_35 rfl (lv_at hl 0 rfl) ?_
      refine lv_icmp_eq (tgt := 43) hx hb dX2_differInOneDigit_36 (by decide) (fun c36 => absurd c36 (by decide)) (fun c36 => ?_)
      refine lv_iconst (v := 1) hx hb dX2_differInOneDigit_39 (by decide) ?_
      refine lv_goto (tgt := 44) hx hb dX2_differInOneDigit_40 (by decide) ?_
      have hres : (1 : Int32) = zb (zp_one a b) := by exact (zb_t (fun q => c8 (q.mpr c25))).symm
      exact W.zret (v := 1) hx hb hr rfl (fun t ht _ => ⟨congrArg (fun z => Outcome.returned (some (Value.int z))) hres, ht⟩) (fun _ h => nomatch h) dX2_differInOneDigit_44
    · refine lv_iconst (v := 1) hx hb dX2_differInOneDigit_28 (by decide) ?_
      refine lv_goto (tgt := 33) hx hb dX2_differInOneDigit_29 (by decide) ?_
      refine lv_istore_n (lv' := [(3, .int 1), (2, .int 1), (0, .int a), (1, .int b)]) hx hb dX2_differInOneDigit_33 rfl hl (by decide) rfl (fun ls hl => ?_)
      refine lv_iload_n hx hb dX2_differInOneDigit_34 rfl (lv_at hl 1 rfl) ?_
      refine lv_iload_n hx hb dX2_differInOneDigit_35 rfl (lv_at hl 0 rfl) ?_
      refine lv_icmp_eq (tgt := 43) hx hb dX2_differInOneDigit_36 (by decide) (fun c36 => ?_) (fun c36 => absurd rfl c36)
      refine lv_iconst (v := 0) hx hb dX2_differInOneDigit_43 (by decide) ?_
      have hres : (0 : Int32) = zb (zp_one a b) := by exact (zb_f (fun q => q ⟨fun z => absurd z c8, fun z => absurd z c25⟩)).symm
      exact W.zret (v := 0) hx hb hr rfl (fun t ht _ => ⟨congrArg (fun z => Outcome.returned (some (Value.int z))) hres, ht⟩) (fun _ h => nomatch h) dX2_differInOneDigit_44
set_option maxHeartbeats 4000000 in
set_option maxRecDepth 100000 in
theorem c_X2_nearTo (l : Launch) (dC : Nat → ClassId) (dI : Nat → Nat → Nat) (cI cZ cJ : ClassId) (h : Nat) (aL : Nat) (aF : Nat) (aS : Nat) (aN : Nat) (z : Int32) (L : Nat → Int32) (F : Nat → Int32) (S : Nat → Int32) (N : Nat → Int32) (u : Int32) (i : Int32) : Met l yX2_nearTo wsX2_nearTo ({ frames := 1, cells := 0, slots := 0, locals := 23 }) (zc_P [.ref h, .int u, .int i] (dC, dI) (zc_T cI cZ cJ) [(h, .inr (3, [.ref aL, .ref aF, .ref aS, .ref aN, .int z])), (aL, .inl (cI, 100, .inl L)), (aF, .inl (cZ, 100, .inl F)), (aS, .inl (cI, 100, .inl S)), (aN, .inl (cI, 100, .inl N))]) (zc_Q (.int (zp_near L u i 90 10 0))) 0 0 (fun _ => False) := by
  refine Met.ofW (cc := cX2_nearTo) (maxL := 5) (ret := (some .int)) (by decide) rfl ?_
  intro p e s m args below meth c s₁ B hml hv
  obtain ⟨rfl, hP, hK⟩ := hv
  have hx := B.exec
  have hb := B.bytes
  have hr := B.returns
  have hts := atoms_spec (ws := wsX2_nearTo) B.pre
  have hown : s.vm.findClass RX2 = some m.cls := findClass_of_methodNamed B.named
  have hlocks := B.notSynchronized
  have hl := lv_entry ([.ref h, .int u, .int i]) (n := 5) (Nat.le_of_ble_eq_true rfl)
  rw [lg_entry_eq]
  generalize (lg_sl ([.ref h, .int u, .int i]) ++ List.replicate (5 - (lg_sl ([.ref h, .int u, .int i])).length) Slot.unset).toArray = ls at hl ⊢
  have hl : lv_has ls 5 [(0, .ref h), (1, .int u), (2, .int i)] := hl
  refine lv_iconst (v := 0) hx hb dX2_nearTo_0 (by decide) ?_
  refine lv_istore_n (lv' := [(3, .int 0), (0, .ref h), (1, .int u), (2, .int i)]) hx hb dX2_nearTo_1 rfl hl (by decide) rfl (fun ls hl => ?_)
  refine lv_bipush (v := 10) hx hb dX2_nearTo_2 (by decide) ?_
  refine lv_istore (lv' := [(4, .int 10), (3, .int 0), (0, .ref h), (1, .int u), (2, .int i)]) hx hb dX2_nearTo_4 hl (by decide) rfl (fun ls hl => ?_)
  refine zc_loop (α := Nat × Nat × Int32) (fun (⟨k, pn, b⟩ : Nat × Nat × Int32) ls => lv_has ls 5 [(4, .int (nI pn)), (3, .int b), (0, .ref h), (1, .int u), (2, .int i)] ∧ (pn + k = 100) ∧ (zp_near L u i k pn b = zp_near L u i 90 10 0)) (fun (⟨k, pn, b⟩ : Nat × Nat × Int32) => k) ⟨90, 10, 0⟩ ⟨lv_sub hl [0, 1, 2, 3, 4] rfl, rfl, rfl⟩ ?_
  intro x ls hI ih6
  obtain ⟨k, pn, b⟩ := x
  obtain ⟨hl, hi1, hi2⟩ := hI
  have hl : lv_has ls 5 [(4, .int (nI pn)), (3, .int b), (0, .ref h), (1, .int u), (2, .int i)] := hl
  try dsimp only at ih6
  refine lv_iload hx hb dX2_nearTo_6 (lv_at hl 0 rfl) ?_
  refine lv_bipush (v := 99) hx hb dX2_nearTo_8 (by decide) ?_
  refine lv_icmp_gt (tgt := 48) hx hb dX2_nearTo_10 (by decide) (fun c10 => ?_) (fun c10 => ?_)
  · have hk0 : k = 0 := by have := zn_lt (a := 99) c10 (by decide) (by omega); omega
    rw [hk0, zp_near] at hi2
    refine lv_iconst (v := (-1)) hx hb dX2_nearTo_48 (by decide) ?_
    have hres : ((-1) : Int32) = zp_near L u i 90 10 0 := by exact hi2
    exact W.iret (v := (-1)) hx hb hr (fun t ht _ => ⟨congrArg (fun z => Outcome.returned (some (Value.int z))) hres, ht⟩) (fun _ h => nomatch h) dX2_nearTo_49
  · have hk0 : 0 < k := by have := zn_nlt (a := 99) c10 (by decide) (by omega); omega
    obtain ⟨k2, hk2⟩ : ∃ k2, k = k2 + 1 := ⟨k - 1, by omega⟩
    rw [hk2, zp_near] at hi2
    refine lv_aload_n hx hb dX2_nearTo_13 rfl (lv_at hl 2 rfl) ?_
    refine lv_iload hx hb dX2_nearTo_14 (lv_at hl 0 rfl) ?_
    refine zc_callR (va_runV (As := [.int (nI pn)]) (rest := []) ⟨hx, hb, hml, hown, hts⟩ (c_X2_has l dC dI cI cZ cJ h aL aF aS aN z L F S N (nI pn)) (zc_V 1 hts ggX2_nearTo_X2_has rfl rfl rfl (by decide +kernel) (by decide +kernel) ⟨Nat.le_of_ble_eq_true rfl, Nat.le_of_ble_eq_true rfl⟩) ⟨zc_blind, va_recv hK hP (ci := 3) (q0 := 0) rfl rfl, zc_pay (hP.sub (ws' := [(h, .inr (3, [.ref aL, .ref aF, .ref aS, .ref aN, .int z])), (aL, .inl (cI, 100, .inl L)), (aF, .inl (cZ, 100, .inl F)), (aS, .inl (cI, 100, .inl S)), (aN, .inl (cI, 100, .inl N))]) [0, 1, 2, 3, 4] rfl) hK⟩ rfl rfl hl.1 rfl (lv_room (Nat.le_of_ble_eq_true rfl)) dX2_nearTo_16 ⟨Nat.le_of_ble_eq_true rfl, Nat.le_of_ble_eq_true rfl⟩) ?_
    refine lv_if_eq (tgt := 42) hx hb dX2_nearTo_19 (by decide) (fun c19 => ?_) (fun c19 => ?_)
    · rw [zi_f (fun q => zb_0 c19 q.1)] at hi2
      refine lv_iinc (v := nI (pn + 1)) (lv' := [(4, .int (nI (pn + 1))), (3, .int b), (0, .ref h), (1, .int u), (2, .int i)]) hx hb dX2_nearTo_42 hl (k := 0) rfl (nI_1 pn) (by decide) rfl (fun ls hl => ?_)
      refine lv_goto (tgt := 6) hx hb dX2_nearTo_45 (by decide) ?_
      exact ih6 ⟨k2, pn + 1, b⟩ _ (by simp only []; omega) ⟨lv_sub hl [0, 1, 2, 3, 4] rfl, by dsimp only; omega, hi2⟩
    · have hh := zb_1 c19
      refine lv_iload hx hb dX2_nearTo_22 (lv_at hl 0 rfl) ?_
      refine lv_iload_n hx hb dX2_nearTo_24 rfl (lv_at hl 3 rfl) ?_
      refine zc_callR (va_runS (As := [.int (nI pn), .int u]) (rest := []) ⟨hx, hb, hml, hown, hts⟩ (c_X2_differInOneDigit l dC dI cI cZ cJ (nI pn) u) (zc_S 2 hts ggX2_nearTo_X2_differInOneDigit rfl rfl rfl (by decide +kernel) (by decide +kernel) ⟨Nat.le_of_ble_eq_true rfl, Nat.le_of_ble_eq_true rfl⟩) ⟨zc_blind, zc_pay (hP.sub (ws' := []) [] rfl) hK⟩ rfl rfl hl.1 rfl (lv_room (Nat.le_of_ble_eq_true rfl)) dX2_nearTo_25 ⟨Nat.le_of_ble_eq_true rfl, Nat.le_of_ble_eq_true rfl⟩) ?_
      refine lv_if_eq (tgt := 42) hx hb dX2_nearTo_28 (by decide) (fun c28 => ?_) (fun c28 => ?_)
      · rw [zi_f (fun q => zb_0 c28 q.2)] at hi2
        refine lv_iinc (v := nI (pn + 1)) (lv' := [(4, .int (nI (pn + 1))), (3, .int b), (0, .ref h), (1, .int u), (2, .int i)]) hx hb dX2_nearTo_42 hl (k := 0) rfl (nI_1 pn) (by decide) rfl (fun ls hl => ?_)
        refine lv_goto (tgt := 6) hx hb dX2_nearTo_45 (by decide) ?_
        exact ih6 ⟨k2, pn + 1, b⟩ _ (by simp only []; omega) ⟨lv_sub hl [0, 1, 2, 3, 4] rfl, by dsimp only; omega, hi2⟩
      · rw [zi_t ⟨hh, zb_1 c28⟩] at hi2
        refine lv_iload_n hx hb dX2_nearTo_31 rfl (lv_at hl 1 rfl) ?_
        refine lv_iload_n hx hb dX2_nearTo_32 rfl (lv_at hl 4 rfl) ?_
        refine lv_icmp_ne (tgt := 39) hx hb dX2_nearTo_33 (by decide) (fun c33 => ?_) (fun c33 => ?_)
        · rw [zi_f c33] at hi2
          refine lv_iinc (v := b + 1) (lv' := [(3, .int (b + 1)), (4, .int (nI pn)), (0, .ref h), (1, .int u), (2, .int i)]) hx hb dX2_nearTo_39 hl (k := 1) rfl (rfl) (by decide) rfl (fun ls hl => ?_)
          refine lv_iinc (v := nI (pn + 1)) (lv' := [(4, .int (nI (pn + 1))), (3, .int (b + 1)), (0, .ref h), (1, .int u), (2, .int i)]) hx hb dX2_nearTo_42 hl (k := 1) rfl (nI_1 pn) (by decide) rfl (fun ls hl => ?_)
          refine lv_goto (tgt := 6) hx hb dX2_nearTo_45 (by decide) ?_
          exact ih6 ⟨k2, pn + 1, b + 1⟩ _ (by simp only []; omega) ⟨lv_sub hl [0, 1, 2, 3, 4] rfl, by dsimp only; omega, hi2⟩
        · rw [zi_t c33] at hi2
          refine lv_iload hx hb dX2_nearTo_36 (lv_at hl 0 rfl) ?_
          have hres : (nI pn) = zp_near L u i 90 10 0 := by exact hi2
          exact W.iret (v := nI pn) hx hb hr (fun t ht _ => ⟨congrArg (fun z => Outcome.returned (some (Value.int z))) hres, ht⟩) (fun _ h => nomatch h) dX2_nearTo_38
