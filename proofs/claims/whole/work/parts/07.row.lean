/-! Row: numbers in a row. n of cap places are in use, they hold f 0 .. f (n - 1). -/
def zr_at (n : Nat) (f : Nat → Int32) (i : Int32) : Int32 := if i < 0 then -1 else if nI n ≤ i then -1 else f i.toNatClampNeg
theorem zr_at_in {n k : Nat} {f : Nat → Int32} (h : k < n) (hn : n < 2 ^ 31) : zr_at n f (nI k) = f k := by
  have h1 : ¬ nI k < 0 := nI_pos (Nat.lt_trans h hn)
  have h2 : ¬ nI n ≤ nI k := nI_ge h hn
  simp [zr_at, h1, h2, nI_clamp (Nat.lt_trans h hn)]
/-- the first separator from j on, or the end: k places are left -/
def zr_nsA (f : Nat → Int32) : Nat → Nat → Nat
  | 0, j => j
  | k + 1, j => if f j = 10 then j else zr_nsA f k (j + 1)
def zr_ns (f : Nat → Int32) (j e : Nat) : Nat := zr_nsA f (e - j) j
theorem zr_ns_end (f : Nat → Int32) (e : Nat) : zr_ns f e e = e := by simp [zr_ns, zr_nsA]
theorem zr_ns_step {f : Nat → Int32} {j e : Nat} (h : j < e) : zr_ns f j e = if f j = 10 then j else zr_ns f (j + 1) e := by
  have : e - j = (e - (j + 1)) + 1 := by omega
  rw [zr_ns, this, zr_nsA, zr_ns]
/-- the number that the digits from j on are, behind acc: k places are left -/
def zr_numA (f : Nat → Int32) : Nat → Nat → Int64 → Int64
  | 0, _, acc => acc
  | k + 1, j, acc => zr_numA f k (j + 1) (acc * 10 + (f j).toInt64)
def zr_num (f : Nat → Int32) (j e : Nat) (acc : Int64) : Int64 := zr_numA f (e - j) j acc
theorem zr_num_end (f : Nat → Int32) (e : Nat) (acc : Int64) : zr_num f e e acc = acc := by simp [zr_num, zr_numA]
theorem zr_num_step {f : Nat → Int32} {j e : Nat} {acc : Int64} (h : j < e) : zr_num f j e acc = zr_num f (j + 1) e (acc * 10 + (f j).toInt64) := by
  have : e - j = (e - (j + 1)) + 1 := by omega
  rw [zr_num, this, zr_numA, zr_num]
/-- a number without its last k digits; its k-th digit from the end -/
def zr_q (v : Int64) : Nat → Int64
  | 0 => v
  | k + 1 => zr_q v k / 10
def zr_dig (v : Int64) (k : Nat) : Int32 := (zr_q v k - zr_q v k / 10 * 10).toInt32
/-- the row behind addNumber -/
def zr_an (f : Nat → Int32) (n d : Nat) (v : Int64) : Nat → Int32 := fun j => if n ≤ j ∧ j < n + d then zr_dig v (n + d - 1 - j) else f j
/-- .. in the midst of it: zeros behind, the last k digits written -/
def zr_anK (f : Nat → Int32) (n d : Nat) (v : Int64) (k : Nat) : Nat → Int32 := fun j => if n + d - k ≤ j ∧ j < n + d then zr_dig v (n + d - 1 - j) else if n ≤ j ∧ j < n + d then 0 else f j
def zr_z (f : Nat → Int32) (n k : Nat) : Nat → Int32 := fun j => if n ≤ j ∧ j < n + k then 0 else f j
theorem zr_z0 (f : Nat → Int32) (n : Nat) : zr_z f n 0 = f := by
  funext j; simp only [zr_z]; rw [if_neg (by omega)]
theorem zr_zS (f : Nat → Int32) (n k : Nat) : upd (zr_z f n k) (n + k) 0 = zr_z f n (k + 1) := by
  funext j
  simp only [zr_z, upd]
  by_cases h : j = n + k
  · rw [if_pos h, if_pos (by omega)]
  · rw [if_neg h]
    by_cases h2 : n ≤ j ∧ j < n + k
    · rw [if_pos h2, if_pos (by omega)]
    · rw [if_neg h2, if_neg (by omega)]
theorem zr_an0 (f : Nat → Int32) (n d : Nat) (v : Int64) : zr_z f n d = zr_anK f n d v 0 := by
  funext j; simp only [zr_z, zr_anK]; rw [if_neg (by omega : ¬ (n + d - 0 ≤ j ∧ j < n + d))]
theorem zr_anS (f : Nat → Int32) {n d k : Nat} (v : Int64) (h : k < d) : upd (zr_anK f n d v k) (n + d - 1 - k) (zr_dig v k) = zr_anK f n d v (k + 1) := by
  funext j
  simp only [zr_anK, upd]
  by_cases h1 : j = n + d - 1 - k
  · rw [if_pos h1, if_pos (by omega), show n + d - 1 - j = k by omega]
  · rw [if_neg h1]
    by_cases h2 : n + d - k ≤ j ∧ j < n + d
    · rw [if_pos h2, if_pos (by omega)]
    · rw [if_neg h2, if_neg (show ¬ (n + d - (k + 1) ≤ j ∧ j < n + d) by omega)]
theorem zr_anE (f : Nat → Int32) (n d : Nat) (v : Int64) : zr_anK f n d v d = zr_an f n d v := by
  funext j
  simp only [zr_anK, zr_an]
  by_cases h : n ≤ j ∧ j < n + d
  · rw [if_pos (by omega), if_pos h]
  · rw [if_neg (by omega), if_neg h, if_neg h]

set_option maxHeartbeats 4000000 in
set_option maxRecDepth 100000 in
/-- size(): how many places are in use -/
theorem c_X3_size (l : Launch) (dC : Nat → ClassId) (dI : Nat → Nat → Nat) (cI cZ cJ : ClassId) (h : Nat) (a : Nat) (cap : Nat) (n : Nat) (f : Nat → Int32) : Met l yX3_size wsX3_size ({ frames := 0, cells := 0, slots := 0, locals := 0 }) (zc_P [.ref h] (dC, dI) (zc_T cI cZ cJ) [(h, .inr (4, [.ref a, .int (nI n)])), (a, .inl (cI, cap, .inl f))]) (zc_Q (.int (nI n))) 0 0 (fun _ => False) := by
  refine Met.ofW (cc := cX3_size) (maxL := 1) (ret := (some .int)) (by decide) rfl ?_
  intro p e s m args below meth c s₁ B hml hv
  obtain ⟨rfl, hP, hK⟩ := hv
  have hx := B.exec
  have hb := B.bytes
  have hr := B.returns
  have hts := atoms_spec (ws := wsX3_size) B.pre
  have hown : s.vm.findClass RX3 = some m.cls := findClass_of_methodNamed B.named
  have hlocks := B.notSynchronized
  have hinX3 : ∀ w ∈ wsX30, w ∈ wsX3_size := by decide +kernel
  have hl := lv_entry ([.ref h]) (n := 1) (Nat.le_of_ble_eq_true rfl)
  rw [lg_entry_eq]
  generalize (lg_sl ([.ref h]) ++ List.replicate (1 - (lg_sl ([.ref h])).length) Slot.unset).toArray = ls at hl ⊢
  have hl : lv_has ls 1 [(0, .ref h)] := hl
  refine lv_aload_n hx hb dX3_size_0 rfl (lv_at hl 0 rfl) ?_
  refine va_get (D := (dC, dI)) (ci := 4) (v := .int (nI n)) (C := RX3) (T := TX3) (N := 2) hx hb hts hinX3 hown hK hP 0 rfl rfl 1 (by decide) (hts (.fieldLink RX3 21 "ScanCodes$Row" "size" "I") (by decide +kernel)) (fun _ h9 => h9) rfl dX3_size_1 ?_
  have hres : (nI n) = nI n := by rfl
  exact W.iret (v := nI n) hx hb hr (fun t ht _ => ⟨congrArg (fun z => Outcome.returned (some (Value.int z))) hres, ht⟩) (fun _ h => nomatch h) dX3_size_4
set_option maxHeartbeats 4000000 in
set_option maxRecDepth 100000 in
theorem c_X3_isFull (l : Launch) (dC : Nat → ClassId) (dI : Nat → Nat → Nat) (cI cZ cJ : ClassId) (h : Nat) (a : Nat) (cap : Nat) (n : Nat) (f : Nat → Int32) (hn : n ≤ cap) (hc : cap < 2 ^ 31) : Met l yX3_isFull wsX3_isFull ({ frames := 0, cells := 0, slots := 0, locals := 0 }) (zc_P [.ref h] (dC, dI) (zc_T cI cZ cJ) [(h, .inr (4, [.ref a, .int (nI n)])), (a, .inl (cI, cap, .inl f))]) (zc_Q (.int (if cap ≤ n then 1 else 0))) 0 0 (fun _ => False) := by
  refine Met.ofW (cc := cX3_isFull) (maxL := 1) (ret := (some .boolean)) (by decide) rfl ?_
  intro p e s m args below meth c s₁ B hml hv
  obtain ⟨rfl, hP, hK⟩ := hv
  have hx := B.exec
  have hb := B.bytes
  have hr := B.returns
  have hts := atoms_spec (ws := wsX3_isFull) B.pre
  have hown : s.vm.findClass RX3 = some m.cls := findClass_of_methodNamed B.named
  have hlocks := B.notSynchronized
  have hinX3 : ∀ w ∈ wsX30, w ∈ wsX3_isFull := by decide +kernel
  have hl := lv_entry ([.ref h]) (n := 1) (Nat.le_of_ble_eq_true rfl)
  rw [lg_entry_eq]
  generalize (lg_sl ([.ref h]) ++ List.replicate (1 - (lg_sl ([.ref h])).length) Slot.unset).toArray = ls at hl ⊢
  have hl : lv_has ls 1 [(0, .ref h)] := hl
  refine lv_aload_n hx hb dX3_isFull_0 rfl (lv_at hl 0 rfl) ?_
  refine va_get (D := (dC, dI)) (ci := 4) (v := .int (nI n)) (C := RX3) (T := TX3) (N := 2) hx hb hts hinX3 hown hK hP 0 rfl rfl 1 (by decide) (hts (.fieldLink RX3 21 "ScanCodes$Row" "size" "I") (by decide +kernel)) (fun _ h9 => h9) rfl dX3_isFull_1 ?_
  refine lv_aload_n hx hb dX3_isFull_4 rfl (lv_at hl 0 rfl) ?_
  refine va_get (D := (dC, dI)) (ci := 4) (v := .ref a) (C := RX3) (T := TX3) (N := 2) hx hb hts hinX3 hown hK hP 0 rfl rfl 0 (by decide) (hts (.fieldLink RX3 15 "ScanCodes$Row" "values" "[I") (by decide +kernel)) (fun _ h9 => h9) rfl dX3_isFull_5 ?_
  refine va_alen (v := nI cap) hx hb hK hP 1 0 rfl rfl rfl dX3_isFull_8 ?_
  refine lv_icmp_lt (tgt := 16) hx hb dX3_isFull_9 (by decide) (fun c9 => ?_) (fun c9 => ?_)
  · have hlt := zn_lt c9 (by omega) hc
    refine lv_iconst (v := 0) hx hb dX3_isFull_16 (by decide) ?_
    have hres : (0 : Int32) = if cap ≤ n then 1 else 0 := by rw [if_neg (by omega)]
    exact W.zret (v := 0) hx hb hr rfl (fun t ht _ => ⟨congrArg (fun z => Outcome.returned (some (Value.int z))) hres, ht⟩) (fun _ h => nomatch h) dX3_isFull_17
  · have hge := zn_nlt c9 (by omega) hc
    refine lv_iconst (v := 1) hx hb dX3_isFull_12 (by decide) ?_
    refine lv_goto (tgt := 17) hx hb dX3_isFull_13 (by decide) ?_
    have hres : (1 : Int32) = if cap ≤ n then 1 else 0 := by rw [if_pos hge]
    exact W.zret (v := 1) hx hb hr rfl (fun t ht _ => ⟨congrArg (fun z => Outcome.returned (some (Value.int z))) hres, ht⟩) (fun _ h => nomatch h) dX3_isFull_17
set_option maxHeartbeats 4000000 in
set_option maxRecDepth 100000 in
theorem c_X3_empty (l : Launch) (dC : Nat → ClassId) (dI : Nat → Nat → Nat) (cI cZ cJ : ClassId) (h : Nat) (a : Nat) (cap : Nat) (n : Nat) (f : Nat → Int32) (sz : Nat) : Met l yX3_empty wsX3_empty ({ frames := 0, cells := 0, slots := 0, locals := 0 }) (zc_PW [.ref h] (dC, dI) (zc_T cI cZ cJ) [(h, .inr (4, [.ref a, .int (nI n)])), (a, .inl (cI, cap, .inl f))] sz) (va_Qv (fun _ : Unit => True) (fun _ t => zc_B (dC, dI) (zc_T cI cZ cJ) (va_A [(h, .inr (4, [.ref a, .int (nI n)])), (a, .inl (cI, cap, .inl f))] sz) [(h, .inr (4, [.ref a, .int (nI 0)])), (a, .inl (cI, cap, .inl f))] t) (va_A [(h, .inr (4, [.ref a, .int (nI n)])), (a, .inl (cI, cap, .inl f))] sz)) 0 0 (va_A [(h, .inr (4, [.ref a, .int (nI n)])), (a, .inl (cI, cap, .inl f))] sz) := by
  refine Met.ofW (cc := cX3_empty) (maxL := 1) (ret := none) (by decide) rfl ?_
  intro p e s m args below meth c s₁ B hml hv
  obtain ⟨rfl, hsz, hP, hK, hD0⟩ := hv
  have hx := B.exec
  have hb := B.bytes
  have hr := B.returns
  have hts := atoms_spec (ws := wsX3_empty) B.pre
  have hown : s.vm.findClass RX3 = some m.cls := findClass_of_methodNamed B.named
  have hlocks := B.notSynchronized
  subst hsz
  have hD := hD0.self (sz := s.heap.size)
  generalize hAe : va_A [(h, .inr (4, [.ref a, .int (nI n)])), (a, .inl (cI, cap, .inl f))] s.heap.size = A at hD ⊢
  have hA : ∀ q : Nat, s.heap.size ≤ q → A q := fun q h => by rw [← hAe]; exact Or.inr h
  have hS : va_S A s.heap s.heap [] := va_S.rf
  have hinX3 : ∀ w ∈ wsX30, w ∈ wsX3_empty := by decide +kernel
  have hl := lv_entry ([.ref h]) (n := 1) (Nat.le_of_ble_eq_true rfl)
  rw [lg_entry_eq]
  generalize (lg_sl ([.ref h]) ++ List.replicate (1 - (lg_sl ([.ref h])).length) Slot.unset).toArray = ls at hl ⊢
  have hl : lv_has ls 1 [(0, .ref h)] := hl
  refine lv_aload_n hx hb dX3_empty_0 rfl (lv_at hl 0 rfl) ?_
  refine lv_iconst (v := 0) hx hb dX3_empty_1 (by decide) ?_
  refine va_put (D := (dC, dI)) (ci := 4) (v := .int 0) (ty := .int) (C := RX3) (T := TX3) (N := 2) hx hb hts hinX3 tyX3 tyX3_ok nmX3 hown hK hP hD hS 0 rfl rfl 1 (by decide) (hts (.fieldLink RX3 21 "ScanCodes$Row" "size" "I") (by decide +kernel)) (fun _ h9 => h9) rfl (by decide +kernel) rfl rfl (Nat.le_of_ble_eq_true rfl) dX3_empty_2 (fun H locs hP hD hS => ?_)
  have hP : va_P (dC, dI) vwCl [(h, .inr (4, [.ref a, .int 0])), (a, .inl (cI, cap, .inl f))] H := hP
  have hD : va_D A [(h, .inr (4, [.ref a, .int 0])), (a, .inl (cI, cap, .inl f))] := hD
  have hP9 : va_P (dC, dI) vwCl [(h, .inr (4, [.ref a, .int (nI 0)])), (a, .inl (cI, cap, .inl f))] H := hP
  have hD9 : va_D A [(h, .inr (4, [.ref a, .int (nI 0)])), (a, .inl (cI, cap, .inl f))] := hD
  exact W.vret hx hb hr (fun t ht hW => ⟨⟨(), rfl, trivial, by rw [ht]; exact hP9, va_K.moved hW.alike hK, hD9⟩, hS.F ht⟩) hS.2.2 dX3_empty_5
set_option maxHeartbeats 4000000 in
set_option maxRecDepth 100000 in
theorem c_X3_add (l : Launch) (dC : Nat → ClassId) (dI : Nat → Nat → Nat) (cI cZ cJ : ClassId) (h : Nat) (a : Nat) (cap : Nat) (n : Nat) (f : Nat → Int32) (x : Int32) (hn : n < cap) (hc : cap < 2 ^ 31) (sz : Nat) : Met l yX3_add wsX3_add ({ frames := 0, cells := 0, slots := 0, locals := 0 }) (zc_PW [.ref h, .int x] (dC, dI) (zc_T cI cZ cJ) [(h, .inr (4, [.ref a, .int (nI n)])), (a, .inl (cI, cap, .inl f))] sz) (va_Qv (fun _ : Unit => True) (fun _ t => zc_B (dC, dI) (zc_T cI cZ cJ) (va_A [(h, .inr (4, [.ref a, .int (nI n)])), (a, .inl (cI, cap, .inl f))] sz) [(h, .inr (4, [.ref a, .int (nI (n + 1))])), (a, .inl (cI, cap, .inl (upd f n x)))] t) (va_A [(h, .inr (4, [.ref a, .int (nI n)])), (a, .inl (cI, cap, .inl f))] sz)) 0 0 (va_A [(h, .inr (4, [.ref a, .int (nI n)])), (a, .inl (cI, cap, .inl f))] sz) := by
  refine Met.ofW (cc := cX3_add) (maxL := 2) (ret := none) (by decide) rfl ?_
  intro p e s m args below meth c s₁ B hml hv
  obtain ⟨rfl, hsz, hP, hK, hD0⟩ := hv
  have hx := B.exec
  have hb := B.bytes
  have hr := B.returns
  have hts := atoms_spec (ws := wsX3_add) B.pre
  have hown : s.vm.findClass RX3 = some m.cls := findClass_of_methodNamed B.named
  have hlocks := B.notSynchronized
  subst hsz
  have hD := hD0.self (sz := s.heap.size)
  generalize hAe : va_A [(h, .inr (4, [.ref a, .int (nI n)])), (a, .inl (cI, cap, .inl f))] s.heap.size = A at hD ⊢
  have hA : ∀ q : Nat, s.heap.size ≤ q → A q := fun q h => by rw [← hAe]; exact Or.inr h
  have hS : va_S A s.heap s.heap [] := va_S.rf
  have hinX3 : ∀ w ∈ wsX30, w ∈ wsX3_add := by decide +kernel
  have hl := lv_entry ([.ref h, .int x]) (n := 2) (Nat.le_of_ble_eq_true rfl)
  rw [lg_entry_eq]
  generalize (lg_sl ([.ref h, .int x]) ++ List.replicate (2 - (lg_sl ([.ref h, .int x])).length) Slot.unset).toArray = ls at hl ⊢
  have hl : lv_has ls 2 [(0, .ref h), (1, .int x)] := hl
  refine lv_aload_n hx hb dX3_add_0 rfl (lv_at hl 0 rfl) ?_
  refine va_get (D := (dC, dI)) (ci := 4) (v := .int (nI n)) (C := RX3) (T := TX3) (N := 2) hx hb hts hinX3 hown hK hP 0 rfl rfl 1 (by decide) (hts (.fieldLink RX3 21 "ScanCodes$Row" "size" "I") (by decide +kernel)) (fun _ h9 => h9) rfl dX3_add_1 ?_
  refine lv_aload_n hx hb dX3_add_4 rfl (lv_at hl 0 rfl) ?_
  refine va_get (D := (dC, dI)) (ci := 4) (v := .ref a) (C := RX3) (T := TX3) (N := 2) hx hb hts hinX3 hown hK hP 0 rfl rfl 0 (by decide) (hts (.fieldLink RX3 15 "ScanCodes$Row" "values" "[I") (by decide +kernel)) (fun _ h9 => h9) rfl dX3_add_5 ?_
  refine va_alen (v := nI cap) hx hb hK hP 1 0 rfl rfl rfl dX3_add_8 ?_
  refine lv_icmp_ge (tgt := 32) hx hb dX3_add_9 (by decide) (fun c9 => absurd c9 (nI_ge hn hc)) (fun c9 => ?_)
  refine lv_aload_n hx hb dX3_add_12 rfl (lv_at hl 0 rfl) ?_
  refine va_get (D := (dC, dI)) (ci := 4) (v := .ref a) (C := RX3) (T := TX3) (N := 2) hx hb hts hinX3 hown hK hP 0 rfl rfl 0 (by decide) (hts (.fieldLink RX3 15 "ScanCodes$Row" "values" "[I") (by decide +kernel)) (fun _ h9 => h9) rfl dX3_add_13 ?_
  refine lv_aload_n hx hb dX3_add_16 rfl (lv_at hl 0 rfl) ?_
  refine va_get (D := (dC, dI)) (ci := 4) (v := .int (nI n)) (C := RX3) (T := TX3) (N := 2) hx hb hts hinX3 hown hK hP 0 rfl rfl 1 (by decide) (hts (.fieldLink RX3 21 "ScanCodes$Row" "size" "I") (by decide +kernel)) (fun _ h9 => h9) rfl dX3_add_17 ?_
  refine lv_iload_n hx hb dX3_add_20 rfl (lv_at hl 1 rfl) ?_
  refine zc_iast hx hb hK hP hD hS 1 0 rfl rfl n rfl (by first | assumption | omega) (by first | assumption | omega) dX3_add_21 (fun H locs hP hD hS => ?_)
  have hP : va_P (dC, dI) vwCl [(h, .inr (4, [.ref a, .int (nI n)])), (a, .inl (cI, cap, .inl (upd f n x)))] H := hP
  have hD : va_D A [(h, .inr (4, [.ref a, .int (nI n)])), (a, .inl (cI, cap, .inl (upd f n x)))] := hD
  refine lv_aload_n hx hb dX3_add_22 rfl (lv_at hl 0 rfl) ?_
  refine lv_dup hx hb dX3_add_23 rfl ?_
  refine va_get (D := (dC, dI)) (ci := 4) (v := .int (nI n)) (C := RX3) (T := TX3) (N := 2) hx hb hts hinX3 hown hK hP 0 rfl rfl 1 (by decide) (hts (.fieldLink RX3 21 "ScanCodes$Row" "size" "I") (by decide +kernel)) (fun _ h9 => h9) rfl dX3_add_24 ?_
  refine lv_iconst (v := 1) hx hb dX3_add_27 (by decide) ?_
  refine lv_iadd hx hb dX3_add_28 ?_
  refine zc_ti (y := nI (n + 1)) (nI_1 n) ?_
  refine va_put (D := (dC, dI)) (ci := 4) (v := .int (nI (n + 1))) (ty := .int) (C := RX3) (T := TX3) (N := 2) hx hb hts hinX3 tyX3 tyX3_ok nmX3 hown hK hP hD hS 0 rfl rfl 1 (by decide) (hts (.fieldLink RX3 21 "ScanCodes$Row" "size" "I") (by decide +kernel)) (fun _ h9 => h9) rfl (by decide +kernel) rfl rfl (Nat.le_of_ble_eq_true rfl) dX3_add_29 (fun H locs hP hD hS => ?_)
  have hP : va_P (dC, dI) vwCl [(h, .inr (4, [.ref a, .int (nI (n + 1))])), (a, .inl (cI, cap, .inl (upd f n x)))] H := hP
  have hD : va_D A [(h, .inr (4, [.ref a, .int (nI (n + 1))])), (a, .inl (cI, cap, .inl (upd f n x)))] := hD
  have hP9 : va_P (dC, dI) vwCl [(h, .inr (4, [.ref a, .int (nI (n + 1))])), (a, .inl (cI, cap, .inl (upd f n x)))] H := hP
  have hD9 : va_D A [(h, .inr (4, [.ref a, .int (nI (n + 1))])), (a, .inl (cI, cap, .inl (upd f n x)))] := hD
  exact W.vret hx hb hr (fun t ht hW => ⟨⟨(), rfl, trivial, by rw [ht]; exact hP9, va_K.moved hW.alike hK, hD9⟩, hS.F ht⟩) hS.2.2 dX3_add_32
set_option maxHeartbeats 4000000 in
set_option maxRecDepth 100000 in
theorem c_X3_put (l : Launch) (dC : Nat → ClassId) (dI : Nat → Nat → Nat) (cI cZ cJ : ClassId) (h : Nat) (a : Nat) (cap : Nat) (n : Nat) (f : Nat → Int32) (k : Nat) (x : Int32) (hk : k < n) (hn : n ≤ cap) (hc : cap < 2 ^ 31) (sz : Nat) : Met l yX3_put wsX3_put ({ frames := 0, cells := 0, slots := 0, locals := 0 }) (zc_PW [.ref h, .int (nI k), .int x] (dC, dI) (zc_T cI cZ cJ) [(h, .inr (4, [.ref a, .int (nI n)])), (a, .inl (cI, cap, .inl f))] sz) (va_Qv (fun _ : Unit => True) (fun _ t => zc_B (dC, dI) (zc_T cI cZ cJ) (va_A [(h, .inr (4, [.ref a, .int (nI n)])), (a, .inl (cI, cap, .inl f))] sz) [(h, .inr (4, [.ref a, .int (nI n)])), (a, .inl (cI, cap, .inl (upd f k x)))] t) (va_A [(h, .inr (4, [.ref a, .int (nI n)])), (a, .inl (cI, cap, .inl f))] sz)) 0 0 (va_A [(h, .inr (4, [.ref a, .int (nI n)])), (a, .inl (cI, cap, .inl f))] sz) := by
  refine Met.ofW (cc := cX3_put) (maxL := 3) (ret := none) (by decide) rfl ?_
  intro p e s m args below meth c s₁ B hml hv
  obtain ⟨rfl, hsz, hP, hK, hD0⟩ := hv
  have hx := B.exec
  have hb := B.bytes
  have hr := B.returns
  have hts := atoms_spec (ws := wsX3_put) B.pre
  have hown : s.vm.findClass RX3 = some m.cls := findClass_of_methodNamed B.named
  have hlocks := B.notSynchronized
  subst hsz
  have hD := hD0.self (sz := s.heap.size)
  generalize hAe : va_A [(h, .inr (4, [.ref a, .int (nI n)])), (a, .inl (cI, cap, .inl f))] s.heap.size = A at hD ⊢
  have hA : ∀ q : Nat, s.heap.size ≤ q → A q := fun q h => by rw [← hAe]; exact Or.inr h
  have hS : va_S A s.heap s.heap [] := va_S.rf
  have hinX3 : ∀ w ∈ wsX30, w ∈ wsX3_put := by decide +kernel
  have hl := lv_entry ([.ref h, .int (nI k), .int x]) (n := 3) (Nat.le_of_ble_eq_true rfl)
  rw [lg_entry_eq]
  generalize (lg_sl ([.ref h, .int (nI k), .int x]) ++ List.replicate (3 - (lg_sl ([.ref h, .int (nI k), .int x])).length) Slot.unset).toArray = ls at hl ⊢
  have hl : lv_has ls 3 [(0, .ref h), (1, .int (nI k)), (2, .int x)] := hl
  refine lv_iload_n hx hb dX3_put_0 rfl (lv_at hl 1 rfl) ?_
  refine lv_if_lt (tgt := 19) hx hb dX3_put_1 (by decide) (fun c1 => absurd c1 (nI_pos (by omega))) (fun c1 => ?_)
  refine lv_iload_n hx hb dX3_put_4 rfl (lv_at hl 1 rfl) ?_
  refine lv_aload_n hx hb dX3_put_5 rfl (lv_at hl 0 rfl) ?_
  refine va_get (D := (dC, dI)) (ci := 4) (v := .int (nI n)) (C := RX3) (T := TX3) (N := 2) hx hb hts hinX3 hown hK hP 0 rfl rfl 1 (by decide) (hts (.fieldLink RX3 21 "ScanCodes$Row" "size" "I") (by decide +kernel)) (fun _ h9 => h9) rfl dX3_put_6 ?_
  refine lv_icmp_ge (tgt := 19) hx hb dX3_put_9 (by decide) (fun c9 => absurd c9 (nI_ge hk (by omega))) (fun c9 => ?_)
  refine lv_aload_n hx hb dX3_put_12 rfl (lv_at hl 0 rfl) ?_
  refine va_get (D := (dC, dI)) (ci := 4) (v := .ref a) (C := RX3) (T := TX3) (N := 2) hx hb hts hinX3 hown hK hP 0 rfl rfl 0 (by decide) (hts (.fieldLink RX3 15 "ScanCodes$Row" "values" "[I") (by decide +kernel)) (fun _ h9 => h9) rfl dX3_put_13 ?_
  refine lv_iload_n hx hb dX3_put_16 rfl (lv_at hl 1 rfl) ?_
  refine lv_iload_n hx hb dX3_put_17 rfl (lv_at hl 2 rfl) ?_
  refine zc_iast hx hb hK hP hD hS 1 0 rfl rfl k rfl (by first | assumption | omega) (by first | assumption | omega) dX3_put_18 (fun H locs hP hD hS => ?_)
  have hP : va_P (dC, dI) vwCl [(h, .inr (4, [.ref a, .int (nI n)])), (a, .inl (cI, cap, .inl (upd f k x)))] H := hP
  have hD : va_D A [(h, .inr (4, [.ref a, .int (nI n)])), (a, .inl (cI, cap, .inl (upd f k x)))] := hD
  have hP9 : va_P (dC, dI) vwCl [(h, .inr (4, [.ref a, .int (nI n)])), (a, .inl (cI, cap, .inl (upd f k x)))] H := hP
  have hD9 : va_D A [(h, .inr (4, [.ref a, .int (nI n)])), (a, .inl (cI, cap, .inl (upd f k x)))] := hD
  exact W.vret hx hb hr (fun t ht hW => ⟨⟨(), rfl, trivial, by rw [ht]; exact hP9, va_K.moved hW.alike hK, hD9⟩, hS.F ht⟩) hS.2.2 dX3_put_19
set_option maxHeartbeats 4000000 in
set_option maxRecDepth 100000 in
theorem c_X3_at (l : Launch) (dC : Nat → ClassId) (dI : Nat → Nat → Nat) (cI cZ cJ : ClassId) (h : Nat) (a : Nat) (cap : Nat) (n : Nat) (f : Nat → Int32) (i : Int32) (hn : n ≤ cap) (hc : cap < 2 ^ 31) : Met l yX3_at wsX3_at ({ frames := 0, cells := 0, slots := 0, locals := 0 }) (zc_P [.ref h, .int i] (dC, dI) (zc_T cI cZ cJ) [(h, .inr (4, [.ref a, .int (nI n)])), (a, .inl (cI, cap, .inl f))]) (zc_Q (.int (zr_at n f i))) 0 0 (fun _ => False) := by
  refine Met.ofW (cc := cX3_at) (maxL := 2) (ret := (some .int)) (by decide) rfl ?_
  intro p e s m args below meth c s₁ B hml hv
  obtain ⟨rfl, hP, hK⟩ := hv
  have hx := B.exec
  have hb := B.bytes
  have hr := B.returns
  have hts := atoms_spec (ws := wsX3_at) B.pre
  have hown : s.vm.findClass RX3 = some m.cls := findClass_of_methodNamed B.named
  have hlocks := B.notSynchronized
  have hinX3 : ∀ w ∈ wsX30, w ∈ wsX3_at := by decide +kernel
  have hl := lv_entry ([.ref h, .int i]) (n := 2) (Nat.le_of_ble_eq_true rfl)
  rw [lg_entry_eq]
  generalize (lg_sl ([.ref h, .int i]) ++ List.replicate (2 - (lg_sl ([.ref h, .int i])).length) Slot.unset).toArray = ls at hl ⊢
  have hl : lv_has ls 2 [(0, .ref h), (1, .int i)] := hl
  refine lv_iload_n hx hb dX3_at_0 rfl (lv_at hl 1 rfl) ?_
  refine lv_if_lt (tgt := 21) hx hb dX3_at_1 (by decide) (fun c1 => ?_) (fun c1 => ?_)
  · refine lv_iconst (v := (-1)) hx hb dX3_at_21 (by decide) ?_
    have hres : ((-1) : Int32) = zr_at n f i := by simp [zr_at, c1]
    exact W.iret (v := (-1)) hx hb hr (fun t ht _ => ⟨congrArg (fun z => Outcome.returned (some (Value.int z))) hres, ht⟩) (fun _ h => nomatch h) dX3_at_22
  · refine lv_iload_n hx hb dX3_at_4 rfl (lv_at hl 1 rfl) ?_
    refine lv_aload_n hx hb dX3_at_5 rfl (lv_at hl 0 rfl) ?_
    refine va_get (D := (dC, dI)) (ci := 4) (v := .int (nI n)) (C := RX3) (T := TX3) (N := 2) hx hb hts hinX3 hown hK hP 0 rfl rfl 1 (by decide) (hts (.fieldLink RX3 21 "ScanCodes$Row" "size" "I") (by decide +kernel)) (fun _ h9 => h9) rfl dX3_at_6 ?_
    refine lv_icmp_ge (tgt := 21) hx hb dX3_at_9 (by decide) (fun c9 => ?_) (fun c9 => ?_)
    · refine lv_iconst (v := (-1)) hx hb dX3_at_21 (by decide) ?_
      have hres : ((-1) : Int32) = zr_at n f i := by simp [zr_at, c1, c9]
      exact W.iret (v := (-1)) hx hb hr (fun t ht _ => ⟨congrArg (fun z => Outcome.returned (some (Value.int z))) hres, ht⟩) (fun _ h => nomatch h) dX3_at_22
    · have hix := zn_ix c1 c9 (by omega)
      refine lv_aload_n hx hb dX3_at_12 rfl (lv_at hl 0 rfl) ?_
      refine va_get (D := (dC, dI)) (ci := 4) (v := .ref a) (C := RX3) (T := TX3) (N := 2) hx hb hts hinX3 hown hK hP 0 rfl rfl 0 (by decide) (hts (.fieldLink RX3 15 "ScanCodes$Row" "values" "[I") (by decide +kernel)) (fun _ h9 => h9) rfl dX3_at_13 ?_
      refine lv_iload_n hx hb dX3_at_16 rfl (lv_at hl 1 rfl) ?_
      refine zc_iald hx hb hK hP 1 0 rfl rfl i.toNatClampNeg hix.1 (Nat.lt_of_lt_of_le hix.2 hn) (by first | assumption | omega) dX3_at_17 ?_
      refine lv_goto (tgt := 22) hx hb dX3_at_18 (by decide) ?_
      have hres : (f i.toNatClampNeg) = zr_at n f i := by simp [zr_at, c1, c9]
      exact W.iret (v := f i.toNatClampNeg) hx hb hr (fun t ht _ => ⟨congrArg (fun z => Outcome.returned (some (Value.int z))) hres, ht⟩) (fun _ h => nomatch h) dX3_at_22
set_option maxHeartbeats 4000000 in
set_option maxRecDepth 100000 in
theorem c_X3_nextSeparator (l : Launch) (dC : Nat → ClassId) (dI : Nat → Nat → Nat) (cI cZ cJ : ClassId) (h : Nat) (a : Nat) (cap : Nat) (n : Nat) (f : Nat → Int32) (j0 : Nat) (e0 : Nat) (hj : j0 ≤ e0) (he : e0 ≤ n) (hn : n ≤ cap) (hc : cap < 2 ^ 31) : Met l yX3_nextSeparator wsX3_nextSeparator ({ frames := 1, cells := 0, slots := 0, locals := 21 }) (zc_P [.ref h, .int (nI j0), .int (nI e0)] (dC, dI) (zc_T cI cZ cJ) [(h, .inr (4, [.ref a, .int (nI n)])), (a, .inl (cI, cap, .inl f))]) (zc_Q (.int (nI (zr_ns f j0 e0)))) 0 0 (fun _ => False) := by
  refine Met.ofW (cc := cX3_nextSeparator) (maxL := 4) (ret := (some .int)) (by decide) rfl ?_
  intro p e s m args below meth c s₁ B hml hv
  obtain ⟨rfl, hP, hK⟩ := hv
  have hx := B.exec
  have hb := B.bytes
  have hr := B.returns
  have hts := atoms_spec (ws := wsX3_nextSeparator) B.pre
  have hown : s.vm.findClass RX3 = some m.cls := findClass_of_methodNamed B.named
  have hlocks := B.notSynchronized
  have hl := lv_entry ([.ref h, .int (nI j0), .int (nI e0)]) (n := 4) (Nat.le_of_ble_eq_true rfl)
  rw [lg_entry_eq]
  generalize (lg_sl ([.ref h, .int (nI j0), .int (nI e0)]) ++ List.replicate (4 - (lg_sl ([.ref h, .int (nI j0), .int (nI e0)])).length) Slot.unset).toArray = ls at hl ⊢
  have hl : lv_has ls 4 [(0, .ref h), (1, .int (nI j0)), (2, .int (nI e0))] := hl
  refine lv_iload_n hx hb dX3_nextSeparator_0 rfl (lv_at hl 1 rfl) ?_
  refine lv_istore_n (lv' := [(3, .int (nI j0)), (0, .ref h), (1, .int (nI j0)), (2, .int (nI e0))]) hx hb dX3_nextSeparator_1 rfl hl (by decide) rfl (fun ls hl => ?_)
  refine zc_loop (α := Nat) (fun j ls => lv_has ls 4 [(3, .int (nI j)), (0, .ref h), (1, .int (nI j0)), (2, .int (nI e0))] ∧ (j ≤ e0) ∧ (zr_ns f j e0 = zr_ns f j0 e0)) (fun j => e0 - j) j0 ⟨lv_sub hl [0, 1, 2, 3] rfl, hj, rfl⟩ ?_
  intro x ls hI ih2
  obtain ⟨j, rfl⟩ : ∃ z, z = x := ⟨_, rfl⟩
  obtain ⟨hl, hi1, hi2⟩ := hI
  have hl : lv_has ls 4 [(3, .int (nI j)), (0, .ref h), (1, .int (nI j0)), (2, .int (nI e0))] := hl
  try dsimp only at ih2
  refine lv_iload_n hx hb dX3_nextSeparator_2 rfl (lv_at hl 0 rfl) ?_
  refine lv_iload_n hx hb dX3_nextSeparator_3 rfl (lv_at hl 3 rfl) ?_
  refine lv_icmp_ge (tgt := 25) hx hb dX3_nextSeparator_4 (by decide) (fun c4 => ?_) (fun c4 => ?_)
  · have hge := zn_le c4 (by omega) (by omega)
    have hje : j = e0 := by omega
    refine lv_iload_n hx hb dX3_nextSeparator_25 rfl (lv_at hl 3 rfl) ?_
    have hres : (nI e0) = nI (zr_ns f j0 e0) := by rw [← hi2, hje, zr_ns_end]
    exact W.iret (v := nI e0) hx hb hr (fun t ht _ => ⟨congrArg (fun z => Outcome.returned (some (Value.int z))) hres, ht⟩) (fun _ h => nomatch h) dX3_nextSeparator_26
  · have hlt := zn_nle c4 (by omega) (by omega)
    refine lv_aload_n hx hb dX3_nextSeparator_7 rfl (lv_at hl 1 rfl) ?_
    refine lv_iload_n hx hb dX3_nextSeparator_8 rfl (lv_at hl 0 rfl) ?_
    refine zc_callR (va_runV (As := [.int (nI j)]) (rest := []) ⟨hx, hb, hml, hown, hts⟩ (c_X3_at l dC dI cI cZ cJ h a cap n f (nI j) (by first | assumption | omega) (by first | assumption | omega)) (zc_V 1 hts ggX3_nextSeparator_X3_at rfl rfl rfl (by decide +kernel) (by decide +kernel) ⟨Nat.le_of_ble_eq_true rfl, Nat.le_of_ble_eq_true rfl⟩) ⟨zc_blind, va_recv hK hP (ci := 4) (q0 := 0) rfl rfl, zc_pay (hP.sub (ws' := [(h, .inr (4, [.ref a, .int (nI n)])), (a, .inl (cI, cap, .inl f))]) [0, 1] rfl) hK⟩ rfl rfl hl.1 rfl (lv_room (Nat.le_of_ble_eq_true rfl)) dX3_nextSeparator_9 ⟨Nat.le_of_ble_eq_true rfl, Nat.le_of_ble_eq_true rfl⟩) ?_
    refine zc_ti (y := f j) (zr_at_in (by omega) (by omega)) ?_
    refine lv_bipush (v := 10) hx hb dX3_nextSeparator_12 (by decide) ?_
    refine lv_icmp_ne (tgt := 19) hx hb dX3_nextSeparator_14 (by decide) (fun c14 => ?_) (fun c14 => ?_)
    · refine lv_iinc (v := nI (j + 1)) (lv' := [(3, .int (nI (j + 1))), (0, .ref h), (1, .int (nI j0)), (2, .int (nI e0))]) hx hb dX3_nextSeparator_19 hl (k := 0) rfl (nI_1 j) (by decide) rfl (fun ls hl => ?_)
      refine lv_goto (tgt := 2) hx hb dX3_nextSeparator_22 (by decide) ?_
      exact ih2 (j + 1) _ (by first | omega | (simp only []; omega)) ⟨lv_sub hl [0, 1, 2, 3] rfl, hlt, by rw [← hi2, zr_ns_step hlt, if_neg c14]⟩
    · refine lv_iload_n hx hb dX3_nextSeparator_17 rfl (lv_at hl 0 rfl) ?_
      have hres : (nI j) = nI (zr_ns f j0 e0) := by rw [← hi2, zr_ns_step hlt, if_pos c14]
      exact W.iret (v := nI j) hx hb hr (fun t ht _ => ⟨congrArg (fun z => Outcome.returned (some (Value.int z))) hres, ht⟩) (fun _ h => nomatch h) dX3_nextSeparator_18
set_option maxHeartbeats 4000000 in
set_option maxRecDepth 100000 in
theorem c_X3_numberAt (l : Launch) (dC : Nat → ClassId) (dI : Nat → Nat → Nat) (cI cZ cJ : ClassId) (h : Nat) (a : Nat) (cap : Nat) (n : Nat) (f : Nat → Int32) (j0 : Nat) (e0 : Nat) (hj : j0 ≤ e0) (he : e0 ≤ n) (hn : n ≤ cap) (hc : cap < 2 ^ 31) : Met l yX3_numberAt wsX3_numberAt ({ frames := 1, cells := 0, slots := 0, locals := 21 }) (zc_P [.ref h, .int (nI j0), .int (nI e0)] (dC, dI) (zc_T cI cZ cJ) [(h, .inr (4, [.ref a, .int (nI n)])), (a, .inl (cI, cap, .inl f))]) (zc_Q (.long (zr_num f j0 e0 0))) 0 0 (fun _ => False) := by
  refine Met.ofW (cc := cX3_numberAt) (maxL := 6) (ret := (some .long)) (by decide) rfl ?_
  intro p e s m args below meth c s₁ B hml hv
  obtain ⟨rfl, hP, hK⟩ := hv
  have hx := B.exec
  have hb := B.bytes
  have hr := B.returns
  have hts := atoms_spec (ws := wsX3_numberAt) B.pre
  have hown : s.vm.findClass RX3 = some m.cls := findClass_of_methodNamed B.named
  have hlocks := B.notSynchronized
  have hl := lv_entry ([.ref h, .int (nI j0), .int (nI e0)]) (n := 6) (Nat.le_of_ble_eq_true rfl)
  rw [lg_entry_eq]
  generalize (lg_sl ([.ref h, .int (nI j0), .int (nI e0)]) ++ List.replicate (6 - (lg_sl ([.ref h, .int (nI j0), .int (nI e0)])).length) Slot.unset).toArray = ls at hl ⊢
  have hl : lv_has ls 6 [(0, .ref h), (1, .int (nI j0)), (2, .int (nI e0))] := hl
  refine lv_lconst (v := 0) hx hb dX3_numberAt_0 (by decide) ?_
  refine lv_lstore_n (lv' := [(3, .long 0), (0, .ref h), (1, .int (nI j0)), (2, .int (nI e0))]) hx hb dX3_numberAt_1 rfl hl (by decide) rfl (fun ls hl => ?_)
  refine lv_iload_n hx hb dX3_numberAt_2 rfl (lv_at hl 2 rfl) ?_
  refine lv_istore (lv' := [(5, .int (nI j0)), (3, .long 0), (0, .ref h), (1, .int (nI j0)), (2, .int (nI e0))]) hx hb dX3_numberAt_3 hl (by decide) rfl (fun ls hl => ?_)
  refine zc_loop (α := Nat × Int64) (fun (⟨j, acc⟩ : Nat × Int64) ls => lv_has ls 6 [(5, .int (nI j)), (3, .long acc), (0, .ref h), (1, .int (nI j0)), (2, .int (nI e0))] ∧ (j ≤ e0) ∧ (zr_num f j e0 acc = zr_num f j0 e0 0)) (fun (⟨j, acc⟩ : Nat × Int64) => e0 - j) ⟨j0, 0⟩ ⟨lv_sub hl [0, 1, 2, 3, 4] rfl, hj, rfl⟩ ?_
  intro x ls hI ih5
  obtain ⟨j, acc⟩ := x
  obtain ⟨hl, hi1, hi2⟩ := hI
  have hl : lv_has ls 6 [(5, .int (nI j)), (3, .long acc), (0, .ref h), (1, .int (nI j0)), (2, .int (nI e0))] := hl
  try dsimp only at ih5
  refine lv_iload hx hb dX3_numberAt_5 (lv_at hl 0 rfl) ?_
  refine lv_iload_n hx hb dX3_numberAt_7 rfl (lv_at hl 4 rfl) ?_
  refine lv_icmp_ge (tgt := 31) hx hb dX3_numberAt_8 (by decide) (fun c8 => ?_) (fun c8 => ?_)
  · have hge := zn_le c8 (by omega) (by omega)
    have hje : j = e0 := by omega
    refine lv_lload_n hx hb dX3_numberAt_31 rfl (lv_at hl 1 rfl) ?_
    have hres : acc = zr_num f j0 e0 0 := by rw [← hi2, hje, zr_num_end]
    exact W.lret (v := acc) hx hb hr (fun t ht _ => ⟨congrArg (fun z => Outcome.returned (some (Value.long z))) hres, ht⟩) (fun _ h => nomatch h) dX3_numberAt_32
  · have hlt := zn_nle c8 (by omega) (by omega)
    refine lv_lload_n hx hb dX3_numberAt_11 rfl (lv_at hl 1 rfl) ?_
    refine lv_ldc2 (v := 10) hx hb hown (hts (.constantLong RX3 29 10) (by decide +kernel)) dX3_numberAt_12 ?_
    refine lv_lmul hx hb dX3_numberAt_15 ?_
    refine lv_aload_n hx hb dX3_numberAt_16 rfl (lv_at hl 2 rfl) ?_
    refine lv_iload hx hb dX3_numberAt_17 (lv_at hl 0 rfl) ?_
    refine zc_callR (va_runV (As := [.int (nI j)]) (rest := [.long (acc * 10)]) ⟨hx, hb, hml, hown, hts⟩ (c_X3_at l dC dI cI cZ cJ h a cap n f (nI j) (by first | assumption | omega) (by first | assumption | omega)) (zc_V 1 hts ggX3_numberAt_X3_at rfl rfl rfl (by decide +kernel) (by decide +kernel) ⟨Nat.le_of_ble_eq_true rfl, Nat.le_of_ble_eq_true rfl⟩) ⟨zc_blind, va_recv hK hP (ci := 4) (q0 := 0) rfl rfl, zc_pay (hP.sub (ws' := [(h, .inr (4, [.ref a, .int (nI n)])), (a, .inl (cI, cap, .inl f))]) [0, 1] rfl) hK⟩ rfl rfl hl.1 rfl (lv_room (Nat.le_of_ble_eq_true rfl)) dX3_numberAt_19 ⟨Nat.le_of_ble_eq_true rfl, Nat.le_of_ble_eq_true rfl⟩) ?_
    refine zc_ti (y := f j) (zr_at_in (by omega) (by omega)) ?_
    refine lv_i2l hx hb dX3_numberAt_22 rfl ?_
    refine lv_ladd hx hb dX3_numberAt_23 ?_
    refine lv_lstore_n (lv' := [(3, .long ((acc * 10) + ((f j).toInt64))), (5, .int (nI j)), (0, .ref h), (1, .int (nI j0)), (2, .int (nI e0))]) hx hb dX3_numberAt_24 rfl hl (by decide) rfl (fun ls hl => ?_)
    refine lv_iinc (v := nI (j + 1)) (lv' := [(5, .int (nI (j + 1))), (3, .long ((acc * 10) + ((f j).toInt64))), (0, .ref h), (1, .int (nI j0)), (2, .int (nI e0))]) hx hb dX3_numberAt_25 hl (k := 1) rfl (nI_1 j) (by decide) rfl (fun ls hl => ?_)
    refine lv_goto (tgt := 5) hx hb dX3_numberAt_28 (by decide) ?_
    exact ih5 ⟨j + 1, acc * 10 + (f j).toInt64⟩ _ (by first | omega | (simp only []; omega)) ⟨lv_sub hl [0, 1, 2, 3, 4] rfl, hlt, by rw [← hi2, zr_num_step hlt]⟩
set_option maxHeartbeats 4000000 in
set_option maxRecDepth 100000 in
theorem c_X3_zeros (l : Launch) (dC : Nat → ClassId) (dI : Nat → Nat → Nat) (cI cZ cJ : ClassId) (h : Nat) (a : Nat) (cap : Nat) (n : Nat) (f : Nat → Int32) (k : Nat) (hk : k ≤ cap) (hc : cap < 2 ^ 31) (sz : Nat) : Met l yX3_zeros wsX3_zeros ({ frames := 1, cells := 0, slots := 0, locals := 21 }) (zc_PW [.ref h, .int (nI k)] (dC, dI) (zc_T cI cZ cJ) [(h, .inr (4, [.ref a, .int (nI n)])), (a, .inl (cI, cap, .inl f))] sz) (va_Qv (fun _ : Unit => True) (fun _ t => zc_B (dC, dI) (zc_T cI cZ cJ) (va_A [(h, .inr (4, [.ref a, .int (nI n)])), (a, .inl (cI, cap, .inl f))] sz) [(h, .inr (4, [.ref a, .int (nI k)])), (a, .inl (cI, cap, .inl (zr_z f 0 k)))] t) (va_A [(h, .inr (4, [.ref a, .int (nI n)])), (a, .inl (cI, cap, .inl f))] sz)) 0 0 (va_A [(h, .inr (4, [.ref a, .int (nI n)])), (a, .inl (cI, cap, .inl f))] sz) := by
  refine Met.ofW (cc := cX3_zeros) (maxL := 3) (ret := none) (by decide) rfl ?_
  intro p e s m args below meth c s₁ B hml hv
  obtain ⟨rfl, hsz, hP, hK, hD0⟩ := hv
  have hx := B.exec
  have hb := B.bytes
  have hr := B.returns
  have hts := atoms_spec (ws := wsX3_zeros) B.pre
  have hown : s.vm.findClass RX3 = some m.cls := findClass_of_methodNamed B.named
  have hlocks := B.notSynchronized
  subst hsz
  have hD := hD0.self (sz := s.heap.size)
  generalize hAe : va_A [(h, .inr (4, [.ref a, .int (nI n)])), (a, .inl (cI, cap, .inl f))] s.heap.size = A at hD ⊢
  have hA : ∀ q : Nat, s.heap.size ≤ q → A q := fun q h => by rw [← hAe]; exact Or.inr h
  have hS : va_S A s.heap s.heap [] := va_S.rf
  have hinX3 : ∀ w ∈ wsX30, w ∈ wsX3_zeros := by decide +kernel
  have hl := lv_entry ([.ref h, .int (nI k)]) (n := 3) (Nat.le_of_ble_eq_true rfl)
  rw [lg_entry_eq]
  generalize (lg_sl ([.ref h, .int (nI k)]) ++ List.replicate (3 - (lg_sl ([.ref h, .int (nI k)])).length) Slot.unset).toArray = ls at hl ⊢
  have hl : lv_has ls 3 [(0, .ref h), (1, .int (nI k))] := hl
  refine lv_aload_n hx hb dX3_zeros_0 rfl (lv_at hl 0 rfl) ?_
  refine lv_iconst (v := 0) hx hb dX3_zeros_1 (by decide) ?_
  refine lv_iload_n hx hb dX3_zeros_2 rfl (lv_at hl 1 rfl) ?_
  refine lv_aload_n hx hb dX3_zeros_3 rfl (lv_at hl 0 rfl) ?_
  refine va_get (D := (dC, dI)) (ci := 4) (v := .ref a) (C := RX3) (T := TX3) (N := 2) hx hb hts hinX3 hown hK hP 0 rfl rfl 0 (by decide) (hts (.fieldLink RX3 15 "ScanCodes$Row" "values" "[I") (by decide +kernel)) (fun _ h9 => h9) rfl dX3_zeros_4 ?_
  refine va_alen (v := nI cap) hx hb hK hP 1 0 rfl rfl rfl dX3_zeros_7 ?_
  refine va_mmin hx hb (by rw [hml]; exact hl.1.symm) hown (hts (.methodLink RX3 35 Lib.Math.min.name) (by decide +kernel)) (hts (.static Lib.Math.min.name) (by decide +kernel)) (hts (.initialized "java/lang/Math") (by decide +kernel)) (hts (.code Lib.Math.min.name Lib.Math.min.code 2 (some .int)) (by decide +kernel)) (Nat.le_of_ble_eq_true rfl) (Nat.le_of_ble_eq_true rfl) (Nat.le_of_ble_eq_true rfl) (Nat.le_of_ble_eq_true rfl) dX3_zeros_8 ?_
  refine zc_ti (y := nI k) (if_neg (nI_nlt hk hc)) ?_
  refine va_mmax hx hb (by rw [hml]; exact hl.1.symm) hown (hts (.methodLink RX3 9 Lib.Math.max.name) (by decide +kernel)) (hts (.static Lib.Math.max.name) (by decide +kernel)) (hts (.initialized "java/lang/Math") (by decide +kernel)) (hts (.code Lib.Math.max.name Lib.Math.max.code 2 (some .int)) (by decide +kernel)) (Nat.le_of_ble_eq_true rfl) (Nat.le_of_ble_eq_true rfl) (Nat.le_of_ble_eq_true rfl) (Nat.le_of_ble_eq_true rfl) dX3_zeros_11 ?_
  refine zc_ti (y := nI k) (zn_max0 (by omega)) ?_
  refine va_put (D := (dC, dI)) (ci := 4) (v := .int (nI k)) (ty := .int) (C := RX3) (T := TX3) (N := 2) hx hb hts hinX3 tyX3 tyX3_ok nmX3 hown hK hP hD hS 0 rfl rfl 1 (by decide) (hts (.fieldLink RX3 21 "ScanCodes$Row" "size" "I") (by decide +kernel)) (fun _ h9 => h9) rfl (by decide +kernel) rfl rfl (Nat.le_of_ble_eq_true rfl) dX3_zeros_14 (fun H locs hP hD hS => ?_)
  have hP : va_P (dC, dI) vwCl [(h, .inr (4, [.ref a, .int (nI k)])), (a, .inl (cI, cap, .inl f))] H := hP
  have hD : va_D A [(h, .inr (4, [.ref a, .int (nI k)])), (a, .inl (cI, cap, .inl f))] := hD
  refine lv_iconst (v := 0) hx hb dX3_zeros_17 (by decide) ?_
  refine lv_istore_n (lv' := [(2, .int 0), (0, .ref h), (1, .int (nI k))]) hx hb dX3_zeros_18 rfl hl (by decide) rfl (fun ls hl => ?_)
  rw [← zr_z0 f 0] at hP hD
  refine zc_loopH (α := Nat) (fun j H locs ls => lv_has ls 3 [(2, .int (nI j)), (0, .ref h), (1, .int (nI k))] ∧ va_P (dC, dI) vwCl [(h, .inr (4, [.ref a, .int (nI k)])), (a, .inl (cI, cap, .inl (zr_z f 0 j)))] H ∧ va_D A [(h, .inr (4, [.ref a, .int (nI k)])), (a, .inl (cI, cap, .inl (zr_z f 0 j)))] ∧ va_S A s.heap H locs ∧ (j ≤ k)) (fun j => k - j) 0 ⟨lv_sub hl [0, 1, 2] rfl, by exact hP, by exact hD, hS, Nat.zero_le _⟩ ?_
  intro x H locs ls hI ih19
  obtain ⟨j, rfl⟩ : ∃ z, z = x := ⟨_, rfl⟩
  obtain ⟨hl, hP, hD, hS, hi1⟩ := hI
  have hl : lv_has ls 3 [(2, .int (nI j)), (0, .ref h), (1, .int (nI k))] := hl
  have hP : va_P (dC, dI) vwCl [(h, .inr (4, [.ref a, .int (nI k)])), (a, .inl (cI, cap, .inl (zr_z f 0 j)))] H := hP
  have hD : va_D A [(h, .inr (4, [.ref a, .int (nI k)])), (a, .inl (cI, cap, .inl (zr_z f 0 j)))] := hD
  try dsimp only at ih19
  refine lv_iload_n hx hb dX3_zeros_19 rfl (lv_at hl 0 rfl) ?_
  refine lv_aload_n hx hb dX3_zeros_20 rfl (lv_at hl 1 rfl) ?_
  refine va_get (D := (dC, dI)) (ci := 4) (v := .int (nI k)) (C := RX3) (T := TX3) (N := 2) hx hb hts hinX3 hown hK hP 0 rfl rfl 1 (by decide) (hts (.fieldLink RX3 21 "ScanCodes$Row" "size" "I") (by decide +kernel)) (fun _ h9 => h9) rfl dX3_zeros_21 ?_
  refine lv_icmp_ge (tgt := 40) hx hb dX3_zeros_24 (by decide) (fun c24 => ?_) (fun c24 => ?_)
  · have hge := zn_le c24 (by omega) (by omega)
    have hje : j = k := by omega
    rw [hje] at hP hD
    have hP9 : va_P (dC, dI) vwCl [(h, .inr (4, [.ref a, .int (nI k)])), (a, .inl (cI, cap, .inl (zr_z f 0 k)))] H := hP
    have hD9 : va_D A [(h, .inr (4, [.ref a, .int (nI k)])), (a, .inl (cI, cap, .inl (zr_z f 0 k)))] := hD
    exact W.vret hx hb hr (fun t ht hW => ⟨⟨(), rfl, trivial, by rw [ht]; exact hP9, va_K.moved hW.alike hK, hD9⟩, hS.F ht⟩) hS.2.2 dX3_zeros_40
  · have hlt := zn_nle c24 (by omega) (by omega)
    refine lv_aload_n hx hb dX3_zeros_27 rfl (lv_at hl 1 rfl) ?_
    refine va_get (D := (dC, dI)) (ci := 4) (v := .ref a) (C := RX3) (T := TX3) (N := 2) hx hb hts hinX3 hown hK hP 0 rfl rfl 0 (by decide) (hts (.fieldLink RX3 15 "ScanCodes$Row" "values" "[I") (by decide +kernel)) (fun _ h9 => h9) rfl dX3_zeros_28 ?_
    refine lv_iload_n hx hb dX3_zeros_31 rfl (lv_at hl 0 rfl) ?_
    refine lv_iconst (v := 0) hx hb dX3_zeros_32 (by decide) ?_
    refine zc_iast hx hb hK hP hD hS 1 0 rfl rfl j rfl (by first | assumption | omega) (by first | assumption | omega) dX3_zeros_33 (fun H locs hP hD hS => ?_)
    have hP : va_P (dC, dI) vwCl [(h, .inr (4, [.ref a, .int (nI k)])), (a, .inl (cI, cap, .inl (upd (zr_z f 0 j) j 0)))] H := hP
    have hD : va_D A [(h, .inr (4, [.ref a, .int (nI k)])), (a, .inl (cI, cap, .inl (upd (zr_z f 0 j) j 0)))] := hD
    refine lv_iinc (v := nI (j + 1)) (lv' := [(2, .int (nI (j + 1))), (0, .ref h), (1, .int (nI k))]) hx hb dX3_zeros_34 hl (k := 0) rfl (nI_1 j) (by decide) rfl (fun ls hl => ?_)
    refine lv_goto (tgt := 19) hx hb dX3_zeros_37 (by decide) ?_
    have hz := zr_zS f 0 j
    rw [Nat.zero_add] at hz
    rw [hz] at hP hD
    exact ih19 (j + 1) _ _ _ (by first | omega | (simp only []; omega)) ⟨lv_sub hl [0, 1, 2] rfl, by first | exact hP | exact hP.sub [0, 1] rfl, by first | exact hD, hS, hlt⟩
set_option maxHeartbeats 4000000 in
set_option maxRecDepth 100000 in
theorem c_X3_addNumber (l : Launch) (dC : Nat → ClassId) (dI : Nat → Nat → Nat) (cI cZ cJ : ClassId) (h : Nat) (a : Nat) (cap : Nat) (n : Nat) (f : Nat → Int32) (v : Int64) (d : Nat) (hd : n + d ≤ cap) (hc : cap < 2 ^ 31) (sz : Nat) : Met l yX3_addNumber wsX3_addNumber ({ frames := 1, cells := 0, slots := 0, locals := 22 }) (zc_PW [.ref h, .long v, .int (nI d)] (dC, dI) (zc_T cI cZ cJ) [(h, .inr (4, [.ref a, .int (nI n)])), (a, .inl (cI, cap, .inl f))] sz) (va_Qv (fun _ : Unit => True) (fun _ t => zc_B (dC, dI) (zc_T cI cZ cJ) (va_A [(h, .inr (4, [.ref a, .int (nI n)])), (a, .inl (cI, cap, .inl f))] sz) [(h, .inr (4, [.ref a, .int (nI (n + d))])), (a, .inl (cI, cap, .inl (zr_an f n d v)))] t) (va_A [(h, .inr (4, [.ref a, .int (nI n)])), (a, .inl (cI, cap, .inl f))] sz)) 0 0 (va_A [(h, .inr (4, [.ref a, .int (nI n)])), (a, .inl (cI, cap, .inl f))] sz) := by
  refine Met.ofW (cc := cX3_addNumber) (maxL := 8) (ret := none) (by decide) rfl ?_
  intro p e s m args below meth c s₁ B hml hv
  obtain ⟨rfl, hsz, hP, hK, hD0⟩ := hv
  have hx := B.exec
  have hb := B.bytes
  have hr := B.returns
  have hts := atoms_spec (ws := wsX3_addNumber) B.pre
  have hown : s.vm.findClass RX3 = some m.cls := findClass_of_methodNamed B.named
  have hlocks := B.notSynchronized
  subst hsz
  have hD := hD0.self (sz := s.heap.size)
  generalize hAe : va_A [(h, .inr (4, [.ref a, .int (nI n)])), (a, .inl (cI, cap, .inl f))] s.heap.size = A at hD ⊢
  have hA : ∀ q : Nat, s.heap.size ≤ q → A q := fun q h => by rw [← hAe]; exact Or.inr h
  have hS : va_S A s.heap s.heap [] := va_S.rf
  have hinX3 : ∀ w ∈ wsX30, w ∈ wsX3_addNumber := by decide +kernel
  have hl := lv_entry ([.ref h, .long v, .int (nI d)]) (n := 8) (Nat.le_of_ble_eq_true rfl)
  rw [lg_entry_eq]
  generalize (lg_sl ([.ref h, .long v, .int (nI d)]) ++ List.replicate (8 - (lg_sl ([.ref h, .long v, .int (nI d)])).length) Slot.unset).toArray = ls at hl ⊢
  have hl : lv_has ls 8 [(0, .ref h), (1, .long v), (3, .int (nI d))] := hl
  refine lv_aload_n hx hb dX3_addNumber_0 rfl (lv_at hl 0 rfl) ?_
  refine va_get (D := (dC, dI)) (ci := 4) (v := .int (nI n)) (C := RX3) (T := TX3) (N := 2) hx hb hts hinX3 hown hK hP 0 rfl rfl 1 (by decide) (hts (.fieldLink RX3 21 "ScanCodes$Row" "size" "I") (by decide +kernel)) (fun _ h9 => h9) rfl dX3_addNumber_1 ?_
  refine lv_istore (lv' := [(4, .int (nI n)), (0, .ref h), (1, .long v), (3, .int (nI d))]) hx hb dX3_addNumber_4 hl (by decide) rfl (fun ls hl => ?_)
  refine lv_iconst (v := 0) hx hb dX3_addNumber_6 (by decide) ?_
  refine lv_istore (lv' := [(5, .int 0), (4, .int (nI n)), (0, .ref h), (1, .long v), (3, .int (nI d))]) hx hb dX3_addNumber_7 hl (by decide) rfl (fun ls hl => ?_)
  rw [← zr_z0 f n] at hP hD
  refine zc_loopH (α := Nat) (fun j H locs ls => lv_has ls 8 [(5, .int (nI j)), (4, .int (nI n)), (0, .ref h), (1, .long v), (3, .int (nI d))] ∧ va_P (dC, dI) vwCl [(h, .inr (4, [.ref a, .int (nI (n + j))])), (a, .inl (cI, cap, .inl (zr_z f n j)))] H ∧ va_D A [(h, .inr (4, [.ref a, .int (nI (n + j))])), (a, .inl (cI, cap, .inl (zr_z f n j)))] ∧ va_S A s.heap H locs ∧ (j ≤ d)) (fun j => d - j) 0 ⟨lv_sub hl [0, 1, 2, 3, 4] rfl, by exact hP, by exact hD, hS, Nat.zero_le _⟩ ?_
  intro x H locs ls hI ih9
  obtain ⟨j, rfl⟩ : ∃ z, z = x := ⟨_, rfl⟩
  obtain ⟨hl, hP, hD, hS, hi1⟩ := hI
  have hl : lv_has ls 8 [(5, .int (nI j)), (4, .int (nI n)), (0, .ref h), (1, .long v), (3, .int (nI d))] := hl
  have hP : va_P (dC, dI) vwCl [(h, .inr (4, [.ref a, .int (nI (n + j))])), (a, .inl (cI, cap, .inl (zr_z f n j)))] H := hP
  have hD : va_D A [(h, .inr (4, [.ref a, .int (nI (n + j))])), (a, .inl (cI, cap, .inl (zr_z f n j)))] := hD
  try dsimp only at ih9
  refine lv_iload hx hb dX3_addNumber_9 (lv_at hl 0 rfl) ?_
  refine lv_iload_n hx hb dX3_addNumber_11 rfl (lv_at hl 4 rfl) ?_
  refine lv_icmp_ge (tgt := 26) hx hb dX3_addNumber_12 (by decide) (fun c12 => ?_) (fun c12 => ?_)
  · have hge := zn_le c12 (by omega) (by omega)
    have hje : j = d := by omega
    rw [hje] at hP hD
    refine lv_lload_n hx hb dX3_addNumber_26 rfl (lv_at hl 3 rfl) ?_
    refine lv_lstore (lv' := [(5, .long v), (4, .int (nI n)), (0, .ref h), (1, .long v), (3, .int (nI d))]) hx hb dX3_addNumber_27 hl (by decide) rfl (fun ls hl => ?_)
    refine lv_iload hx hb dX3_addNumber_29 (lv_at hl 1 rfl) ?_
    refine lv_iload_n hx hb dX3_addNumber_31 rfl (lv_at hl 4 rfl) ?_
    refine lv_iadd hx hb dX3_addNumber_32 ?_
    refine lv_iconst (v := 1) hx hb dX3_addNumber_33 (by decide) ?_
    refine lv_isub hx hb dX3_addNumber_34 ?_
    refine zc_ti (y := nI (n + d - 0) - 1) (by rw [nI_add]; rfl) ?_
    refine lv_istore (lv' := [(7, .int (nI (n + d - 0) - 1)), (5, .long v), (4, .int (nI n)), (0, .ref h), (1, .long v), (3, .int (nI d))]) hx hb dX3_addNumber_35 hl (by decide) rfl (fun ls hl => ?_)
    rw [zr_an0 f n d v] at hP hD
    refine zc_loopH (α := Nat) (fun k H locs ls => lv_has ls 8 [(7, .int (nI (n + d - k) - 1)), (5, .long (zr_q v k)), (4, .int (nI n)), (0, .ref h), (1, .long v), (3, .int (nI d))] ∧ va_P (dC, dI) vwCl [(h, .inr (4, [.ref a, .int (nI (n + d))])), (a, .inl (cI, cap, .inl (zr_anK f n d v k)))] H ∧ va_D A [(h, .inr (4, [.ref a, .int (nI (n + d))])), (a, .inl (cI, cap, .inl (zr_anK f n d v k)))] ∧ va_S A s.heap H locs ∧ (k ≤ d)) (fun k => d - k) 0 ⟨lv_sub hl [0, 1, 2, 3, 4, 5] rfl, by exact hP, by exact hD, hS, Nat.zero_le _⟩ ?_
    intro x H locs ls hI ih37
    obtain ⟨k, rfl⟩ : ∃ z, z = x := ⟨_, rfl⟩
    obtain ⟨hl, hP, hD, hS, hi1⟩ := hI
    have hl : lv_has ls 8 [(7, .int (nI (n + d - k) - 1)), (5, .long (zr_q v k)), (4, .int (nI n)), (0, .ref h), (1, .long v), (3, .int (nI d))] := hl
    have hP : va_P (dC, dI) vwCl [(h, .inr (4, [.ref a, .int (nI (n + d))])), (a, .inl (cI, cap, .inl (zr_anK f n d v k)))] H := hP
    have hD : va_D A [(h, .inr (4, [.ref a, .int (nI (n + d))])), (a, .inl (cI, cap, .inl (zr_anK f n d v k)))] := hD
    try dsimp only at ih37
    refine lv_iload hx hb dX3_addNumber_37 (lv_at hl 0 rfl) ?_
    refine lv_iload hx hb dX3_addNumber_39 (lv_at hl 2 rfl) ?_
    refine lv_icmp_lt (tgt := 71) hx hb dX3_addNumber_41 (by decide) (fun c41 => ?_) (fun c41 => ?_)
    · have hge := zn_predlt c41 (by omega) (by omega)
      have hkd : k = d := by omega
      rw [hkd] at hP hD
      rw [zr_anE] at hP hD
      have hP9 : va_P (dC, dI) vwCl [(h, .inr (4, [.ref a, .int (nI (n + d))])), (a, .inl (cI, cap, .inl (zr_an f n d v)))] H := hP
      have hD9 : va_D A [(h, .inr (4, [.ref a, .int (nI (n + d))])), (a, .inl (cI, cap, .inl (zr_an f n d v)))] := hD
      exact W.vret hx hb hr (fun t ht hW => ⟨⟨(), rfl, trivial, by rw [ht]; exact hP9, va_K.moved hW.alike hK, hD9⟩, hS.F ht⟩) hS.2.2 dX3_addNumber_71
    · have hlt := zn_npredlt c41 (by omega) (by omega)
      have hkl : k < d := by omega
      refine lv_aload_n hx hb dX3_addNumber_44 rfl (lv_at hl 3 rfl) ?_
      refine lv_iload hx hb dX3_addNumber_45 (lv_at hl 0 rfl) ?_
      refine zc_ti (y := nI (n + d - 1 - k)) (by rw [zn_pred (by omega)]; congr 1; omega) ?_
      refine lv_lload hx hb dX3_addNumber_47 (lv_at hl 1 rfl) ?_
      refine lv_ldc2 (v := 10) hx hb hown (hts (.constantLong RX3 29 10) (by decide +kernel)) dX3_addNumber_49 ?_
      refine lv_lrem hx hb dX3_addNumber_52 (by decide) ?_
      refine lv_l2i hx hb dX3_addNumber_53 rfl ?_
      refine zc_ti (y := zr_dig v k) rfl ?_
      have hPc := hP.sub (ws' := [(h, .inr (4, [.ref a, .int (nI (n + d))])), (a, .inl (cI, cap, .inl (zr_anK f n d v k)))]) [0, 1] rfl
      have hDc := hD.sub (ws' := [(h, .inr (4, [.ref a, .int (nI (n + d))])), (a, .inl (cI, cap, .inl (zr_anK f n d v k)))]) [0, 1] (by decide) rfl
      have hFc := va_free (wc := [(h, .inr (4, [.ref a, .int (nI (n + d))])), (a, .inl (cI, cap, .inl (zr_anK f n d v k)))]) hD hS hA [0, 1] rfl
      refine va_callv (va_runV (As := [.int (nI (n + d - 1 - k)), .int (zr_dig v k)]) (rest := []) ⟨hx, hb, hml, hown, hts⟩ (c_X3_put l dC dI cI cZ cJ h a cap (n + d) (zr_anK f n d v k) (n + d - 1 - k) (zr_dig v k) (by first | assumption | omega) (by first | assumption | omega) (by first | assumption | omega) H.size) (zc_V 2 hts ggX3_addNumber_X3_put rfl rfl rfl (by decide +kernel) (by decide +kernel) ⟨Nat.le_of_ble_eq_true rfl, Nat.le_of_ble_eq_true rfl⟩) ⟨zc_blindW, va_recv hK hP (ci := 4) (q0 := 0) rfl rfl, zc_payW hPc hK hDc⟩ rfl rfl hl.1 rfl (lv_room (Nat.le_of_ble_eq_true rfl)) dX3_addNumber_54 ⟨Nat.le_of_ble_eq_true rfl, Nat.le_of_ble_eq_true rfl⟩) hS (fun q _ h => hFc q h) hFc (fun uu t H1 locs ht hvm hw hB hz1 hk1 hS => ?_)
      obtain ⟨hP1, hK1, hD1⟩ := hB
      rw [ht] at hP1
      obtain ⟨hP, hD⟩ := va_join (wr := []) (w1 := [(h, .inr (4, [.ref a, .int (nI (n + d))])), (a, .inl (cI, cap, .inl (upd (zr_anK f n d v k) (n + d - 1 - k) (zr_dig v k))))]) hP hD [0, 1] [] rfl rfl (by decide) (by decide) hk1 hFc hP1 hD1
      generalize H1 = H at hP hS ⊢
      have hP := hP.sub (ws' := [(h, .inr (4, [.ref a, .int (nI (n + d))])), (a, .inl (cI, cap, .inl (upd (zr_anK f n d v k) (n + d - 1 - k) (zr_dig v k))))]) [0, 1] rfl
      have hD := hD.sub (ws' := [(h, .inr (4, [.ref a, .int (nI (n + d))])), (a, .inl (cI, cap, .inl (upd (zr_anK f n d v k) (n + d - 1 - k) (zr_dig v k))))]) [0, 1] (by decide) rfl
      refine lv_lload hx hb dX3_addNumber_57 (lv_at hl 1 rfl) ?_
      refine lv_ldc2 (v := 10) hx hb hown (hts (.constantLong RX3 29 10) (by decide +kernel)) dX3_addNumber_59 ?_
      refine lv_ldiv hx hb dX3_addNumber_62 (by decide) ?_
      refine lv_lstore (lv' := [(5, .long ((zr_q v k) / 10)), (7, .int (nI (n + d - k) - 1)), (4, .int (nI n)), (0, .ref h), (1, .long v), (3, .int (nI d))]) hx hb dX3_addNumber_63 hl (by decide) rfl (fun ls hl => ?_)
      refine lv_iinc (v := nI (n + d - (k + 1)) - 1) (lv' := [(7, .int (nI (n + d - (k + 1)) - 1)), (5, .long ((zr_q v k) / 10)), (4, .int (nI n)), (0, .ref h), (1, .long v), (3, .int (nI d))]) hx hb dX3_addNumber_65 hl (k := 1) rfl (by rw [zn_dec (by omega)]; congr 2) (by decide) rfl (fun ls hl => ?_)
      refine lv_goto (tgt := 37) hx hb dX3_addNumber_68 (by decide) ?_
      rw [zr_anS f v hkl] at hP hD
      exact ih37 (k + 1) _ _ _ (by first | omega | (simp only []; omega)) ⟨lv_sub hl [0, 1, 2, 3, 4, 5] rfl, by first | exact hP | exact hP.sub [0, 1] rfl, by first | exact hD, hS, hkl⟩
  · have hlt := zn_nle c12 (by omega) (by omega)
    refine lv_aload_n hx hb dX3_addNumber_15 rfl (lv_at hl 2 rfl) ?_
    refine lv_iconst (v := 0) hx hb dX3_addNumber_16 (by decide) ?_
    have hPc := hP.sub (ws' := [(h, .inr (4, [.ref a, .int (nI (n + j))])), (a, .inl (cI, cap, .inl (zr_z f n j)))]) [0, 1] rfl
    have hDc := hD.sub (ws' := [(h, .inr (4, [.ref a, .int (nI (n + j))])), (a, .inl (cI, cap, .inl (zr_z f n j)))]) [0, 1] (by decide) rfl
    have hFc := va_free (wc := [(h, .inr (4, [.ref a, .int (nI (n + j))])), (a, .inl (cI, cap, .inl (zr_z f n j)))]) hD hS hA [0, 1] rfl
    refine va_callv (va_runV (As := [.int 0]) (rest := []) ⟨hx, hb, hml, hown, hts⟩ (c_X3_add l dC dI cI cZ cJ h a cap (n + j) (zr_z f n j) 0 (by first | assumption | omega) (by first | assumption | omega) H.size) (zc_V 1 hts ggX3_addNumber_X3_add rfl rfl rfl (by decide +kernel) (by decide +kernel) ⟨Nat.le_of_ble_eq_true rfl, Nat.le_of_ble_eq_true rfl⟩) ⟨zc_blindW, va_recv hK hP (ci := 4) (q0 := 0) rfl rfl, zc_payW hPc hK hDc⟩ rfl rfl hl.1 rfl (lv_room (Nat.le_of_ble_eq_true rfl)) dX3_addNumber_17 ⟨Nat.le_of_ble_eq_true rfl, Nat.le_of_ble_eq_true rfl⟩) hS (fun q _ h => hFc q h) hFc (fun uu t H1 locs ht hvm hw hB hz1 hk1 hS => ?_)
    obtain ⟨hP1, hK1, hD1⟩ := hB
    rw [ht] at hP1
    obtain ⟨hP, hD⟩ := va_join (wr := []) (w1 := [(h, .inr (4, [.ref a, .int (nI ((n + j) + 1))])), (a, .inl (cI, cap, .inl (upd (zr_z f n j) (n + j) 0)))]) hP hD [0, 1] [] rfl rfl (by decide) (by decide) hk1 hFc hP1 hD1
    generalize H1 = H at hP hS ⊢
    have hP := hP.sub (ws' := [(h, .inr (4, [.ref a, .int (nI ((n + j) + 1))])), (a, .inl (cI, cap, .inl (upd (zr_z f n j) (n + j) 0)))]) [0, 1] rfl
    have hD := hD.sub (ws' := [(h, .inr (4, [.ref a, .int (nI ((n + j) + 1))])), (a, .inl (cI, cap, .inl (upd (zr_z f n j) (n + j) 0)))]) [0, 1] (by decide) rfl
    refine lv_iinc (v := nI (j + 1)) (lv' := [(5, .int (nI (j + 1))), (4, .int (nI n)), (0, .ref h), (1, .long v), (3, .int (nI d))]) hx hb dX3_addNumber_20 hl (k := 0) rfl (nI_1 j) (by decide) rfl (fun ls hl => ?_)
    refine lv_goto (tgt := 9) hx hb dX3_addNumber_23 (by decide) ?_
    rw [zr_zS] at hP hD
    exact ih9 (j + 1) _ _ _ (by first | omega | (simp only []; omega)) ⟨lv_sub hl [0, 1, 2, 3, 4] rfl, by first | exact hP | exact hP.sub [0, 1] rfl, by first | exact hD, hS, hlt⟩
