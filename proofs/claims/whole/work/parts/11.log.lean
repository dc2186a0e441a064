/-! ScanLog: n labels; their keys K, six places each; the seconds T, eight places each. The check sign. -/
/-- the first of the numbers from j on (k are left) with P -/
noncomputable def zfirst (P : Nat → Prop) : Nat → Nat → Nat
  | 0, j => j
  | k + 1, j => zi (P j) j (zfirst P k (j + 1))
theorem zfirst_le (P : Nat → Prop) : ∀ (k j : Nat), j ≤ zfirst P k j ∧ zfirst P k j ≤ j + k := by
  intro k
  induction k with
  | zero => intro j; exact ⟨Nat.le_refl _, Nat.le_refl _⟩
  | succ k ih =>
    intro j
    rw [zfirst]
    by_cases h : P j
    · rw [zi_t h]; omega
    · rw [zi_f h]; have := ih (j + 1); omega
def zkey (fp fg : Nat → Int32) (fv : Nat → Int64) (n i : Nat) : Int64 := if n ≤ i then 0 else (fp i * 16 + fg i).toInt64 * 1000000000000 + fv i
def zisat (K : Nat → Int64) (fp fg : Nat → Int32) (fv : Nat → Int64) (n pl : Nat) : Prop := ∀ i, i < 6 → K (pl * 6 + i) = zkey fp fg fv n i
noncomputable def zplace (K : Nat → Int64) (fp fg : Nat → Int32) (fv : Nat → Int64) (n lb : Nat) : Nat := zfirst (zisat K fp fg fv n) lb 0
def zkadd (K : Nat → Int64) (fp fg : Nat → Int32) (fv : Nat → Int64) (n lb k : Nat) : Nat → Int64 := fun j => if lb * 6 ≤ j ∧ j < lb * 6 + k then zkey fp fg fv n (j - lb * 6) else K j
theorem zkadd_0 (K : Nat → Int64) (fp fg : Nat → Int32) (fv : Nat → Int64) (n lb : Nat) : zkadd K fp fg fv n lb 0 = K := by
  funext j; unfold zkadd; rw [if_neg (by omega)]
theorem zkadd_s (K : Nat → Int64) (fp fg : Nat → Int32) (fv : Nat → Int64) (n lb k : Nat) : vp_updL (zkadd K fp fg fv n lb k) (lb * 6 + k) (zkey fp fg fv n k) = zkadd K fp fg fv n lb (k + 1) := by
  funext j
  unfold vp_updL zkadd
  by_cases h : j = lb * 6 + k
  · rw [if_pos h, if_pos (by omega), show j - lb * 6 = k by omega]
  · rw [if_neg h]
    by_cases h2 : lb * 6 ≤ j ∧ j < lb * 6 + k
    · rw [if_pos h2, if_pos (by omega)]
    · rw [if_neg h2, if_neg (by omega)]
/-- scanned a while ago -/
def zdbl (before second : Int32) : Prop := ¬ before = -1 ∧ ¬ 10 < second - before
theorem zl_cmp {x y : Int64} : lg_cmp x y = 0 ↔ x = y := by
  unfold lg_cmp
  by_cases h1 : y < x
  · simp only [h1, if_true]
    constructor
    · intro h; exact absurd h (by decide)
    · intro h; subst h; exact absurd h1 (Int64.lt_irrefl)
  · by_cases h2 : x = y
    · simp [h1, h2]
    · simp only [h1, h2, if_false]
      constructor
      · intro h; exact absurd h (by decide)
      · intro h; exact h.elim
/-- the weighted sum of the first len signs, k of them, from the last on -/
def zwt (k : Nat) : Int32 := if k % 2 = 0 then 3 else 1
theorem zwt_s (k : Nat) : 4 - zwt k = zwt (k + 1) := by
  unfold zwt
  rcases Nat.mod_two_eq_zero_or_one k with h | h
  · rw [if_pos h, if_neg (by omega)]; decide
  · rw [if_neg (by omega), if_pos (by omega)]; decide
def zsw (f : Nat → Int32) (len : Nat) : Nat → Int32
  | 0 => 0
  | k + 1 => zsw f len k + zwt k * f (len - 1 - k)
def zfm (x y : Int32) : Int32 := if 0 ≤ x ^^^ y then x - x / y * y else if x - x / y * y = 0 then x - x / y * y else x - x / y * y + y
def zchk (f : Nat → Int32) (len : Nat) : Int32 := zfm (-(zsw f len len)) 10

set_option maxHeartbeats 4000000 in
set_option maxRecDepth 100000 in
theorem c_X4_keyOf (l : Launch) (dC : Nat → ClassId) (dI : Nat → Nat → Nat) (cI cZ cJ : ClassId) (fh : Nat) (ap : Nat) (ag : Nat) (av : Nat) (n : Nat) (fp : Nat → Int32) (fg : Nat → Int32) (fv : Nat → Int64) (i : Nat) (hn : n ≤ 6) (hi : i < 2 ^ 31) : Met l yX4_keyOf wsX4_keyOf ({ frames := 1, cells := 0, slots := 0, locals := 21 }) (zc_P [.ref fh, .int (nI i)] (dC, dI) (zc_T cI cZ cJ) [(fh, .inr (2, [.ref ap, .ref ag, .ref av, .int (nI n)])), (ap, .inl (cI, 6, .inl fp)), (ag, .inl (cI, 6, .inl fg)), (av, .inl (cJ, 6, .inr (.inl fv)))]) (zc_Q (.long (zkey fp fg fv n i))) 0 0 (fun _ => False) := by
  refine Met.ofW (cc := cX4_keyOf) (maxL := 4) (ret := (some .long)) (by decide) rfl ?_
  intro p e s m args below meth c s₁ B hml hv
  obtain ⟨rfl, hP, hK⟩ := hv
  have hx := B.exec
  have hb := B.bytes
  have hr := B.returns
  have hts := atoms_spec (ws := wsX4_keyOf) B.pre
  have hown : s.vm.findClass RX4 = some m.cls := findClass_of_methodNamed B.named
  have hlocks := B.notSynchronized
  have hl := lv_entry ([.ref fh, .int (nI i)]) (n := 4) (Nat.le_of_ble_eq_true rfl)
  rw [lg_entry_eq]
  generalize (lg_sl ([.ref fh, .int (nI i)]) ++ List.replicate (4 - (lg_sl ([.ref fh, .int (nI i)])).length) Slot.unset).toArray = ls at hl ⊢
  have hl : lv_has ls 4 [(0, .ref fh), (1, .int (nI i))] := hl
  refine lv_iload_n hx hb dX4_keyOf_0 rfl (lv_at hl 1 rfl) ?_
  refine lv_aload_n hx hb dX4_keyOf_1 rfl (lv_at hl 0 rfl) ?_
  refine zc_callR (va_runV (As := []) (rest := [.int (nI i)]) ⟨hx, hb, hml, hown, hts⟩ (c_X1_size l dC dI cI cZ cJ fh ap ag av n fp fg fv) (zc_V 0 hts ggX4_keyOf_X1_size rfl rfl rfl (by decide +kernel) (by decide +kernel) ⟨Nat.le_of_ble_eq_true rfl, Nat.le_of_ble_eq_true rfl⟩) ⟨zc_blind, va_recv hK hP (ci := 2) (q0 := 0) rfl rfl, zc_pay (hP.sub (ws' := [(fh, .inr (2, [.ref ap, .ref ag, .ref av, .int (nI n)])), (ap, .inl (cI, 6, .inl fp)), (ag, .inl (cI, 6, .inl fg)), (av, .inl (cJ, 6, .inr (.inl fv)))]) [0, 1, 2, 3] rfl) hK⟩ rfl rfl hl.1 rfl (lv_room (Nat.le_of_ble_eq_true rfl)) dX4_keyOf_2 ⟨Nat.le_of_ble_eq_true rfl, Nat.le_of_ble_eq_true rfl⟩) ?_
  refine lv_icmp_lt (tgt := 10) hx hb dX4_keyOf_5 (by decide) (fun c5 => ?_) (fun c5 => ?_)
  · have hlt := zn_lt c5 (by omega) (by omega)
    refine lv_aload_n hx hb dX4_keyOf_10 rfl (lv_at hl 0 rfl) ?_
    refine lv_iload_n hx hb dX4_keyOf_11 rfl (lv_at hl 1 rfl) ?_
    refine zc_callR (va_runV (As := [.int (nI i)]) (rest := []) ⟨hx, hb, hml, hown, hts⟩ (c_X1_prefixAt l dC dI cI cZ cJ fh ap ag av n fp fg fv i (by first | assumption | omega) (by first | assumption | omega)) (zc_V 1 hts ggX4_keyOf_X1_prefixAt rfl rfl rfl (by decide +kernel) (by decide +kernel) ⟨Nat.le_of_ble_eq_true rfl, Nat.le_of_ble_eq_true rfl⟩) ⟨zc_blind, va_recv hK hP (ci := 2) (q0 := 0) rfl rfl, zc_pay (hP.sub (ws' := [(fh, .inr (2, [.ref ap, .ref ag, .ref av, .int (nI n)])), (ap, .inl (cI, 6, .inl fp)), (ag, .inl (cI, 6, .inl fg)), (av, .inl (cJ, 6, .inr (.inl fv)))]) [0, 1, 2, 3] rfl) hK⟩ rfl rfl hl.1 rfl (lv_room (Nat.le_of_ble_eq_true rfl)) dX4_keyOf_12 ⟨Nat.le_of_ble_eq_true rfl, Nat.le_of_ble_eq_true rfl⟩) ?_
    refine lv_bipush (v := 16) hx hb dX4_keyOf_15 (by decide) ?_
    refine lv_imul hx hb dX4_keyOf_17 ?_
    refine lv_aload_n hx hb dX4_keyOf_18 rfl (lv_at hl 0 rfl) ?_
    refine lv_iload_n hx hb dX4_keyOf_19 rfl (lv_at hl 1 rfl) ?_
    refine zc_callR (va_runV (As := [.int (nI i)]) (rest := [.int ((fp i) * 16)]) ⟨hx, hb, hml, hown, hts⟩ (c_X1_digitsAt l dC dI cI cZ cJ fh ap ag av n fp fg fv i (by first | assumption | omega) (by first | assumption | omega)) (zc_V 1 hts ggX4_keyOf_X1_digitsAt rfl rfl rfl (by decide +kernel) (by decide +kernel) ⟨Nat.le_of_ble_eq_true rfl, Nat.le_of_ble_eq_true rfl⟩) ⟨zc_blind, va_recv hK hP (ci := 2) (q0 := 0) rfl rfl, zc_pay (hP.sub (ws' := [(fh, .inr (2, [.ref ap, .ref ag, .ref av, .int (nI n)])), (ap, .inl (cI, 6, .inl fp)), (ag, .inl (cI, 6, .inl fg)), (av, .inl (cJ, 6, .inr (.inl fv)))]) [0, 1, 2, 3] rfl) hK⟩ rfl rfl hl.1 rfl (lv_room (Nat.le_of_ble_eq_true rfl)) dX4_keyOf_20 ⟨Nat.le_of_ble_eq_true rfl, Nat.le_of_ble_eq_true rfl⟩) ?_
    refine lv_iadd hx hb dX4_keyOf_23 ?_
    refine lv_i2l hx hb dX4_keyOf_24 rfl ?_
    refine lv_lstore_n (lv' := [(2, .long ((((fp i) * 16) + (fg i)).toInt64)), (0, .ref fh), (1, .int (nI i))]) hx hb dX4_keyOf_25 rfl hl (by decide) rfl (fun ls hl => ?_)
    refine lv_lload_n hx hb dX4_keyOf_26 rfl (lv_at hl 0 rfl) ?_
    refine lv_ldc2 (v := 1000000000000) hx hb hown (hts (.constantLong RX4 57 1000000000000) (by decide +kernel)) dX4_keyOf_27 ?_
    refine lv_lmul hx hb dX4_keyOf_30 ?_
    refine lv_aload_n hx hb dX4_keyOf_31 rfl (lv_at hl 1 rfl) ?_
    refine lv_iload_n hx hb dX4_keyOf_32 rfl (lv_at hl 2 rfl) ?_
    refine zc_callR (va_runV (As := [.int (nI i)]) (rest := [.long (((((fp i) * 16) + (fg i)).toInt64) * 1000000000000)]) ⟨hx, hb, hml, hown, hts⟩ (c_X1_numberAt l dC dI cI cZ cJ fh ap ag av n fp fg fv i (by first | assumption | omega) (by first | assumption | omega)) (zc_V 1 hts ggX4_keyOf_X1_numberAt rfl rfl rfl (by decide +kernel) (by decide +kernel) ⟨Nat.le_of_ble_eq_true rfl, Nat.le_of_ble_eq_true rfl⟩) ⟨zc_blind, va_recv hK hP (ci := 2) (q0 := 0) rfl rfl, zc_pay (hP.sub (ws' := [(fh, .inr (2, [.ref ap, .ref ag, .ref av, .int (nI n)])), (ap, .inl (cI, 6, .inl fp)), (ag, .inl (cI, 6, .inl fg)), (av, .inl (cJ, 6, .inr (.inl fv)))]) [0, 1, 2, 3] rfl) hK⟩ rfl rfl hl.1 rfl (lv_room (Nat.le_of_ble_eq_true rfl)) dX4_keyOf_33 ⟨Nat.le_of_ble_eq_true rfl, Nat.le_of_ble_eq_true rfl⟩) ?_
    refine lv_ladd hx hb dX4_keyOf_36 ?_
    have hres : ((((((fp i) * 16) + (fg i)).toInt64) * 1000000000000) + (fv i)) = zkey fp fg fv n i := by rw [zkey, if_neg (by omega)]
    exact W.lret (v := (((((fp i) * 16) + (fg i)).toInt64) * 1000000000000) + (fv i)) hx hb hr (fun t ht _ => ⟨congrArg (fun z => Outcome.returned (some (Value.long z))) hres, ht⟩) (fun _ h => nomatch h) dX4_keyOf_37
  · have hge := zn_nlt c5 (by omega) (by omega)
    refine lv_lconst (v := 0) hx hb dX4_keyOf_8 (by decide) ?_
    have hres : (0 : Int64) = zkey fp fg fv n i := by rw [zkey, if_pos hge]
    exact W.lret (v := 0) hx hb hr (fun t ht _ => ⟨congrArg (fun z => Outcome.returned (some (Value.long z))) hres, ht⟩) (fun _ h => nomatch h) dX4_keyOf_9
set_option maxHeartbeats 4000000 in
set_option maxRecDepth 100000 in
theorem c_X4_size (l : Launch) (dC : Nat → ClassId) (dI : Nat → Nat → Nat) (cI cZ cJ : ClassId) (h : Nat) (aK : Nat) (aT : Nat) (lb : Nat) (K : Nat → Int64) (T : Nat → Int32) : Met l yX4_size wsX4_size ({ frames := 0, cells := 0, slots := 0, locals := 0 }) (zc_P [.ref h] (dC, dI) (zc_T cI cZ cJ) [(h, .inr (5, [.ref aK, .ref aT, .int (nI lb)])), (aK, .inl (cJ, 240, .inr (.inl K))), (aT, .inl (cI, 320, .inl T))]) (zc_Q (.int (nI lb))) 0 0 (fun _ => False) := by
  refine Met.ofW (cc := cX4_size) (maxL := 1) (ret := (some .int)) (by decide) rfl ?_
  intro p e s m args below meth c s₁ B hml hv
  obtain ⟨rfl, hP, hK⟩ := hv
  have hx := B.exec
  have hb := B.bytes
  have hr := B.returns
  have hts := atoms_spec (ws := wsX4_size) B.pre
  have hown : s.vm.findClass RX4 = some m.cls := findClass_of_methodNamed B.named
  have hlocks := B.notSynchronized
  have hinX4 : ∀ w ∈ wsX40, w ∈ wsX4_size := by decide +kernel
  have hl := lv_entry ([.ref h]) (n := 1) (Nat.le_of_ble_eq_true rfl)
  rw [lg_entry_eq]
  generalize (lg_sl ([.ref h]) ++ List.replicate (1 - (lg_sl ([.ref h])).length) Slot.unset).toArray = ls at hl ⊢
  have hl : lv_has ls 1 [(0, .ref h)] := hl
  refine lv_aload_n hx hb dX4_size_0 rfl (lv_at hl 0 rfl) ?_
  refine va_get (D := (dC, dI)) (ci := 5) (v := .int (nI lb)) (C := RX4) (T := TX4) (N := 3) hx hb hts hinX4 hown hK hP 0 rfl rfl 2 (by decide) (hts (.fieldLink RX4 25 "ScanCodes$ScanLog" "size" "I") (by decide +kernel)) (fun _ h9 => h9) rfl dX4_size_1 ?_
  have hres : (nI lb) = nI lb := by rfl
  exact W.iret (v := nI lb) hx hb hr (fun t ht _ => ⟨congrArg (fun z => Outcome.returned (some (Value.int z))) hres, ht⟩) (fun _ h => nomatch h) dX4_size_4
set_option maxHeartbeats 4000000 in
set_option maxRecDepth 100000 in
theorem c_X4_isFull (l : Launch) (dC : Nat → ClassId) (dI : Nat → Nat → Nat) (cI cZ cJ : ClassId) (h : Nat) (aK : Nat) (aT : Nat) (lb : Nat) (K : Nat → Int64) (T : Nat → Int32) (hlb : lb ≤ 40) : Met l yX4_isFull wsX4_isFull ({ frames := 0, cells := 0, slots := 0, locals := 0 }) (zc_P [.ref h] (dC, dI) (zc_T cI cZ cJ) [(h, .inr (5, [.ref aK, .ref aT, .int (nI lb)])), (aK, .inl (cJ, 240, .inr (.inl K))), (aT, .inl (cI, 320, .inl T))]) (zc_Q (.int (if 40 ≤ lb then 1 else 0))) 0 0 (fun _ => False) := by
  refine Met.ofW (cc := cX4_isFull) (maxL := 1) (ret := (some .boolean)) (by decide) rfl ?_
  intro p e s m args below meth c s₁ B hml hv
  obtain ⟨rfl, hP, hK⟩ := hv
  have hx := B.exec
  have hb := B.bytes
  have hr := B.returns
  have hts := atoms_spec (ws := wsX4_isFull) B.pre
  have hown : s.vm.findClass RX4 = some m.cls := findClass_of_methodNamed B.named
  have hlocks := B.notSynchronized
  have hinX4 : ∀ w ∈ wsX40, w ∈ wsX4_isFull := by decide +kernel
  have hl := lv_entry ([.ref h]) (n := 1) (Nat.le_of_ble_eq_true rfl)
  rw [lg_entry_eq]
  generalize (lg_sl ([.ref h]) ++ List.replicate (1 - (lg_sl ([.ref h])).length) Slot.unset).toArray = ls at hl ⊢
  have hl : lv_has ls 1 [(0, .ref h)] := hl
  refine lv_aload_n hx hb dX4_isFull_0 rfl (lv_at hl 0 rfl) ?_
  refine va_get (D := (dC, dI)) (ci := 5) (v := .int (nI lb)) (C := RX4) (T := TX4) (N := 3) hx hb hts hinX4 hown hK hP 0 rfl rfl 2 (by decide) (hts (.fieldLink RX4 25 "ScanCodes$ScanLog" "size" "I") (by decide +kernel)) (fun _ h9 => h9) rfl dX4_isFull_1 ?_
  refine lv_bipush (v := 40) hx hb dX4_isFull_4 (by decide) ?_
  refine lv_icmp_lt (tgt := 13) hx hb dX4_isFull_6 (by decide) (fun c6 => ?_) (fun c6 => ?_)
  · have hlt := zn_lt (b := 40) c6 (by omega) (by decide)
    refine lv_iconst (v := 0) hx hb dX4_isFull_13 (by decide) ?_
    have hres : (0 : Int32) = if 40 ≤ lb then 1 else 0 := by rw [if_neg (by omega)]
    exact W.zret (v := 0) hx hb hr rfl (fun t ht _ => ⟨congrArg (fun z => Outcome.returned (some (Value.int z))) hres, ht⟩) (fun _ h => nomatch h) dX4_isFull_14
  · have hge := zn_nlt (b := 40) c6 (by omega) (by decide)
    refine lv_iconst (v := 1) hx hb dX4_isFull_9 (by decide) ?_
    refine lv_goto (tgt := 14) hx hb dX4_isFull_10 (by decide) ?_
    have hres : (1 : Int32) = if 40 ≤ lb then 1 else 0 := by rw [if_pos hge]
    exact W.zret (v := 1) hx hb hr rfl (fun t ht _ => ⟨congrArg (fun z => Outcome.returned (some (Value.int z))) hres, ht⟩) (fun _ h => nomatch h) dX4_isFull_14
set_option maxHeartbeats 4000000 in
set_option maxRecDepth 100000 in
theorem c_X4_isAt (l : Launch) (dC : Nat → ClassId) (dI : Nat → Nat → Nat) (cI cZ cJ : ClassId) (h : Nat) (aK : Nat) (aT : Nat) (lb : Nat) (K : Nat → Int64) (T : Nat → Int32) (fh : Nat) (ap : Nat) (ag : Nat) (av : Nat) (n : Nat) (fp : Nat → Int32) (fg : Nat → Int32) (fv : Nat → Int64) (pl : Nat) (hn : n ≤ 6) (hpl : pl < 40) : Met l yX4_isAt wsX4_isAt ({ frames := 2, cells := 0, slots := 0, locals := 44 }) (zc_P [.ref h, .ref fh, .int (nI pl)] (dC, dI) (zc_T cI cZ cJ) [(h, .inr (5, [.ref aK, .ref aT, .int (nI lb)])), (aK, .inl (cJ, 240, .inr (.inl K))), (aT, .inl (cI, 320, .inl T)), (fh, .inr (2, [.ref ap, .ref ag, .ref av, .int (nI n)])), (ap, .inl (cI, 6, .inl fp)), (ag, .inl (cI, 6, .inl fg)), (av, .inl (cJ, 6, .inr (.inl fv)))]) (zc_Q (.int (zb (zisat K fp fg fv n pl)))) 0 0 (fun _ => False) := by
  refine Met.ofW (cc := cX4_isAt) (maxL := 4) (ret := (some .boolean)) (by decide) rfl ?_
  intro p e s m args below meth c s₁ B hml hv
  obtain ⟨rfl, hP, hK⟩ := hv
  have hx := B.exec
  have hb := B.bytes
  have hr := B.returns
  have hts := atoms_spec (ws := wsX4_isAt) B.pre
  have hown : s.vm.findClass RX4 = some m.cls := findClass_of_methodNamed B.named
  have hlocks := B.notSynchronized
  have hinX4 : ∀ w ∈ wsX40, w ∈ wsX4_isAt := by decide +kernel
  have hl := lv_entry ([.ref h, .ref fh, .int (nI pl)]) (n := 4) (Nat.le_of_ble_eq_true rfl)
  rw [lg_entry_eq]
  generalize (lg_sl ([.ref h, .ref fh, .int (nI pl)]) ++ List.replicate (4 - (lg_sl ([.ref h, .ref fh, .int (nI pl)])).length) Slot.unset).toArray = ls at hl ⊢
  have hl : lv_has ls 4 [(0, .ref h), (1, .ref fh), (2, .int (nI pl))] := hl
  refine lv_iconst (v := 0) hx hb dX4_isAt_0 (by decide) ?_
  refine lv_istore_n (lv' := [(3, .int 0), (0, .ref h), (1, .ref fh), (2, .int (nI pl))]) hx hb dX4_isAt_1 rfl hl (by decide) rfl (fun ls hl => ?_)
  refine zc_loop (α := Nat) (fun i ls => lv_has ls 4 [(3, .int (nI i)), (0, .ref h), (1, .ref fh), (2, .int (nI pl))] ∧ (i ≤ 6) ∧ (∀ j, j < i → K (pl * 6 + j) = zkey fp fg fv n j)) (fun i => 6 - i) 0 ⟨lv_sub hl [0, 1, 2, 3] rfl, Nat.zero_le _, fun j h => absurd h (Nat.not_lt_zero _)⟩ ?_
  intro x ls hI ih2
  obtain ⟨i, rfl⟩ : ∃ z, z = x := ⟨_, rfl⟩
  obtain ⟨hl, hi1, hi2⟩ := hI
  have hl : lv_has ls 4 [(3, .int (nI i)), (0, .ref h), (1, .ref fh), (2, .int (nI pl))] := hl
  try dsimp only at ih2
  refine lv_iload_n hx hb dX4_isAt_2 rfl (lv_at hl 0 rfl) ?_
  refine lv_bipush (v := 6) hx hb dX4_isAt_3 (by decide) ?_
  refine lv_icmp_ge (tgt := 36) hx hb dX4_isAt_5 (by decide) (fun c5 => ?_) (fun c5 => ?_)
  · have hge := zn_le (a := 6) c5 (by decide) (by omega)
    refine lv_iconst (v := 1) hx hb dX4_isAt_36 (by decide) ?_
    have hres : (1 : Int32) = zb (zisat K fp fg fv n pl) := by exact (zb_t (fun j hj => hi2 j (by omega))).symm
    exact W.zret (v := 1) hx hb hr rfl (fun t ht _ => ⟨congrArg (fun z => Outcome.returned (some (Value.int z))) hres, ht⟩) (fun _ h => nomatch h) dX4_isAt_37
  · have hlt := zn_nle (a := 6) c5 (by decide) (by omega)
    refine lv_aload_n hx hb dX4_isAt_8 rfl (lv_at hl 1 rfl) ?_
    refine va_get (D := (dC, dI)) (ci := 5) (v := .ref aK) (C := RX4) (T := TX4) (N := 3) hx hb hts hinX4 hown hK hP 0 rfl rfl 0 (by decide) (hts (.fieldLink RX4 9 "ScanCodes$ScanLog" "keys" "[J") (by decide +kernel)) (fun _ h9 => h9) rfl dX4_isAt_9 ?_
    refine lv_iload_n hx hb dX4_isAt_12 rfl (lv_at hl 3 rfl) ?_
    refine lv_bipush (v := 6) hx hb dX4_isAt_13 (by decide) ?_
    refine lv_imul hx hb dX4_isAt_15 ?_
    refine zc_ti (y := nI (pl * 6)) (pk_mul pl 6) ?_
    refine lv_iload_n hx hb dX4_isAt_16 rfl (lv_at hl 0 rfl) ?_
    refine lv_iadd hx hb dX4_isAt_17 ?_
    refine zc_ti (y := nI (pl * 6 + i)) (nI_add _ _) ?_
    refine zc_lald hx hb hK hP 1 2 rfl rfl (pl * 6 + i) rfl (by omega) (by decide) dX4_isAt_18 ?_
    refine lv_aload_n hx hb dX4_isAt_19 rfl (lv_at hl 2 rfl) ?_
    refine lv_iload_n hx hb dX4_isAt_20 rfl (lv_at hl 0 rfl) ?_
    refine zc_callR (va_runS (As := [.ref fh, .int (nI i)]) (rest := [.long (K (pl * 6 + i))]) ⟨hx, hb, hml, hown, hts⟩ (c_X4_keyOf l dC dI cI cZ cJ fh ap ag av n fp fg fv i (by first | assumption | omega) (by first | assumption | omega)) (zc_S 2 hts ggX4_isAt_X4_keyOf rfl rfl rfl (by decide +kernel) (by decide +kernel) ⟨Nat.le_of_ble_eq_true rfl, Nat.le_of_ble_eq_true rfl⟩) ⟨zc_blind, zc_pay (hP.sub (ws' := [(fh, .inr (2, [.ref ap, .ref ag, .ref av, .int (nI n)])), (ap, .inl (cI, 6, .inl fp)), (ag, .inl (cI, 6, .inl fg)), (av, .inl (cJ, 6, .inr (.inl fv)))]) [3, 4, 5, 6] rfl) hK⟩ rfl rfl hl.1 rfl (lv_room (Nat.le_of_ble_eq_true rfl)) dX4_isAt_21 ⟨Nat.le_of_ble_eq_true rfl, Nat.le_of_ble_eq_true rfl⟩) ?_
    refine W.lcmp hx hb dX4_isAt_24 ?_
    refine lv_if_eq (tgt := 30) hx hb dX4_isAt_25 (by decide) (fun c25 => ?_) (fun c25 => ?_)
    · refine lv_iinc (v := nI (i + 1)) (lv' := [(3, .int (nI (i + 1))), (0, .ref h), (1, .ref fh), (2, .int (nI pl))]) hx hb dX4_isAt_30 hl (k := 0) rfl (nI_1 i) (by decide) rfl (fun ls hl => ?_)
      refine lv_goto (tgt := 2) hx hb dX4_isAt_33 (by decide) ?_
      exact ih2 (i + 1) _ (by omega) ⟨lv_sub hl [0, 1, 2, 3] rfl, hlt, fun j h => by rcases Nat.lt_or_ge j i with q | q; exact hi2 j q; rw [show j = i by omega]; exact zl_cmp.mp c25⟩
    · refine lv_iconst (v := 0) hx hb dX4_isAt_28 (by decide) ?_
      have hres : (0 : Int32) = zb (zisat K fp fg fv n pl) := by exact (zb_f (fun q => c25 (zl_cmp.mpr (q i hlt)))).symm
      exact W.zret (v := 0) hx hb hr rfl (fun t ht _ => ⟨congrArg (fun z => Outcome.returned (some (Value.int z))) hres, ht⟩) (fun _ h => nomatch h) dX4_isAt_29
set_option maxHeartbeats 4000000 in
set_option maxRecDepth 100000 in
theorem c_X4_placeOf (l : Launch) (dC : Nat → ClassId) (dI : Nat → Nat → Nat) (cI cZ cJ : ClassId) (h : Nat) (aK : Nat) (aT : Nat) (lb : Nat) (K : Nat → Int64) (T : Nat → Int32) (fh : Nat) (ap : Nat) (ag : Nat) (av : Nat) (n : Nat) (fp : Nat → Int32) (fg : Nat → Int32) (fv : Nat → Int64) (hn : n ≤ 6) (hlb : lb ≤ 40) : Met l yX4_placeOf wsX4_placeOf ({ frames := 3, cells := 0, slots := 0, locals := 67 }) (zc_P [.ref h, .ref fh] (dC, dI) (zc_T cI cZ cJ) [(h, .inr (5, [.ref aK, .ref aT, .int (nI lb)])), (aK, .inl (cJ, 240, .inr (.inl K))), (aT, .inl (cI, 320, .inl T)), (fh, .inr (2, [.ref ap, .ref ag, .ref av, .int (nI n)])), (ap, .inl (cI, 6, .inl fp)), (ag, .inl (cI, 6, .inl fg)), (av, .inl (cJ, 6, .inr (.inl fv)))]) (zc_Q (.int (zi (zplace K fp fg fv n lb = lb) (-1) (nI (zplace K fp fg fv n lb))))) 0 0 (fun _ => False) := by
  refine Met.ofW (cc := cX4_placeOf) (maxL := 3) (ret := (some .int)) (by decide) rfl ?_
  intro p e s m args below meth c s₁ B hml hv
  obtain ⟨rfl, hP, hK⟩ := hv
  have hx := B.exec
  have hb := B.bytes
  have hr := B.returns
  have hts := atoms_spec (ws := wsX4_placeOf) B.pre
  have hown : s.vm.findClass RX4 = some m.cls := findClass_of_methodNamed B.named
  have hlocks := B.notSynchronized
  have hinX4 : ∀ w ∈ wsX40, w ∈ wsX4_placeOf := by decide +kernel
  have hl := lv_entry ([.ref h, .ref fh]) (n := 3) (Nat.le_of_ble_eq_true rfl)
  rw [lg_entry_eq]
  generalize (lg_sl ([.ref h, .ref fh]) ++ List.replicate (3 - (lg_sl ([.ref h, .ref fh])).length) Slot.unset).toArray = ls at hl ⊢
  have hl : lv_has ls 3 [(0, .ref h), (1, .ref fh)] := hl
  refine lv_iconst (v := 0) hx hb dX4_placeOf_0 (by decide) ?_
  refine lv_istore_n (lv' := [(2, .int 0), (0, .ref h), (1, .ref fh)]) hx hb dX4_placeOf_1 rfl hl (by decide) rfl (fun ls hl => ?_)
  refine zc_loop (α := Nat) (fun j ls => lv_has ls 3 [(2, .int (nI j)), (0, .ref h), (1, .ref fh)] ∧ (j ≤ lb) ∧ (zfirst (zisat K fp fg fv n) (lb - j) j = zplace K fp fg fv n lb)) (fun j => lb - j) 0 ⟨lv_sub hl [0, 1, 2] rfl, Nat.zero_le _, rfl⟩ ?_
  intro x ls hI ih2
  obtain ⟨j, rfl⟩ : ∃ z, z = x := ⟨_, rfl⟩
  obtain ⟨hl, hi1, hi2⟩ := hI
  have hl : lv_has ls 3 [(2, .int (nI j)), (0, .ref h), (1, .ref fh)] := hl
  try dsimp only at ih2
  refine lv_iload_n hx hb dX4_placeOf_2 rfl (lv_at hl 0 rfl) ?_
  refine lv_aload_n hx hb dX4_placeOf_3 rfl (lv_at hl 1 rfl) ?_
  refine va_get (D := (dC, dI)) (ci := 5) (v := .int (nI lb)) (C := RX4) (T := TX4) (N := 3) hx hb hts hinX4 hown hK hP 0 rfl rfl 2 (by decide) (hts (.fieldLink RX4 25 "ScanCodes$ScanLog" "size" "I") (by decide +kernel)) (fun _ h9 => h9) rfl dX4_placeOf_4 ?_
  refine lv_icmp_ge (tgt := 27) hx hb dX4_placeOf_7 (by decide) (fun c7 => ?_) (fun c7 => ?_)
  · have hge := zn_le c7 (by omega) (by omega)
    have hje : j = lb := by omega
    rw [hje, Nat.sub_self, zfirst] at hi2
    refine lv_iconst (v := (-1)) hx hb dX4_placeOf_27 (by decide) ?_
    have hres : ((-1) : Int32) = zi (zplace K fp fg fv n lb = lb) (-1) (nI (zplace K fp fg fv n lb)) := by rw [← hi2, zi_t rfl]
    exact W.iret (v := (-1)) hx hb hr (fun t ht _ => ⟨congrArg (fun z => Outcome.returned (some (Value.int z))) hres, ht⟩) (fun _ h => nomatch h) dX4_placeOf_28
  · have hlt := zn_nle c7 (by omega) (by omega)
    obtain ⟨k2, hk2⟩ : ∃ k2, lb - j = k2 + 1 := ⟨lb - j - 1, by omega⟩
    rw [hk2, zfirst] at hi2
    refine lv_aload_n hx hb dX4_placeOf_10 rfl (lv_at hl 1 rfl) ?_
    refine lv_aload_n hx hb dX4_placeOf_11 rfl (lv_at hl 2 rfl) ?_
    refine lv_iload_n hx hb dX4_placeOf_12 rfl (lv_at hl 0 rfl) ?_
    refine zc_callR (va_runV (As := [.ref fh, .int (nI j)]) (rest := []) ⟨hx, hb, hml, hown, hts⟩ (c_X4_isAt l dC dI cI cZ cJ h aK aT lb K T fh ap ag av n fp fg fv j (by first | assumption | omega) (by first | assumption | omega)) (zc_V 2 hts ggX4_placeOf_X4_isAt rfl rfl rfl (by decide +kernel) (by decide +kernel) ⟨Nat.le_of_ble_eq_true rfl, Nat.le_of_ble_eq_true rfl⟩) ⟨zc_blind, va_recv hK hP (ci := 5) (q0 := 0) rfl rfl, zc_pay (hP.sub (ws' := [(h, .inr (5, [.ref aK, .ref aT, .int (nI lb)])), (aK, .inl (cJ, 240, .inr (.inl K))), (aT, .inl (cI, 320, .inl T)), (fh, .inr (2, [.ref ap, .ref ag, .ref av, .int (nI n)])), (ap, .inl (cI, 6, .inl fp)), (ag, .inl (cI, 6, .inl fg)), (av, .inl (cJ, 6, .inr (.inl fv)))]) [0, 1, 2, 3, 4, 5, 6] rfl) hK⟩ rfl rfl hl.1 rfl (lv_room (Nat.le_of_ble_eq_true rfl)) dX4_placeOf_13 ⟨Nat.le_of_ble_eq_true rfl, Nat.le_of_ble_eq_true rfl⟩) ?_
    refine lv_if_eq (tgt := 21) hx hb dX4_placeOf_16 (by decide) (fun c16 => ?_) (fun c16 => ?_)
    · rw [zi_f (zb_0 c16)] at hi2
      refine lv_iinc (v := nI (j + 1)) (lv' := [(2, .int (nI (j + 1))), (0, .ref h), (1, .ref fh)]) hx hb dX4_placeOf_21 hl (k := 0) rfl (nI_1 j) (by decide) rfl (fun ls hl => ?_)
      refine lv_goto (tgt := 2) hx hb dX4_placeOf_24 (by decide) ?_
      exact ih2 (j + 1) _ (by omega) ⟨lv_sub hl [0, 1, 2] rfl, hlt, by rw [← hi2, show lb - (j + 1) = k2 by omega]⟩
    · rw [zi_t (zb_1 c16)] at hi2
      refine lv_iload_n hx hb dX4_placeOf_19 rfl (lv_at hl 0 rfl) ?_
      have hres : (nI j) = zi (zplace K fp fg fv n lb = lb) (-1) (nI (zplace K fp fg fv n lb)) := by rw [← hi2, zi_f (by omega)]
      exact W.iret (v := nI j) hx hb hr (fun t ht _ => ⟨congrArg (fun z => Outcome.returned (some (Value.int z))) hres, ht⟩) (fun _ h => nomatch h) dX4_placeOf_20
set_option maxHeartbeats 4000000 in
set_option maxRecDepth 100000 in
theorem c_X4_add (l : Launch) (dC : Nat → ClassId) (dI : Nat → Nat → Nat) (cI cZ cJ : ClassId) (h : Nat) (aK : Nat) (aT : Nat) (lb : Nat) (K : Nat → Int64) (T : Nat → Int32) (fh : Nat) (ap : Nat) (ag : Nat) (av : Nat) (n : Nat) (fp : Nat → Int32) (fg : Nat → Int32) (fv : Nat → Int64) (hn : n ≤ 6) (hlb : lb < 40) (sz : Nat) : Met l yX4_add wsX4_add ({ frames := 2, cells := 0, slots := 0, locals := 44 }) (zc_PW [.ref h, .ref fh] (dC, dI) (zc_T cI cZ cJ) [(h, .inr (5, [.ref aK, .ref aT, .int (nI lb)])), (aK, .inl (cJ, 240, .inr (.inl K))), (aT, .inl (cI, 320, .inl T)), (fh, .inr (2, [.ref ap, .ref ag, .ref av, .int (nI n)])), (ap, .inl (cI, 6, .inl fp)), (ag, .inl (cI, 6, .inl fg)), (av, .inl (cJ, 6, .inr (.inl fv)))] sz) (va_Qi (fun (r : Int32) (_ : Unit) => r = nI lb) (fun _ t => zc_B (dC, dI) (zc_T cI cZ cJ) (va_A [(h, .inr (5, [.ref aK, .ref aT, .int (nI lb)])), (aK, .inl (cJ, 240, .inr (.inl K))), (aT, .inl (cI, 320, .inl T)), (fh, .inr (2, [.ref ap, .ref ag, .ref av, .int (nI n)])), (ap, .inl (cI, 6, .inl fp)), (ag, .inl (cI, 6, .inl fg)), (av, .inl (cJ, 6, .inr (.inl fv)))] sz) [(h, .inr (5, [.ref aK, .ref aT, .int (nI (lb + 1))])), (aK, .inl (cJ, 240, .inr (.inl (zkadd K fp fg fv n lb 6)))), (aT, .inl (cI, 320, .inl T)), (fh, .inr (2, [.ref ap, .ref ag, .ref av, .int (nI n)])), (ap, .inl (cI, 6, .inl fp)), (ag, .inl (cI, 6, .inl fg)), (av, .inl (cJ, 6, .inr (.inl fv)))] t) (va_A [(h, .inr (5, [.ref aK, .ref aT, .int (nI lb)])), (aK, .inl (cJ, 240, .inr (.inl K))), (aT, .inl (cI, 320, .inl T)), (fh, .inr (2, [.ref ap, .ref ag, .ref av, .int (nI n)])), (ap, .inl (cI, 6, .inl fp)), (ag, .inl (cI, 6, .inl fg)), (av, .inl (cJ, 6, .inr (.inl fv)))] sz)) 0 0 (va_A [(h, .inr (5, [.ref aK, .ref aT, .int (nI lb)])), (aK, .inl (cJ, 240, .inr (.inl K))), (aT, .inl (cI, 320, .inl T)), (fh, .inr (2, [.ref ap, .ref ag, .ref av, .int (nI n)])), (ap, .inl (cI, 6, .inl fp)), (ag, .inl (cI, 6, .inl fg)), (av, .inl (cJ, 6, .inr (.inl fv)))] sz) := by
  refine Met.ofW (cc := cX4_add) (maxL := 3) (ret := (some .int)) (by decide) rfl ?_
  intro p e s m args below meth c s₁ B hml hv
  obtain ⟨rfl, hsz, hP, hK, hD0⟩ := hv
  have hx := B.exec
  have hb := B.bytes
  have hr := B.returns
  have hts := atoms_spec (ws := wsX4_add) B.pre
  have hown : s.vm.findClass RX4 = some m.cls := findClass_of_methodNamed B.named
  have hlocks := B.notSynchronized
  subst hsz
  have hD := hD0.self (sz := s.heap.size)
  generalize hAe : va_A [(h, .inr (5, [.ref aK, .ref aT, .int (nI lb)])), (aK, .inl (cJ, 240, .inr (.inl K))), (aT, .inl (cI, 320, .inl T)), (fh, .inr (2, [.ref ap, .ref ag, .ref av, .int (nI n)])), (ap, .inl (cI, 6, .inl fp)), (ag, .inl (cI, 6, .inl fg)), (av, .inl (cJ, 6, .inr (.inl fv)))] s.heap.size = A at hD ⊢
  have hA : ∀ q : Nat, s.heap.size ≤ q → A q := fun q h => by rw [← hAe]; exact Or.inr h
  have hS : va_S A s.heap s.heap [] := va_S.rf
  have hinX4 : ∀ w ∈ wsX40, w ∈ wsX4_add := by decide +kernel
  have hl := lv_entry ([.ref h, .ref fh]) (n := 3) (Nat.le_of_ble_eq_true rfl)
  rw [lg_entry_eq]
  generalize (lg_sl ([.ref h, .ref fh]) ++ List.replicate (3 - (lg_sl ([.ref h, .ref fh])).length) Slot.unset).toArray = ls at hl ⊢
  have hl : lv_has ls 3 [(0, .ref h), (1, .ref fh)] := hl
  refine lv_aload_n hx hb dX4_add_0 rfl (lv_at hl 0 rfl) ?_
  refine zc_callR (va_runV (As := []) (rest := []) ⟨hx, hb, hml, hown, hts⟩ (c_X4_isFull l dC dI cI cZ cJ h aK aT lb K T (by first | assumption | omega)) (zc_V 0 hts ggX4_add_X4_isFull rfl rfl rfl (by decide +kernel) (by decide +kernel) ⟨Nat.le_of_ble_eq_true rfl, Nat.le_of_ble_eq_true rfl⟩) ⟨zc_blind, va_recv hK hP (ci := 5) (q0 := 0) rfl rfl, zc_pay (hP.sub (ws' := [(h, .inr (5, [.ref aK, .ref aT, .int (nI lb)])), (aK, .inl (cJ, 240, .inr (.inl K))), (aT, .inl (cI, 320, .inl T))]) [0, 1, 2] rfl) hK⟩ rfl rfl hl.1 rfl (lv_room (Nat.le_of_ble_eq_true rfl)) dX4_add_1 ⟨Nat.le_of_ble_eq_true rfl, Nat.le_of_ble_eq_true rfl⟩) ?_
  refine lv_if_eq (tgt := 9) hx hb dX4_add_4 (by decide) (fun c4 => ?_) (fun c4 => absurd (if_neg (by omega)) c4)
  refine lv_iconst (v := 0) hx hb dX4_add_9 (by decide) ?_
  refine lv_istore_n (lv' := [(2, .int 0), (0, .ref h), (1, .ref fh)]) hx hb dX4_add_10 rfl hl (by decide) rfl (fun ls hl => ?_)
  rw [← zkadd_0 K fp fg fv n lb] at hP hD
  refine zc_loopH (α := Nat) (fun i H locs ls => lv_has ls 3 [(2, .int (nI i)), (0, .ref h), (1, .ref fh)] ∧ va_P (dC, dI) vwCl [(h, .inr (5, [.ref aK, .ref aT, .int (nI lb)])), (aK, .inl (cJ, 240, .inr (.inl (zkadd K fp fg fv n lb i)))), (aT, .inl (cI, 320, .inl T)), (fh, .inr (2, [.ref ap, .ref ag, .ref av, .int (nI n)])), (ap, .inl (cI, 6, .inl fp)), (ag, .inl (cI, 6, .inl fg)), (av, .inl (cJ, 6, .inr (.inl fv)))] H ∧ va_D A [(h, .inr (5, [.ref aK, .ref aT, .int (nI lb)])), (aK, .inl (cJ, 240, .inr (.inl (zkadd K fp fg fv n lb i)))), (aT, .inl (cI, 320, .inl T)), (fh, .inr (2, [.ref ap, .ref ag, .ref av, .int (nI n)])), (ap, .inl (cI, 6, .inl fp)), (ag, .inl (cI, 6, .inl fg)), (av, .inl (cJ, 6, .inr (.inl fv)))] ∧ va_S A s.heap H locs ∧ (i ≤ 6)) (fun i => 6 - i) 0 ⟨lv_sub hl [0, 1, 2] rfl, by exact hP, by exact hD, hS, Nat.zero_le _⟩ ?_
  intro x H locs ls hI ih11
  obtain ⟨i, rfl⟩ : ∃ z, z = x := ⟨_, rfl⟩
  obtain ⟨hl, hP, hD, hS, hi1⟩ := hI
  have hl : lv_has ls 3 [(2, .int (nI i)), (0, .ref h), (1, .ref fh)] := hl
  have hP : va_P (dC, dI) vwCl [(h, .inr (5, [.ref aK, .ref aT, .int (nI lb)])), (aK, .inl (cJ, 240, .inr (.inl (zkadd K fp fg fv n lb i)))), (aT, .inl (cI, 320, .inl T)), (fh, .inr (2, [.ref ap, .ref ag, .ref av, .int (nI n)])), (ap, .inl (cI, 6, .inl fp)), (ag, .inl (cI, 6, .inl fg)), (av, .inl (cJ, 6, .inr (.inl fv)))] H := hP
  have hD : va_D A [(h, .inr (5, [.ref aK, .ref aT, .int (nI lb)])), (aK, .inl (cJ, 240, .inr (.inl (zkadd K fp fg fv n lb i)))), (aT, .inl (cI, 320, .inl T)), (fh, .inr (2, [.ref ap, .ref ag, .ref av, .int (nI n)])), (ap, .inl (cI, 6, .inl fp)), (ag, .inl (cI, 6, .inl fg)), (av, .inl (cJ, 6, .inr (.inl fv)))] := hD
  try dsimp only at ih11
  refine lv_iload_n hx hb dX4_add_11 rfl (lv_at hl 0 rfl) ?_
  refine lv_bipush (v := 6) hx hb dX4_add_12 (by decide) ?_
  refine lv_icmp_ge (tgt := 42) hx hb dX4_add_14 (by decide) (fun c14 => ?_) (fun c14 => ?_)
  · have hge := zn_le (a := 6) c14 (by decide) (by omega)
    have hje : i = 6 := by omega
    rw [hje] at hP hD
    refine lv_aload_n hx hb dX4_add_42 rfl (lv_at hl 1 rfl) ?_
    refine lv_dup hx hb dX4_add_43 rfl ?_
    refine va_get (D := (dC, dI)) (ci := 5) (v := .int (nI lb)) (C := RX4) (T := TX4) (N := 3) hx hb hts hinX4 hown hK hP 0 rfl rfl 2 (by decide) (hts (.fieldLink RX4 25 "ScanCodes$ScanLog" "size" "I") (by decide +kernel)) (fun _ h9 => h9) rfl dX4_add_44 ?_
    refine lv_iconst (v := 1) hx hb dX4_add_47 (by decide) ?_
    refine lv_iadd hx hb dX4_add_48 ?_
    refine zc_ti (y := nI (lb + 1)) (nI_1 lb) ?_
    refine va_put (D := (dC, dI)) (ci := 5) (v := .int (nI (lb + 1))) (ty := .int) (C := RX4) (T := TX4) (N := 3) hx hb hts hinX4 tyX4 tyX4_ok nmX4 hown hK hP hD hS 0 rfl rfl 2 (by decide) (hts (.fieldLink RX4 25 "ScanCodes$ScanLog" "size" "I") (by decide +kernel)) (fun _ h9 => h9) rfl (by decide +kernel) rfl rfl (Nat.le_of_ble_eq_true rfl) dX4_add_49 (fun H locs hP hD hS => ?_)
    have hP : va_P (dC, dI) vwCl [(h, .inr (5, [.ref aK, .ref aT, .int (nI (lb + 1))])), (aK, .inl (cJ, 240, .inr (.inl (zkadd K fp fg fv n lb 6)))), (aT, .inl (cI, 320, .inl T)), (fh, .inr (2, [.ref ap, .ref ag, .ref av, .int (nI n)])), (ap, .inl (cI, 6, .inl fp)), (ag, .inl (cI, 6, .inl fg)), (av, .inl (cJ, 6, .inr (.inl fv)))] H := hP
    have hD : va_D A [(h, .inr (5, [.ref aK, .ref aT, .int (nI (lb + 1))])), (aK, .inl (cJ, 240, .inr (.inl (zkadd K fp fg fv n lb 6)))), (aT, .inl (cI, 320, .inl T)), (fh, .inr (2, [.ref ap, .ref ag, .ref av, .int (nI n)])), (ap, .inl (cI, 6, .inl fp)), (ag, .inl (cI, 6, .inl fg)), (av, .inl (cJ, 6, .inr (.inl fv)))] := hD
    refine lv_aload_n hx hb dX4_add_52 rfl (lv_at hl 1 rfl) ?_
    refine va_get (D := (dC, dI)) (ci := 5) (v := .int (nI (lb + 1))) (C := RX4) (T := TX4) (N := 3) hx hb hts hinX4 hown hK hP 0 rfl rfl 2 (by decide) (hts (.fieldLink RX4 25 "ScanCodes$ScanLog" "size" "I") (by decide +kernel)) (fun _ h9 => h9) rfl dX4_add_53 ?_
    refine lv_iconst (v := 1) hx hb dX4_add_56 (by decide) ?_
    refine lv_isub hx hb dX4_add_57 ?_
    refine zc_ti (y := nI lb) (nI_pred lb) ?_
    have hP9 : va_P (dC, dI) vwCl [(h, .inr (5, [.ref aK, .ref aT, .int (nI (lb + 1))])), (aK, .inl (cJ, 240, .inr (.inl (zkadd K fp fg fv n lb 6)))), (aT, .inl (cI, 320, .inl T)), (fh, .inr (2, [.ref ap, .ref ag, .ref av, .int (nI n)])), (ap, .inl (cI, 6, .inl fp)), (ag, .inl (cI, 6, .inl fg)), (av, .inl (cJ, 6, .inr (.inl fv)))] H := hP
    have hD9 : va_D A [(h, .inr (5, [.ref aK, .ref aT, .int (nI (lb + 1))])), (aK, .inl (cJ, 240, .inr (.inl (zkadd K fp fg fv n lb 6)))), (aT, .inl (cI, 320, .inl T)), (fh, .inr (2, [.ref ap, .ref ag, .ref av, .int (nI n)])), (ap, .inl (cI, 6, .inl fp)), (ag, .inl (cI, 6, .inl fg)), (av, .inl (cJ, 6, .inr (.inl fv)))] := hD
    have hres : (nI lb) = nI lb := by rfl
    exact W.iret (v := nI lb) hx hb hr (fun t ht hW => ⟨⟨_, (), rfl, hres, by rw [ht]; exact hP9, va_K.moved hW.alike hK, hD9⟩, hS.F ht⟩) hS.2.2 dX4_add_58
  · have hlt := zn_nle (a := 6) c14 (by decide) (by omega)
    refine lv_aload_n hx hb dX4_add_17 rfl (lv_at hl 1 rfl) ?_
    refine va_get (D := (dC, dI)) (ci := 5) (v := .ref aK) (C := RX4) (T := TX4) (N := 3) hx hb hts hinX4 hown hK hP 0 rfl rfl 0 (by decide) (hts (.fieldLink RX4 9 "ScanCodes$ScanLog" "keys" "[J") (by decide +kernel)) (fun _ h9 => h9) rfl dX4_add_18 ?_
    refine lv_aload_n hx hb dX4_add_21 rfl (lv_at hl 1 rfl) ?_
    refine va_get (D := (dC, dI)) (ci := 5) (v := .int (nI lb)) (C := RX4) (T := TX4) (N := 3) hx hb hts hinX4 hown hK hP 0 rfl rfl 2 (by decide) (hts (.fieldLink RX4 25 "ScanCodes$ScanLog" "size" "I") (by decide +kernel)) (fun _ h9 => h9) rfl dX4_add_22 ?_
    refine lv_bipush (v := 6) hx hb dX4_add_25 (by decide) ?_
    refine lv_imul hx hb dX4_add_27 ?_
    refine zc_ti (y := nI (lb * 6)) (pk_mul lb 6) ?_
    refine lv_iload_n hx hb dX4_add_28 rfl (lv_at hl 0 rfl) ?_
    refine lv_iadd hx hb dX4_add_29 ?_
    refine zc_ti (y := nI (lb * 6 + i)) (nI_add _ _) ?_
    refine lv_aload_n hx hb dX4_add_30 rfl (lv_at hl 2 rfl) ?_
    refine lv_iload_n hx hb dX4_add_31 rfl (lv_at hl 0 rfl) ?_
    refine zc_callR (va_runS (As := [.ref fh, .int (nI i)]) (rest := [.int (nI (lb * 6 + i)), .ref aK]) ⟨hx, hb, hml, hown, hts⟩ (c_X4_keyOf l dC dI cI cZ cJ fh ap ag av n fp fg fv i (by first | assumption | omega) (by first | assumption | omega)) (zc_S 2 hts ggX4_add_X4_keyOf rfl rfl rfl (by decide +kernel) (by decide +kernel) ⟨Nat.le_of_ble_eq_true rfl, Nat.le_of_ble_eq_true rfl⟩) ⟨zc_blind, zc_pay (hP.sub (ws' := [(fh, .inr (2, [.ref ap, .ref ag, .ref av, .int (nI n)])), (ap, .inl (cI, 6, .inl fp)), (ag, .inl (cI, 6, .inl fg)), (av, .inl (cJ, 6, .inr (.inl fv)))]) [3, 4, 5, 6] rfl) hK⟩ rfl rfl hl.1 rfl (lv_room (Nat.le_of_ble_eq_true rfl)) dX4_add_32 ⟨Nat.le_of_ble_eq_true rfl, Nat.le_of_ble_eq_true rfl⟩) ?_
    refine zc_last hx hb hK hP hD hS 1 2 rfl rfl (lb * 6 + i) rfl (by omega) (by decide) dX4_add_35 (fun H locs hP hD hS => ?_)
    have hP : va_P (dC, dI) vwCl [(h, .inr (5, [.ref aK, .ref aT, .int (nI lb)])), (aK, .inl (cJ, 240, .inr (.inl (vp_updL (zkadd K fp fg fv n lb i) (lb * 6 + i) (zkey fp fg fv n i))))), (aT, .inl (cI, 320, .inl T)), (fh, .inr (2, [.ref ap, .ref ag, .ref av, .int (nI n)])), (ap, .inl (cI, 6, .inl fp)), (ag, .inl (cI, 6, .inl fg)), (av, .inl (cJ, 6, .inr (.inl fv)))] H := hP
    have hD : va_D A [(h, .inr (5, [.ref aK, .ref aT, .int (nI lb)])), (aK, .inl (cJ, 240, .inr (.inl (vp_updL (zkadd K fp fg fv n lb i) (lb * 6 + i) (zkey fp fg fv n i))))), (aT, .inl (cI, 320, .inl T)), (fh, .inr (2, [.ref ap, .ref ag, .ref av, .int (nI n)])), (ap, .inl (cI, 6, .inl fp)), (ag, .inl (cI, 6, .inl fg)), (av, .inl (cJ, 6, .inr (.inl fv)))] := hD
    refine lv_iinc (v := nI (i + 1)) (lv' := [(2, .int (nI (i + 1))), (0, .ref h), (1, .ref fh)]) hx hb dX4_add_36 hl (k := 0) rfl (nI_1 i) (by decide) rfl (fun ls hl => ?_)
    refine lv_goto (tgt := 11) hx hb dX4_add_39 (by decide) ?_
    rw [zkadd_s] at hP hD
    exact ih11 (i + 1) _ _ _ (by omega) ⟨lv_sub hl [0, 1, 2] rfl, by first | exact hP | exact hP.sub [0, 1, 2, 3, 4, 5, 6] rfl, by first | exact hD, hS, hlt⟩
set_option maxHeartbeats 4000000 in
set_option maxRecDepth 100000 in
theorem c_X4_accepts (l : Launch) (dC : Nat → ClassId) (dI : Nat → Nat → Nat) (cI cZ cJ : ClassId) (h : Nat) (aK : Nat) (aT : Nat) (lb : Nat) (K : Nat → Int64) (T : Nat → Int32) (pl : Nat) (sta : Nat) (sec : Int32) (hlb : lb ≤ 40) (hpl : pl < lb) (hst : sta < 8) (sz : Nat) : Met l yX4_accepts wsX4_accepts ({ frames := 1, cells := 0, slots := 0, locals := 20 }) (va_Pc [.ref h, .int (nI pl), .int (nI sta), .int sec] (fun U => U.heap.size = sz ∧ va_P (dC, dI) vwCl [(h, .inr (5, [.ref aK, .ref aT, .int (nI lb)])), (aK, .inl (cJ, 240, .inr (.inl K))), (aT, .inl (cI, 320, .inl T))] U.heap ∧ va_K (dC, dI) vwCl (zc_T cI cZ cJ) U ∧ va_D (fun _ => True) [(h, .inr (5, [.ref aK, .ref aT, .int (nI lb)])), (aK, .inl (cJ, 240, .inr (.inl K))), (aT, .inl (cI, 320, .inl T))] ∧ va_Nw (.methodLinkNest RX4 41 yX6_isStation "ScanCodes") U)) (va_Qi (fun (r : Int32) (_ : Unit) => r = zb (¬ zdbl (T (pl * 8 + sta)) sec)) (fun _ t => zc_B (dC, dI) (zc_T cI cZ cJ) (va_A [(h, .inr (5, [.ref aK, .ref aT, .int (nI lb)])), (aK, .inl (cJ, 240, .inr (.inl K))), (aT, .inl (cI, 320, .inl T))] sz) [(h, .inr (5, [.ref aK, .ref aT, .int (nI lb)])), (aK, .inl (cJ, 240, .inr (.inl K))), (aT, .inl (cI, 320, .inl (zi (zdbl (T (pl * 8 + sta)) sec) T (upd T (pl * 8 + sta) sec))))] t) (va_A [(h, .inr (5, [.ref aK, .ref aT, .int (nI lb)])), (aK, .inl (cJ, 240, .inr (.inl K))), (aT, .inl (cI, 320, .inl T))] sz)) 0 0 (va_A [(h, .inr (5, [.ref aK, .ref aT, .int (nI lb)])), (aK, .inl (cJ, 240, .inr (.inl K))), (aT, .inl (cI, 320, .inl T))] sz) := by
  refine Met.ofW (cc := cX4_accepts) (maxL := 6) (ret := (some .boolean)) (by decide) rfl ?_
  intro p e s m args below meth c s₁ B hml hv
  obtain ⟨rfl, hsz, hP, hK, hD0, hn0⟩ := hv
  have hx := B.exec
  have hb := B.bytes
  have hr := B.returns
  have hts := atoms_spec (ws := wsX4_accepts) B.pre
  have hown : s.vm.findClass RX4 = some m.cls := findClass_of_methodNamed B.named
  have hlocks := B.notSynchronized
  subst hsz
  have hD := hD0.self (sz := s.heap.size)
  generalize hAe : va_A [(h, .inr (5, [.ref aK, .ref aT, .int (nI lb)])), (aK, .inl (cJ, 240, .inr (.inl K))), (aT, .inl (cI, 320, .inl T))] s.heap.size = A at hD ⊢
  have hA : ∀ q : Nat, s.heap.size ≤ q → A q := fun q h => by rw [← hAe]; exact Or.inr h
  have hS : va_S A s.heap s.heap [] := va_S.rf
  have hinX4 : ∀ w ∈ wsX40, w ∈ wsX4_accepts := by decide +kernel
  have hl := lv_entry ([.ref h, .int (nI pl), .int (nI sta), .int sec]) (n := 6) (Nat.le_of_ble_eq_true rfl)
  rw [lg_entry_eq]
  generalize (lg_sl ([.ref h, .int (nI pl), .int (nI sta), .int sec]) ++ List.replicate (6 - (lg_sl ([.ref h, .int (nI pl), .int (nI sta), .int sec])).length) Slot.unset).toArray = ls at hl ⊢
  have hl : lv_has ls 6 [(0, .ref h), (1, .int (nI pl)), (2, .int (nI sta)), (3, .int sec)] := hl
  refine lv_iload_n hx hb dX4_accepts_0 rfl (lv_at hl 1 rfl) ?_
  refine lv_if_lt (tgt := 19) hx hb dX4_accepts_1 (by decide) (fun c1 => absurd c1 (nI_pos (by omega))) (fun c1 => ?_)
  refine lv_iload_n hx hb dX4_accepts_4 rfl (lv_at hl 1 rfl) ?_
  refine lv_aload_n hx hb dX4_accepts_5 rfl (lv_at hl 0 rfl) ?_
  refine va_get (D := (dC, dI)) (ci := 5) (v := .int (nI lb)) (C := RX4) (T := TX4) (N := 3) hx hb hts hinX4 hown hK hP 0 rfl rfl 2 (by decide) (hts (.fieldLink RX4 25 "ScanCodes$ScanLog" "size" "I") (by decide +kernel)) (fun _ h9 => h9) rfl dX4_accepts_6 ?_
  refine lv_icmp_ge (tgt := 19) hx hb dX4_accepts_9 (by decide) (fun c9 => absurd c9 (nI_ge hpl (by omega))) (fun c9 => ?_)
  refine lv_iload_n hx hb dX4_accepts_12 rfl (lv_at hl 2 rfl) ?_
  refine zc_callR (va_runSN (As := [.int (nI sta)]) (rest := []) ⟨hx, hb, hml, hown, hts⟩ (c_X6_isStation l dC dI cI cZ cJ (nI sta)) ⟨va_cnB 1 hts ggX4_accepts_X6_isStation rfl rfl rfl hn0 (hts (.initialized RX6) (by decide +kernel)) (by decide +kernel) ⟨Nat.le_of_ble_eq_true rfl, Nat.le_of_ble_eq_true rfl⟩, hts (.static yX6_isStation) (by decide +kernel), trivial⟩ ⟨zc_blind, zc_pay (hP.sub (ws' := []) [] rfl) hK⟩ rfl rfl hl.1 rfl (lv_room (Nat.le_of_ble_eq_true rfl)) dX4_accepts_13 ⟨Nat.le_of_ble_eq_true rfl, Nat.le_of_ble_eq_true rfl⟩) ?_
  refine lv_if_ne (tgt := 21) hx hb dX4_accepts_16 (by decide) (fun c16 => ?_) (fun c16 => absurd c16 (fun q => zb_0 q ⟨nI_pos (by omega), nI_ge (b := 8) hst (by decide)⟩))
  refine lv_iload_n hx hb dX4_accepts_21 rfl (lv_at hl 1 rfl) ?_
  refine lv_bipush (v := 8) hx hb dX4_accepts_22 (by decide) ?_
  refine lv_imul hx hb dX4_accepts_24 ?_
  refine zc_ti (y := nI (pl * 8)) (pk_mul pl 8) ?_
  refine lv_iload_n hx hb dX4_accepts_25 rfl (lv_at hl 2 rfl) ?_
  refine lv_iadd hx hb dX4_accepts_26 ?_
  refine zc_ti (y := nI (pl * 8 + sta)) (nI_add _ _) ?_
  refine lv_istore (lv' := [(4, .int (nI (pl * 8 + sta))), (0, .ref h), (1, .int (nI pl)), (2, .int (nI sta)), (3, .int sec)]) hx hb dX4_accepts_27 hl (by decide) rfl (fun ls hl => ?_)
  refine lv_aload_n hx hb dX4_accepts_29 rfl (lv_at hl 1 rfl) ?_
  refine va_get (D := (dC, dI)) (ci := 5) (v := .ref aT) (C := RX4) (T := TX4) (N := 3) hx hb hts hinX4 hown hK hP 0 rfl rfl 1 (by decide) (hts (.fieldLink RX4 15 "ScanCodes$ScanLog" "seconds" "[I") (by decide +kernel)) (fun _ h9 => h9) rfl dX4_accepts_30 ?_
  refine lv_iload hx hb dX4_accepts_33 (lv_at hl 0 rfl) ?_
  refine zc_iald hx hb hK hP 2 0 rfl rfl (pl * 8 + sta) rfl (by omega) (by decide) dX4_accepts_35 ?_
  refine lv_istore (lv' := [(5, .int (T (pl * 8 + sta))), (4, .int (nI (pl * 8 + sta))), (0, .ref h), (1, .int (nI pl)), (2, .int (nI sta)), (3, .int sec)]) hx hb dX4_accepts_36 hl (by decide) rfl (fun ls hl => ?_)
  refine lv_iload hx hb dX4_accepts_38 (lv_at hl 0 rfl) ?_
  refine lv_iconst (v := (-1)) hx hb dX4_accepts_40 (by decide) ?_
  refine lv_icmp_eq (tgt := 55) hx hb dX4_accepts_41 (by decide) (fun c41 => ?_) (fun c41 => ?_)
  · have hd : ¬ zdbl (T (pl * 8 + sta)) sec := fun q => q.1 c41
    refine lv_aload_n hx hb dX4_accepts_55 rfl (lv_at hl 2 rfl) ?_
    refine va_get (D := (dC, dI)) (ci := 5) (v := .ref aT) (C := RX4) (T := TX4) (N := 3) hx hb hts hinX4 hown hK hP 0 rfl rfl 1 (by decide) (hts (.fieldLink RX4 15 "ScanCodes$ScanLog" "seconds" "[I") (by decide +kernel)) (fun _ h9 => h9) rfl dX4_accepts_56 ?_
    refine lv_iload hx hb dX4_accepts_59 (lv_at hl 1 rfl) ?_
    refine lv_iload_n hx hb dX4_accepts_61 rfl (lv_at hl 5 rfl) ?_
    refine zc_iast hx hb hK hP hD hS 2 0 rfl rfl (pl * 8 + sta) rfl (by omega) (by decide) dX4_accepts_62 (fun H locs hP hD hS => ?_)
    have hP : va_P (dC, dI) vwCl [(h, .inr (5, [.ref aK, .ref aT, .int (nI lb)])), (aK, .inl (cJ, 240, .inr (.inl K))), (aT, .inl (cI, 320, .inl (upd T (pl * 8 + sta) sec)))] H := hP
    have hD : va_D A [(h, .inr (5, [.ref aK, .ref aT, .int (nI lb)])), (aK, .inl (cJ, 240, .inr (.inl K))), (aT, .inl (cI, 320, .inl (upd T (pl * 8 + sta) sec)))] := hD
    refine lv_iconst (v := 1) hx hb dX4_accepts_63 (by decide) ?_
    have hP9 : va_P (dC, dI) vwCl [(h, .inr (5, [.ref aK, .ref aT, .int (nI lb)])), (aK, .inl (cJ, 240, .inr (.inl K))), (aT, .inl (cI, 320, .inl (zi (zdbl (T (pl * 8 + sta)) sec) T (upd T (pl * 8 + sta) sec))))] H := by rw [zi_f hd]; exact hP
    have hD9 : va_D A [(h, .inr (5, [.ref aK, .ref aT, .int (nI lb)])), (aK, .inl (cJ, 240, .inr (.inl K))), (aT, .inl (cI, 320, .inl (zi (zdbl (T (pl * 8 + sta)) sec) T (upd T (pl * 8 + sta) sec))))] := by rw [zi_f hd]; exact hD
    have hres : (1 : Int32) = zb (¬ zdbl (T (pl * 8 + sta)) sec) := by exact (zb_t hd).symm
    exact W.zret (v := 1) hx hb hr rfl (fun t ht hW => ⟨⟨_, (), rfl, hres, by rw [ht]; exact hP9, va_K.moved hW.alike hK, hD9⟩, hS.F ht⟩) hS.2.2 dX4_accepts_64
  · refine lv_iload_n hx hb dX4_accepts_44 rfl (lv_at hl 5 rfl) ?_
    refine lv_iload hx hb dX4_accepts_45 (lv_at hl 0 rfl) ?_
    refine lv_isub hx hb dX4_accepts_47 ?_
    refine lv_bipush (v := 10) hx hb dX4_accepts_48 (by decide) ?_
    refine lv_icmp_gt (tgt := 55) hx hb dX4_accepts_50 (by decide) (fun c50 => ?_) (fun c50 => ?_)
    · have hd : ¬ zdbl (T (pl * 8 + sta)) sec := fun q => q.2 c50
      refine lv_aload_n hx hb dX4_accepts_55 rfl (lv_at hl 2 rfl) ?_
      refine va_get (D := (dC, dI)) (ci := 5) (v := .ref aT) (C := RX4) (T := TX4) (N := 3) hx hb hts hinX4 hown hK hP 0 rfl rfl 1 (by decide) (hts (.fieldLink RX4 15 "ScanCodes$ScanLog" "seconds" "[I") (by decide +kernel)) (fun _ h9 => h9) rfl dX4_accepts_56 ?_
      refine lv_iload hx hb dX4_accepts_59 (lv_at hl 1 rfl) ?_
      refine lv_iload_n hx hb dX4_accepts_61 rfl (lv_at hl 5 rfl) ?_
      refine zc_iast hx hb hK hP hD hS 2 0 rfl rfl (pl * 8 + sta) rfl (by omega) (by decide) dX4_accepts_62 (fun H locs hP hD hS => ?_)
      have hP : va_P (dC, dI) vwCl [(h, .inr (5, [.ref aK, .ref aT, .int (nI lb)])), (aK, .inl (cJ, 240, .inr (.inl K))), (aT, .inl (cI, 320, .inl (upd T (pl * 8 + sta) sec)))] H := hP
      have hD : va_D A [(h, .inr (5, [.ref aK, .ref aT, .int (nI lb)])), (aK, .inl (cJ, 240, .inr (.inl K))), (aT, .inl (cI, 320, .inl (upd T (pl * 8 + sta) sec)))] := hD
      refine lv_iconst (v := 1) hx hb dX4_accepts_63 (by decide) ?_
      have hP9 : va_P (dC, dI) vwCl [(h, .inr (5, [.ref aK, .ref aT, .int (nI lb)])), (aK, .inl (cJ, 240, .inr (.inl K))), (aT, .inl (cI, 320, .inl (zi (zdbl (T (pl * 8 + sta)) sec) T (upd T (pl * 8 + sta) sec))))] H := by rw [zi_f hd]; exact hP
      have hD9 : va_D A [(h, .inr (5, [.ref aK, .ref aT, .int (nI lb)])), (aK, .inl (cJ, 240, .inr (.inl K))), (aT, .inl (cI, 320, .inl (zi (zdbl (T (pl * 8 + sta)) sec) T (upd T (pl * 8 + sta) sec))))] := by rw [zi_f hd]; exact hD
      have hres : (1 : Int32) = zb (¬ zdbl (T (pl * 8 + sta)) sec) := by exact (zb_t hd).symm
      exact W.zret (v := 1) hx hb hr rfl (fun t ht hW => ⟨⟨_, (), rfl, hres, by rw [ht]; exact hP9, va_K.moved hW.alike hK, hD9⟩, hS.F ht⟩) hS.2.2 dX4_accepts_64
    · have hd : zdbl (T (pl * 8 + sta)) sec := ⟨c41, c50⟩
      refine lv_iconst (v := 0) hx hb dX4_accepts_53 (by decide) ?_
      have hP9 : va_P (dC, dI) vwCl [(h, .inr (5, [.ref aK, .ref aT, .int (nI lb)])), (aK, .inl (cJ, 240, .inr (.inl K))), (aT, .inl (cI, 320, .inl (zi (zdbl (T (pl * 8 + sta)) sec) T (upd T (pl * 8 + sta) sec))))] s.heap := by rw [zi_t hd]; exact hP
      have hD9 : va_D A [(h, .inr (5, [.ref aK, .ref aT, .int (nI lb)])), (aK, .inl (cJ, 240, .inr (.inl K))), (aT, .inl (cI, 320, .inl (zi (zdbl (T (pl * 8 + sta)) sec) T (upd T (pl * 8 + sta) sec))))] := by rw [zi_t hd]; exact hD
      have hres : (0 : Int32) = zb (¬ zdbl (T (pl * 8 + sta)) sec) := by exact (zb_f (fun q => q hd)).symm
      exact W.zret (v := 0) hx hb hr rfl (fun t ht hW => ⟨⟨_, (), rfl, hres, by rw [ht]; exact hP9, va_K.moved hW.alike hK, hD9⟩, hS.F ht⟩) hS.2.2 dX4_accepts_54
set_option maxHeartbeats 4000000 in
set_option maxRecDepth 100000 in
theorem c_J9_floorMod_7cf53 (l : Launch) (dC : Nat → ClassId) (dI : Nat → Nat → Nat) (cI cZ cJ : ClassId) (x : Int32) (y : Int32) (hy : ¬ y = 0) : Met l yJ9_floorMod_7cf53 wsJ9_floorMod_7cf53 ({ frames := 0, cells := 0, slots := 0, locals := 0 }) (zc_P [.int x, .int y] (dC, dI) (zc_T cI cZ cJ) []) (zc_Q (.int (zfm x y))) 0 0 (fun _ => False) := by
  refine zc_ofW (cc := cJ9_floorMod_7cf53) (maxL := 3) (ret := (some .int)) (by decide +kernel) rfl ?_
  intro p e s m args below meth c s₁ B hml hv
  obtain ⟨rfl, hP, hK⟩ := hv
  have hx := B.exec
  have hb := B.bytes
  have hr := B.returns
  have hts := atoms_spec (ws := wsJ9_floorMod_7cf53) B.pre
  have hown : s.vm.findClass RJ9 = some m.cls := findClass_of_methodNamed B.named
  have hlocks := B.notSynchronized
  have hl := lv_entry ([.int x, .int y]) (n := 3) (Nat.le_of_ble_eq_true rfl)
  rw [lg_entry_eq]
  generalize (lg_sl ([.int x, .int y]) ++ List.replicate (3 - (lg_sl ([.int x, .int y])).length) Slot.unset).toArray = ls at hl ⊢
  have hl : lv_has ls 3 [(0, .int x), (1, .int y)] := hl
  refine lv_iload_n hx hb dJ9_floorMod_7cf53_0 rfl (lv_at hl 0 rfl) ?_
  refine lv_iload_n hx hb dJ9_floorMod_7cf53_1 rfl (lv_at hl 1 rfl) ?_
  refine lv_irem hx hb dJ9_floorMod_7cf53_2 hy ?_
  refine lv_istore_n (lv' := [(2, .int (x - x / y * y)), (0, .int x), (1, .int y)]) hx hb dJ9_floorMod_7cf53_3 rfl hl (by decide) rfl (fun ls hl => ?_)
  refine lv_iload_n hx hb dJ9_floorMod_7cf53_4 rfl (lv_at hl 1 rfl) ?_
  refine lv_iload_n hx hb dJ9_floorMod_7cf53_5 rfl (lv_at hl 2 rfl) ?_
  refine lv_ixor hx hb dJ9_floorMod_7cf53_6 ?_
  refine lv_if_ge (tgt := 18) hx hb dJ9_floorMod_7cf53_7 (by decide) (fun c7 => ?_) (fun c7 => ?_)
  · refine lv_iload_n hx hb dJ9_floorMod_7cf53_18 rfl (lv_at hl 0 rfl) ?_
    have hres : (x - x / y * y) = zfm x y := by rw [zfm, if_pos c7]
    exact W.iret (v := x - x / y * y) hx hb hr (fun t ht _ => ⟨congrArg (fun z => Outcome.returned (some (Value.int z))) hres, ht⟩) (fun _ h => nomatch h) dJ9_floorMod_7cf53_19
  · refine lv_iload_n hx hb dJ9_floorMod_7cf53_10 rfl (lv_at hl 0 rfl) ?_
    refine lv_if_eq (tgt := 18) hx hb dJ9_floorMod_7cf53_11 (by decide) (fun c11 => ?_) (fun c11 => ?_)
    · refine lv_iload_n hx hb dJ9_floorMod_7cf53_18 rfl (lv_at hl 0 rfl) ?_
      have hres : (x - x / y * y) = zfm x y := by rw [zfm, if_neg c7, if_pos c11]
      exact W.iret (v := x - x / y * y) hx hb hr (fun t ht _ => ⟨congrArg (fun z => Outcome.returned (some (Value.int z))) hres, ht⟩) (fun _ h => nomatch h) dJ9_floorMod_7cf53_19
    · refine lv_iload_n hx hb dJ9_floorMod_7cf53_14 rfl (lv_at hl 0 rfl) ?_
      refine lv_iload_n hx hb dJ9_floorMod_7cf53_15 rfl (lv_at hl 2 rfl) ?_
      refine lv_iadd hx hb dJ9_floorMod_7cf53_16 ?_
      have hres : ((x - x / y * y) + y) = zfm x y := by rw [zfm, if_neg c7, if_neg c11]
      exact W.iret (v := (x - x / y * y) + y) hx hb hr (fun t ht _ => ⟨congrArg (fun z => Outcome.returned (some (Value.int z))) hres, ht⟩) (fun _ h => nomatch h) dJ9_floorMod_7cf53_17
set_option maxHeartbeats 4000000 in
set_option maxRecDepth 100000 in
theorem c_X6_checkSign (l : Launch) (dC : Nat → ClassId) (dI : Nat → Nat → Nat) (cI cZ cJ : ClassId) (h : Nat) (a : Nat) (cap : Nat) (n : Nat) (f : Nat → Int32) (len : Nat) (hle : len ≤ n) (hn : n ≤ cap) (hc : cap < 2 ^ 31) : Met l yX6_checkSign wsX6_checkSign ({ frames := 1, cells := 0, slots := 0, locals := 22 }) (zc_P [.ref h, .int (nI len)] (dC, dI) (zc_T cI cZ cJ) [(h, .inr (4, [.ref a, .int (nI n)])), (a, .inl (cI, cap, .inl f))]) (zc_Q (.int (zchk f len))) 0 0 (fun _ => False) := by
  refine Met.ofW (cc := cX6_checkSign) (maxL := 5) (ret := (some .int)) (by decide) rfl ?_
  intro p e s m args below meth c s₁ B hml hv
  obtain ⟨rfl, hP, hK⟩ := hv
  have hx := B.exec
  have hb := B.bytes
  have hr := B.returns
  have hts := atoms_spec (ws := wsX6_checkSign) B.pre
  have hown : s.vm.findClass RX6 = some m.cls := findClass_of_methodNamed B.named
  have hlocks := B.notSynchronized
  have hl := lv_entry ([.ref h, .int (nI len)]) (n := 5) (Nat.le_of_ble_eq_true rfl)
  rw [lg_entry_eq]
  generalize (lg_sl ([.ref h, .int (nI len)]) ++ List.replicate (5 - (lg_sl ([.ref h, .int (nI len)])).length) Slot.unset).toArray = ls at hl ⊢
  have hl : lv_has ls 5 [(0, .ref h), (1, .int (nI len))] := hl
  refine lv_iconst (v := 0) hx hb dX6_checkSign_0 (by decide) ?_
  refine lv_istore_n (lv' := [(2, .int 0), (0, .ref h), (1, .int (nI len))]) hx hb dX6_checkSign_1 rfl hl (by decide) rfl (fun ls hl => ?_)
  refine lv_iconst (v := 3) hx hb dX6_checkSign_2 (by decide) ?_
  refine lv_istore_n (lv' := [(3, .int 3), (2, .int 0), (0, .ref h), (1, .int (nI len))]) hx hb dX6_checkSign_3 rfl hl (by decide) rfl (fun ls hl => ?_)
  refine lv_iload_n hx hb dX6_checkSign_4 rfl (lv_at hl 3 rfl) ?_
  refine lv_iconst (v := 1) hx hb dX6_checkSign_5 (by decide) ?_
  refine lv_isub hx hb dX6_checkSign_6 ?_
  refine lv_istore (lv' := [(4, .int ((nI len) - 1)), (3, .int 3), (2, .int 0), (0, .ref h), (1, .int (nI len))]) hx hb dX6_checkSign_7 hl (by decide) rfl (fun ls hl => ?_)
  refine zc_loop (α := Nat) (fun k ls => lv_has ls 5 [(4, .int (nI (len - k) - 1)), (3, .int (zwt k)), (2, .int (zsw f len k)), (0, .ref h), (1, .int (nI len))] ∧ (k ≤ len)) (fun k => len - k) 0 ⟨lv_sub hl [0, 1, 2, 3, 4] rfl, Nat.zero_le _⟩ ?_
  intro x ls hI ih9
  obtain ⟨k, rfl⟩ : ∃ z, z = x := ⟨_, rfl⟩
  obtain ⟨hl, hi1⟩ := hI
  have hl : lv_has ls 5 [(4, .int (nI (len - k) - 1)), (3, .int (zwt k)), (2, .int (zsw f len k)), (0, .ref h), (1, .int (nI len))] := hl
  try dsimp only at ih9
  refine lv_iload hx hb dX6_checkSign_9 (lv_at hl 0 rfl) ?_
  refine lv_if_lt (tgt := 35) hx hb dX6_checkSign_11 (by decide) (fun c11 => ?_) (fun c11 => ?_)
  · have hge := zn_predlt (b := 0) c11 (by omega) (by decide)
    have hkl : k = len := by omega
    refine lv_iload_n hx hb dX6_checkSign_35 rfl (lv_at hl 2 rfl) ?_
    refine lv_ineg hx hb dX6_checkSign_36 ?_
    refine lv_bipush (v := 10) hx hb dX6_checkSign_37 (by decide) ?_
    refine zc_callR (va_runS (As := [.int (-(zsw f len k)), .int 10]) (rest := []) ⟨hx, hb, hml, hown, hts⟩ (c_J9_floorMod_7cf53 l dC dI cI cZ cJ (-(zsw f len k)) 10 (by decide)) (zc_S 2 hts ggX6_checkSign_J9_floorMod_7cf53 rfl rfl rfl (by decide +kernel) (by decide +kernel) ⟨Nat.le_of_ble_eq_true rfl, Nat.le_of_ble_eq_true rfl⟩) ⟨zc_blind, zc_pay (hP.sub (ws' := []) [] rfl) hK⟩ rfl rfl hl.1 rfl (lv_room (Nat.le_of_ble_eq_true rfl)) dX6_checkSign_39 ⟨Nat.le_of_ble_eq_true rfl, Nat.le_of_ble_eq_true rfl⟩) ?_
    have hres : (zfm (-(zsw f len k)) 10) = zchk f len := by rw [hkl]; rfl
    exact W.iret (v := zfm (-(zsw f len k)) 10) hx hb hr (fun t ht _ => ⟨congrArg (fun z => Outcome.returned (some (Value.int z))) hres, ht⟩) (fun _ h => nomatch h) dX6_checkSign_42
  · have hlt0 := zn_npredlt (b := 0) c11 (by omega) (by decide)
    have hlt : k < len := by omega
    refine lv_iload_n hx hb dX6_checkSign_14 rfl (lv_at hl 2 rfl) ?_
    refine lv_iload_n hx hb dX6_checkSign_15 rfl (lv_at hl 1 rfl) ?_
    refine lv_aload_n hx hb dX6_checkSign_16 rfl (lv_at hl 3 rfl) ?_
    refine lv_iload hx hb dX6_checkSign_17 (lv_at hl 0 rfl) ?_
    refine zc_ti (y := nI (len - 1 - k)) (by rw [zn_pred (by omega)]; congr 1; omega) ?_
    refine zc_callR (va_runV (As := [.int (nI (len - 1 - k))]) (rest := [.int (zwt k), .int (zsw f len k)]) ⟨hx, hb, hml, hown, hts⟩ (c_X3_at l dC dI cI cZ cJ h a cap n f (nI (len - 1 - k)) (by first | assumption | omega) (by first | assumption | omega)) (zc_V 1 hts ggX6_checkSign_X3_at rfl rfl rfl (by decide +kernel) (by decide +kernel) ⟨Nat.le_of_ble_eq_true rfl, Nat.le_of_ble_eq_true rfl⟩) ⟨zc_blind, va_recv hK hP (ci := 4) (q0 := 0) rfl rfl, zc_pay (hP.sub (ws' := [(h, .inr (4, [.ref a, .int (nI n)])), (a, .inl (cI, cap, .inl f))]) [0, 1] rfl) hK⟩ rfl rfl hl.1 rfl (lv_room (Nat.le_of_ble_eq_true rfl)) dX6_checkSign_19 ⟨Nat.le_of_ble_eq_true rfl, Nat.le_of_ble_eq_true rfl⟩) ?_
    refine zc_ti (y := f (len - 1 - k)) (zr_at_in (by omega) (by omega)) ?_
    refine lv_imul hx hb dX6_checkSign_22 ?_
    refine lv_iadd hx hb dX6_checkSign_23 ?_
    refine zc_ti (y := zsw f len (k + 1)) rfl ?_
    refine lv_istore_n (lv' := [(2, .int (zsw f len (k + 1))), (4, .int (nI (len - k) - 1)), (3, .int (zwt k)), (0, .ref h), (1, .int (nI len))]) hx hb dX6_checkSign_24 rfl hl (by decide) rfl (fun ls hl => ?_)
    refine lv_iconst (v := 4) hx hb dX6_checkSign_25 (by decide) ?_
    refine lv_iload_n hx hb dX6_checkSign_26 rfl (lv_at hl 2 rfl) ?_
    refine lv_isub hx hb dX6_checkSign_27 ?_
    refine zc_ti (y := zwt (k + 1)) (zwt_s k) ?_
    refine lv_istore_n (lv' := [(3, .int (zwt (k + 1))), (2, .int (zsw f len (k + 1))), (4, .int (nI (len - k) - 1)), (0, .ref h), (1, .int (nI len))]) hx hb dX6_checkSign_28 rfl hl (by decide) rfl (fun ls hl => ?_)
    refine lv_iinc (v := nI (len - (k + 1)) - 1) (lv' := [(4, .int (nI (len - (k + 1)) - 1)), (3, .int (zwt (k + 1))), (2, .int (zsw f len (k + 1))), (0, .ref h), (1, .int (nI len))]) hx hb dX6_checkSign_29 hl (k := 2) rfl ((by rw [zn_dec (by omega)]; congr 2)) (by decide) rfl (fun ls hl => ?_)
    refine lv_goto (tgt := 9) hx hb dX6_checkSign_32 (by decide) ?_
    exact ih9 (k + 1) _ (by omega) ⟨lv_sub hl [0, 1, 2, 3, 4] rfl, hlt⟩
