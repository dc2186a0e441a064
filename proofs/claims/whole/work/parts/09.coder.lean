/-! Coder: form fm, words of signs, places of modules. -/
def zw (fm : Nat) : Nat := if fm = 0 then 4 else 7
theorem zw_le (fm : Nat) : zw fm ≤ 7 := by unfold zw; split <;> omega
theorem zw_ge (fm : Nat) : 4 ≤ zw fm := by unfold zw; split <;> omega
theorem zw_0 : zw 0 = 4 := rfl
theorem zw_n {fm : Nat} (h : fm ≠ 0) : zw fm = 7 := by unfold zw; rw [if_neg h]
/-- the place of module k of sign a, of n signs; the sign and the module that stand at a place -/
def zpl (fm a k n : Nat) : Nat := if fm = 2 then k * n + a else a * zw fm + k
def zqs (fm n j : Nat) : Nat := if fm = 2 then j % n else j / zw fm
def zqk (fm n j : Nat) : Nat := if fm = 2 then j / n else j % zw fm
theorem zpl_lt {fm a k n : Nat} (ha : a < n) (hk : k < zw fm) : zpl fm a k n < n * zw fm := by
  unfold zpl
  split
  · have h1 : (k + 1) * n ≤ zw fm * n := Nat.mul_le_mul_right n hk
    rw [Nat.add_mul, Nat.one_mul] at h1
    rw [Nat.mul_comm n]
    omega
  · have h1 : (a + 1) * zw fm ≤ n * zw fm := Nat.mul_le_mul_right _ ha
    rw [Nat.add_mul, Nat.one_mul] at h1
    omega
theorem zpl_s {fm a k n : Nat} (ha : a < n) (hk : k < zw fm) : zqs fm n (zpl fm a k n) = a := by
  unfold zqs zpl
  split
  · rw [Nat.mul_add_mod_self_right, Nat.mod_eq_of_lt ha]
  · rw [Nat.add_comm, Nat.add_mul_div_right _ _ (by have := zw_ge fm; omega), Nat.div_eq_of_lt hk, Nat.zero_add]
theorem zpl_k {fm a k n : Nat} (ha : a < n) (hk : k < zw fm) : zqk fm n (zpl fm a k n) = k := by
  unfold zqk zpl
  split
  · rw [Nat.add_comm, Nat.add_mul_div_right _ _ (by omega), Nat.div_eq_of_lt ha, Nat.zero_add]
  · rw [Nat.mul_add_mod_self_right, Nat.mod_eq_of_lt hk]
theorem zpl_back (fm n j : Nat) : zpl fm (zqs fm n j) (zqk fm n j) n = j := by
  unfold zqs zqk zpl
  split
  · rw [Nat.mul_comm]; exact Nat.div_add_mod j n
  · rw [Nat.mul_comm]; exact Nat.div_add_mod j (zw fm)
theorem zpl_sk {fm n j : Nat} (h : j < n * zw fm) : zqs fm n j < n ∧ zqk fm n j < zw fm := by
  have hn : 0 < n := by rcases Nat.eq_zero_or_pos n with rfl | q; rw [Nat.zero_mul] at h; omega; exact q
  have hw := zw_ge fm
  unfold zqs zqk
  split
  · exact ⟨Nat.mod_lt _ hn, Nat.div_lt_of_lt_mul h⟩
  · exact ⟨Nat.div_lt_of_lt_mul (by rw [Nat.mul_comm]; exact h), Nat.mod_lt _ (by omega)⟩
/-- modules written so far: all of the signs before a, k of sign a; val: what they are -/
def zenc (fm n : Nat) (val : Nat → Nat → Int32) (g : Nat → Int32) (a k : Nat) : Nat → Int32 := fun j => if j < n * zw fm ∧ (zqs fm n j < a ∨ (zqs fm n j = a ∧ zqk fm n j < k)) then val (zqs fm n j) (zqk fm n j) else g j
theorem zenc_0 (fm n : Nat) (val : Nat → Nat → Int32) (g : Nat → Int32) : zenc fm n val g 0 0 = g := by
  funext j; unfold zenc; rw [if_neg (by omega)]
theorem zenc_k {fm n a k : Nat} (val : Nat → Nat → Int32) (g : Nat → Int32) (ha : a < n) (hk : k < zw fm) : upd (zenc fm n val g a k) (zpl fm a k n) (val a k) = zenc fm n val g a (k + 1) := by
  funext j
  unfold upd zenc
  have h0 := zpl_lt ha hk
  have h1 := zpl_s ha hk
  have h2 := zpl_k ha hk
  by_cases h : j = zpl fm a k n
  · rw [if_pos h, h, h1, h2, if_pos ⟨h0, Or.inr ⟨rfl, by omega⟩⟩]
  · rw [if_neg h]
    have h3 : ¬ (zqs fm n j = a ∧ zqk fm n j = k) := fun ⟨q1, q2⟩ => h (by rw [← zpl_back fm n j, q1, q2])
    by_cases h4 : j < n * zw fm ∧ (zqs fm n j < a ∨ (zqs fm n j = a ∧ zqk fm n j < k))
    · rw [if_pos h4, if_pos (by omega)]
    · rw [if_neg h4, if_neg (by omega)]
theorem zenc_s {fm n a : Nat} (val : Nat → Nat → Int32) (g : Nat → Int32) : zenc fm n val g a (zw fm) = zenc fm n val g (a + 1) 0 := by
  funext j
  unfold zenc
  by_cases h : j < n * zw fm
  · have hk := (zpl_sk h).2
    by_cases h4 : j < n * zw fm ∧ (zqs fm n j < a ∨ (zqs fm n j = a ∧ zqk fm n j < zw fm))
    · rw [if_pos h4, if_pos (by omega)]
    · rw [if_neg h4, if_neg (by omega)]
  · rw [if_neg (fun q => h q.1), if_neg (fun q => h q.1)]
theorem zenc_in {fm n j : Nat} {val : Nat → Nat → Int32} {g : Nat → Int32} (h : j < n * zw fm) : zenc fm n val g n 0 j = val (zqs fm n j) (zqk fm n j) := by
  unfold zenc; rw [if_pos ⟨h, Or.inl (zpl_sk h).1⟩]
/-- a sign's word, as the class has it -/
def zwd (fm : Nat) (x : Int32) : Int32 := if fm = 0 then x else
  ((x <<< ((3 : Int32) &&& 31)) ||| ((((x >>> ((3 : Int32) &&& 31)) &&& 1) ^^^ ((x >>> ((2 : Int32) &&& 31)) &&& 1) ^^^ (x &&& 1)) <<< ((2 : Int32) &&& 31)) ||| ((((x >>> ((3 : Int32) &&& 31)) &&& 1) ^^^ ((x >>> ((1 : Int32) &&& 31)) &&& 1) ^^^ (x &&& 1)) <<< ((1 : Int32) &&& 31))) ||| (((x >>> ((2 : Int32) &&& 31)) &&& 1) ^^^ ((x >>> ((1 : Int32) &&& 31)) &&& 1) ^^^ (x &&& 1))
/-- the library's count of bits -/
def zbcA (x : Int32) : Int32 := x - ((x.toUInt32 >>> ((1 : Int32).toUInt32 &&& Int32.toUInt32 31)).toInt32 &&& 1431655765)
def zbcB (x : Int32) : Int32 := (x &&& 858993459) + ((x.toUInt32 >>> ((2 : Int32).toUInt32 &&& Int32.toUInt32 31)).toInt32 &&& 858993459)
def zbcC (x : Int32) : Int32 := (x + (x.toUInt32 >>> ((4 : Int32).toUInt32 &&& Int32.toUInt32 31)).toInt32) &&& 252645135
def zbcD (x : Int32) : Int32 := x + (x.toUInt32 >>> ((8 : Int32).toUInt32 &&& Int32.toUInt32 31)).toInt32
def zbcE (x : Int32) : Int32 := x + (x.toUInt32 >>> ((16 : Int32).toUInt32 &&& Int32.toUInt32 31)).toInt32
def zbc (x : Int32) : Int32 := zbcE (zbcD (zbcC (zbcB (zbcA x)))) &&& 63
/-- how many modules are otherwise than in v's word, where none is erased -/
def zoth (fm : Nat) (o er : Int32) (v : Nat) : Int32 := zbc ((zwd fm (nI v) ^^^ o) &&& (er ^^^ (-1)))
/-- the sign that is taken, and how many modules were mended: k signs are left, from v on -/
def zmd (fm : Nat) (o er : Int32) : Nat → Nat → Int32 × Int32
  | 0, _ => (-1, 0)
  | k + 1, v => if 2 * zoth fm o er v + zbc er ≤ 2 then (nI v, if v ≤ 10 then zoth fm o er v + zbc er else 0) else zmd fm o er k (v + 1)
/-- ones and erased ones of the first k modules of sign a -/
def zone (fm n : Nat) (f : Nat → Int32) (a : Nat) : Nat → Int32
  | 0 => 0
  | k + 1 => zone fm n f a k * 2 + (if f (zpl fm a k n) = 1 then 1 else 0)
def zer (fm n : Nat) (f : Nat → Int32) (a : Nat) : Nat → Int32
  | 0 => 0
  | k + 1 => zer fm n f a k * 2 + (if f (zpl fm a k n) = 2 then 1 else 0)
/-- sign a of n as it is mended, and the modules that were -/
def zsg (fm n : Nat) (f : Nat → Int32) (a : Nat) : Int32 × Int32 := if fm = 0 then (if zer fm n f a (zw fm) = 0 then zone fm n f a (zw fm) else -1, 0) else zmd fm (zone fm n f a (zw fm)) (zer fm n f a (zw fm)) 16 0
/-- a sign that isn't one -/
def zbad (x : Int32) : Prop := x < 0 ∨ ¬ x ≤ 10
/-- the first of the signs from a on (k are left) that can't be mended -/
noncomputable def zstop (fm n : Nat) (f : Nat → Int32) : Nat → Nat → Nat
  | 0, a => a
  | k + 1, a => zi (zbad (zsg fm n f a).1) a (zstop fm n f k (a + 1))
/-- modules mended in the first a signs -/
def zsum (fm n : Nat) (f : Nat → Int32) : Nat → Int32
  | 0 => 0
  | a + 1 => zsum fm n f a + (zsg fm n f a).2
/-- the row of signs, a of them read -/
def zsrow (fm n : Nat) (f fs : Nat → Int32) (a : Nat) : Nat → Int32 := fun j => if j < a then (zsg fm n f j).1 else fs j
theorem zsrow_0 (fm n : Nat) (f fs : Nat → Int32) : zsrow fm n f fs 0 = fs := by funext j; unfold zsrow; rw [if_neg (by omega)]
theorem zsrow_s (fm n : Nat) (f fs : Nat → Int32) (a : Nat) : upd (zsrow fm n f fs a) a (zsg fm n f a).1 = zsrow fm n f fs (a + 1) := by
  funext j
  unfold upd zsrow
  by_cases h : j = a
  · rw [if_pos h, if_pos (by omega), h]
  · rw [if_neg h]
    by_cases h2 : j < a
    · rw [if_pos h2, if_pos (by omega)]
    · rw [if_neg h2, if_neg (by omega)]

set_option maxHeartbeats 4000000 in
set_option maxRecDepth 100000 in
theorem c_X0_form (l : Launch) (dC : Nat → ClassId) (dI : Nat → Nat → Nat) (cI cZ cJ : ClassId) (h : Nat) (fm : Nat) (md : Int32) : Met l yX0_form wsX0_form ({ frames := 0, cells := 0, slots := 0, locals := 0 }) (zc_P [.ref h] (dC, dI) (zc_T cI cZ cJ) [(h, .inr (1, [.int (nI fm), .int (nI (zw fm)), .int md]))]) (zc_Q (.int (nI fm))) 0 0 (fun _ => False) := by
  refine Met.ofW (cc := cX0_form) (maxL := 1) (ret := (some .int)) (by decide) rfl ?_
  intro p e s m args below meth c s₁ B hml hv
  obtain ⟨rfl, hP, hK⟩ := hv
  have hx := B.exec
  have hb := B.bytes
  have hr := B.returns
  have hts := atoms_spec (ws := wsX0_form) B.pre
  have hown : s.vm.findClass RX0 = some m.cls := findClass_of_methodNamed B.named
  have hlocks := B.notSynchronized
  have hinX0 : ∀ w ∈ wsX00, w ∈ wsX0_form := by decide +kernel
  have hl := lv_entry ([.ref h]) (n := 1) (Nat.le_of_ble_eq_true rfl)
  rw [lg_entry_eq]
  generalize (lg_sl ([.ref h]) ++ List.replicate (1 - (lg_sl ([.ref h])).length) Slot.unset).toArray = ls at hl ⊢
  have hl : lv_has ls 1 [(0, .ref h)] := hl
  refine lv_aload_n hx hb dX0_form_0 rfl (lv_at hl 0 rfl) ?_
  refine va_get (D := (dC, dI)) (ci := 1) (v := .int (nI fm)) (C := RX0) (T := TX0) (N := 3) hx hb hts hinX0 hown hK hP 0 rfl rfl 0 (by decide) (hts (.fieldLink RX0 9 "ScanCodes$Coder" "form" "I") (by decide +kernel)) (fun _ h9 => h9) rfl dX0_form_1 ?_
  have hres : (nI fm) = nI fm := by rfl
  exact W.iret (v := nI fm) hx hb hr (fun t ht _ => ⟨congrArg (fun z => Outcome.returned (some (Value.int z))) hres, ht⟩) (fun _ h => nomatch h) dX0_form_4
set_option maxHeartbeats 4000000 in
set_option maxRecDepth 100000 in
theorem c_X0_mendedLast (l : Launch) (dC : Nat → ClassId) (dI : Nat → Nat → Nat) (cI cZ cJ : ClassId) (h : Nat) (fm : Nat) (md : Int32) : Met l yX0_mendedLast wsX0_mendedLast ({ frames := 0, cells := 0, slots := 0, locals := 0 }) (zc_P [.ref h] (dC, dI) (zc_T cI cZ cJ) [(h, .inr (1, [.int (nI fm), .int (nI (zw fm)), .int md]))]) (zc_Q (.int md)) 0 0 (fun _ => False) := by
  refine Met.ofW (cc := cX0_mendedLast) (maxL := 1) (ret := (some .int)) (by decide) rfl ?_
  intro p e s m args below meth c s₁ B hml hv
  obtain ⟨rfl, hP, hK⟩ := hv
  have hx := B.exec
  have hb := B.bytes
  have hr := B.returns
  have hts := atoms_spec (ws := wsX0_mendedLast) B.pre
  have hown : s.vm.findClass RX0 = some m.cls := findClass_of_methodNamed B.named
  have hlocks := B.notSynchronized
  have hinX0 : ∀ w ∈ wsX00, w ∈ wsX0_mendedLast := by decide +kernel
  have hl := lv_entry ([.ref h]) (n := 1) (Nat.le_of_ble_eq_true rfl)
  rw [lg_entry_eq]
  generalize (lg_sl ([.ref h]) ++ List.replicate (1 - (lg_sl ([.ref h])).length) Slot.unset).toArray = ls at hl ⊢
  have hl : lv_has ls 1 [(0, .ref h)] := hl
  refine lv_aload_n hx hb dX0_mendedLast_0 rfl (lv_at hl 0 rfl) ?_
  refine va_get (D := (dC, dI)) (ci := 1) (v := .int md) (C := RX0) (T := TX0) (N := 3) hx hb hts hinX0 hown hK hP 0 rfl rfl 2 (by decide) (hts (.fieldLink RX0 18 "ScanCodes$Coder" "mended" "I") (by decide +kernel)) (fun _ h9 => h9) rfl dX0_mendedLast_1 ?_
  have hres : md = md := by rfl
  exact W.iret (v := md) hx hb hr (fun t ht _ => ⟨congrArg (fun z => Outcome.returned (some (Value.int z))) hres, ht⟩) (fun _ h => nomatch h) dX0_mendedLast_4
set_option maxHeartbeats 4000000 in
set_option maxRecDepth 100000 in
theorem c_X0_placeOf (l : Launch) (dC : Nat → ClassId) (dI : Nat → Nat → Nat) (cI cZ cJ : ClassId) (h : Nat) (fm : Nat) (md : Int32) (a : Nat) (k : Nat) (n : Nat) (hf : fm ≤ 2) : Met l yX0_placeOf wsX0_placeOf ({ frames := 0, cells := 0, slots := 0, locals := 0 }) (zc_P [.ref h, .int (nI a), .int (nI k), .int (nI n)] (dC, dI) (zc_T cI cZ cJ) [(h, .inr (1, [.int (nI fm), .int (nI (zw fm)), .int md]))]) (zc_Q (.int (nI (zpl fm a k n)))) 0 0 (fun _ => False) := by
  refine Met.ofW (cc := cX0_placeOf) (maxL := 4) (ret := (some .int)) (by decide) rfl ?_
  intro p e s m args below meth c s₁ B hml hv
  obtain ⟨rfl, hP, hK⟩ := hv
  have hx := B.exec
  have hb := B.bytes
  have hr := B.returns
  have hts := atoms_spec (ws := wsX0_placeOf) B.pre
  have hown : s.vm.findClass RX0 = some m.cls := findClass_of_methodNamed B.named
  have hlocks := B.notSynchronized
  have hinX0 : ∀ w ∈ wsX00, w ∈ wsX0_placeOf := by decide +kernel
  have hl := lv_entry ([.ref h, .int (nI a), .int (nI k), .int (nI n)]) (n := 4) (Nat.le_of_ble_eq_true rfl)
  rw [lg_entry_eq]
  generalize (lg_sl ([.ref h, .int (nI a), .int (nI k), .int (nI n)]) ++ List.replicate (4 - (lg_sl ([.ref h, .int (nI a), .int (nI k), .int (nI n)])).length) Slot.unset).toArray = ls at hl ⊢
  have hl : lv_has ls 4 [(0, .ref h), (1, .int (nI a)), (2, .int (nI k)), (3, .int (nI n))] := hl
  refine lv_aload_n hx hb dX0_placeOf_0 rfl (lv_at hl 0 rfl) ?_
  refine va_get (D := (dC, dI)) (ci := 1) (v := .int (nI fm)) (C := RX0) (T := TX0) (N := 3) hx hb hts hinX0 hown hK hP 0 rfl rfl 0 (by decide) (hts (.fieldLink RX0 9 "ScanCodes$Coder" "form" "I") (by decide +kernel)) (fun _ h9 => h9) rfl dX0_placeOf_1 ?_
  refine lv_iconst (v := 2) hx hb dX0_placeOf_4 (by decide) ?_
  refine lv_icmp_ne (tgt := 16) hx hb dX0_placeOf_5 (by decide) (fun c5 => ?_) (fun c5 => ?_)
  · have h2 := zn_ne (b := 2) c5 (by omega) (by decide)
    refine lv_iload_n hx hb dX0_placeOf_16 rfl (lv_at hl 1 rfl) ?_
    refine lv_aload_n hx hb dX0_placeOf_17 rfl (lv_at hl 0 rfl) ?_
    refine va_get (D := (dC, dI)) (ci := 1) (v := .int (nI (zw fm))) (C := RX0) (T := TX0) (N := 3) hx hb hts hinX0 hown hK hP 0 rfl rfl 1 (by decide) (hts (.fieldLink RX0 15 "ScanCodes$Coder" "width" "I") (by decide +kernel)) (fun _ h9 => h9) rfl dX0_placeOf_18 ?_
    refine lv_imul hx hb dX0_placeOf_21 ?_
    refine lv_iload_n hx hb dX0_placeOf_22 rfl (lv_at hl 2 rfl) ?_
    refine lv_iadd hx hb dX0_placeOf_23 ?_
    have hres : (((nI a) * (nI (zw fm))) + (nI k)) = nI (zpl fm a k n) := by rw [pk_mul, nI_add, zpl, if_neg h2]
    exact W.iret (v := ((nI a) * (nI (zw fm))) + (nI k)) hx hb hr (fun t ht _ => ⟨congrArg (fun z => Outcome.returned (some (Value.int z))) hres, ht⟩) (fun _ h => nomatch h) dX0_placeOf_24
  · have h2 := zn_eq (b := 2) c5 (by omega) (by decide)
    refine lv_iload_n hx hb dX0_placeOf_8 rfl (lv_at hl 2 rfl) ?_
    refine lv_iload_n hx hb dX0_placeOf_9 rfl (lv_at hl 3 rfl) ?_
    refine lv_imul hx hb dX0_placeOf_10 ?_
    refine lv_iload_n hx hb dX0_placeOf_11 rfl (lv_at hl 1 rfl) ?_
    refine lv_iadd hx hb dX0_placeOf_12 ?_
    refine lv_goto (tgt := 24) hx hb dX0_placeOf_13 (by decide) ?_
    have hres : (((nI k) * (nI n)) + (nI a)) = nI (zpl fm a k n) := by rw [pk_mul, nI_add, zpl, if_pos h2]
    exact W.iret (v := ((nI k) * (nI n)) + (nI a)) hx hb hr (fun t ht _ => ⟨congrArg (fun z => Outcome.returned (some (Value.int z))) hres, ht⟩) (fun _ h => nomatch h) dX0_placeOf_24
set_option maxHeartbeats 4000000 in
set_option maxRecDepth 100000 in
theorem c_X0_wordOf (l : Launch) (dC : Nat → ClassId) (dI : Nat → Nat → Nat) (cI cZ cJ : ClassId) (h : Nat) (fm : Nat) (md : Int32) (x : Int32) (hf : fm ≤ 2) : Met l yX0_wordOf wsX0_wordOf ({ frames := 0, cells := 0, slots := 0, locals := 0 }) (zc_P [.ref h, .int x] (dC, dI) (zc_T cI cZ cJ) [(h, .inr (1, [.int (nI fm), .int (nI (zw fm)), .int md]))]) (zc_Q (.int (zwd fm x))) 0 0 (fun _ => False) := by
  refine Met.ofW (cc := cX0_wordOf) (maxL := 6) (ret := (some .int)) (by decide) rfl ?_
  intro p e s m args below meth c s₁ B hml hv
  obtain ⟨rfl, hP, hK⟩ := hv
  have hx := B.exec
  have hb := B.bytes
  have hr := B.returns
  have hts := atoms_spec (ws := wsX0_wordOf) B.pre
  have hown : s.vm.findClass RX0 = some m.cls := findClass_of_methodNamed B.named
  have hlocks := B.notSynchronized
  have hinX0 : ∀ w ∈ wsX00, w ∈ wsX0_wordOf := by decide +kernel
  have hl := lv_entry ([.ref h, .int x]) (n := 6) (Nat.le_of_ble_eq_true rfl)
  rw [lg_entry_eq]
  generalize (lg_sl ([.ref h, .int x]) ++ List.replicate (6 - (lg_sl ([.ref h, .int x])).length) Slot.unset).toArray = ls at hl ⊢
  have hl : lv_has ls 6 [(0, .ref h), (1, .int x)] := hl
  refine lv_aload_n hx hb dX0_wordOf_0 rfl (lv_at hl 0 rfl) ?_
  refine va_get (D := (dC, dI)) (ci := 1) (v := .int (nI fm)) (C := RX0) (T := TX0) (N := 3) hx hb hts hinX0 hown hK hP 0 rfl rfl 0 (by decide) (hts (.fieldLink RX0 9 "ScanCodes$Coder" "form" "I") (by decide +kernel)) (fun _ h9 => h9) rfl dX0_wordOf_1 ?_
  refine lv_if_ne (tgt := 9) hx hb dX0_wordOf_4 (by decide) (fun c4 => ?_) (fun c4 => ?_)
  · have h2 := zn_ne (b := 0) c4 (by omega) (by decide)
    refine lv_iload_n hx hb dX0_wordOf_9 rfl (lv_at hl 1 rfl) ?_
    refine lv_iconst (v := 3) hx hb dX0_wordOf_10 (by decide) ?_
    refine lv_ishr hx hb dX0_wordOf_11 ?_
    refine lv_iconst (v := 1) hx hb dX0_wordOf_12 (by decide) ?_
    refine lv_iand hx hb dX0_wordOf_13 ?_
    refine lv_istore_n (lv' := [(2, .int ((x >>> ((3 : Int32) &&& 31)) &&& 1)), (0, .ref h), (1, .int x)]) hx hb dX0_wordOf_14 rfl hl (by decide) rfl (fun ls hl => ?_)
    refine lv_iload_n hx hb dX0_wordOf_15 rfl (lv_at hl 2 rfl) ?_
    refine lv_iconst (v := 2) hx hb dX0_wordOf_16 (by decide) ?_
    refine lv_ishr hx hb dX0_wordOf_17 ?_
    refine lv_iconst (v := 1) hx hb dX0_wordOf_18 (by decide) ?_
    refine lv_iand hx hb dX0_wordOf_19 ?_
    refine lv_istore_n (lv' := [(3, .int ((x >>> ((2 : Int32) &&& 31)) &&& 1)), (2, .int ((x >>> ((3 : Int32) &&& 31)) &&& 1)), (0, .ref h), (1, .int x)]) hx hb dX0_wordOf_20 rfl hl (by decide) rfl (fun ls hl => ?_)
    refine lv_iload_n hx hb dX0_wordOf_21 rfl (lv_at hl 3 rfl) ?_
    refine lv_iconst (v := 1) hx hb dX0_wordOf_22 (by decide) ?_
    refine lv_ishr hx hb dX0_wordOf_23 ?_
    refine lv_iconst (v := 1) hx hb dX0_wordOf_24 (by decide) ?_
    refine lv_iand hx hb dX0_wordOf_25 ?_
    refine lv_istore (lv' := [(4, .int ((x >>> ((1 : Int32) &&& 31)) &&& 1)), (3, .int ((x >>> ((2 : Int32) &&& 31)) &&& 1)), (2, .int ((x >>> ((3 : Int32) &&& 31)) &&& 1)), (0, .ref h), (1, .int x)]) hx hb dX0_wordOf_26 hl (by decide) rfl (fun ls hl => ?_)
    refine lv_iload_n hx hb dX0_wordOf_28 rfl (lv_at hl 4 rfl) ?_
    refine lv_iconst (v := 1) hx hb dX0_wordOf_29 (by decide) ?_
    refine lv_iand hx hb dX0_wordOf_30 ?_
    refine lv_istore (lv' := [(5, .int (x &&& 1)), (4, .int ((x >>> ((1 : Int32) &&& 31)) &&& 1)), (3, .int ((x >>> ((2 : Int32) &&& 31)) &&& 1)), (2, .int ((x >>> ((3 : Int32) &&& 31)) &&& 1)), (0, .ref h), (1, .int x)]) hx hb dX0_wordOf_31 hl (by decide) rfl (fun ls hl => ?_)
    refine lv_iload_n hx hb dX0_wordOf_33 rfl (lv_at hl 5 rfl) ?_
    refine lv_iconst (v := 3) hx hb dX0_wordOf_34 (by decide) ?_
    refine lv_ishl hx hb dX0_wordOf_35 ?_
    refine lv_iload_n hx hb dX0_wordOf_36 rfl (lv_at hl 3 rfl) ?_
    refine lv_iload_n hx hb dX0_wordOf_37 rfl (lv_at hl 2 rfl) ?_
    refine lv_ixor hx hb dX0_wordOf_38 ?_
    refine lv_iload hx hb dX0_wordOf_39 (lv_at hl 0 rfl) ?_
    refine lv_ixor hx hb dX0_wordOf_41 ?_
    refine lv_iconst (v := 2) hx hb dX0_wordOf_42 (by decide) ?_
    refine lv_ishl hx hb dX0_wordOf_43 ?_
    refine lv_ior hx hb dX0_wordOf_44 ?_
    refine lv_iload_n hx hb dX0_wordOf_45 rfl (lv_at hl 3 rfl) ?_
    refine lv_iload hx hb dX0_wordOf_46 (lv_at hl 1 rfl) ?_
    refine lv_ixor hx hb dX0_wordOf_48 ?_
    refine lv_iload hx hb dX0_wordOf_49 (lv_at hl 0 rfl) ?_
    refine lv_ixor hx hb dX0_wordOf_51 ?_
    refine lv_iconst (v := 1) hx hb dX0_wordOf_52 (by decide) ?_
    refine lv_ishl hx hb dX0_wordOf_53 ?_
    refine lv_ior hx hb dX0_wordOf_54 ?_
    refine lv_iload_n hx hb dX0_wordOf_55 rfl (lv_at hl 2 rfl) ?_
    refine lv_iload hx hb dX0_wordOf_56 (lv_at hl 1 rfl) ?_
    refine lv_ixor hx hb dX0_wordOf_58 ?_
    refine lv_iload hx hb dX0_wordOf_59 (lv_at hl 0 rfl) ?_
    refine lv_ixor hx hb dX0_wordOf_61 ?_
    refine lv_ior hx hb dX0_wordOf_62 ?_
    have hres : ((((x <<< ((3 : Int32) &&& 31)) ||| (((((x >>> ((3 : Int32) &&& 31)) &&& 1) ^^^ ((x >>> ((2 : Int32) &&& 31)) &&& 1)) ^^^ (x &&& 1)) <<< ((2 : Int32) &&& 31))) ||| (((((x >>> ((3 : Int32) &&& 31)) &&& 1) ^^^ ((x >>> ((1 : Int32) &&& 31)) &&& 1)) ^^^ (x &&& 1)) <<< ((1 : Int32) &&& 31))) ||| ((((x >>> ((2 : Int32) &&& 31)) &&& 1) ^^^ ((x >>> ((1 : Int32) &&& 31)) &&& 1)) ^^^ (x &&& 1))) = zwd fm x := by rw [zwd, if_neg h2]
    exact W.iret (v := (((x <<< ((3 : Int32) &&& 31)) ||| (((((x >>> ((3 : Int32) &&& 31)) &&& 1) ^^^ ((x >>> ((2 : Int32) &&& 31)) &&& 1)) ^^^ (x &&& 1)) <<< ((2 : Int32) &&& 31))) ||| (((((x >>> ((3 : Int32) &&& 31)) &&& 1) ^^^ ((x >>> ((1 : Int32) &&& 31)) &&& 1)) ^^^ (x &&& 1)) <<< ((1 : Int32) &&& 31))) ||| ((((x >>> ((2 : Int32) &&& 31)) &&& 1) ^^^ ((x >>> ((1 : Int32) &&& 31)) &&& 1)) ^^^ (x &&& 1))) hx hb hr (fun t ht _ => ⟨congrArg (fun z => Outcome.returned (some (Value.int z))) hres, ht⟩) (fun _ h => nomatch h) dX0_wordOf_63
  · have h2 := zn_eq (b := 0) c4 (by omega) (by decide)
    refine lv_iload_n hx hb dX0_wordOf_7 rfl (lv_at hl 1 rfl) ?_
    have hres : x = zwd fm x := by rw [zwd, if_pos h2]
    exact W.iret (v := x) hx hb hr (fun t ht _ => ⟨congrArg (fun z => Outcome.returned (some (Value.int z))) hres, ht⟩) (fun _ h => nomatch h) dX0_wordOf_8
set_option maxHeartbeats 4000000 in
set_option maxRecDepth 100000 in
theorem c_J6_bitCount_0f7a4 (l : Launch) (dC : Nat → ClassId) (dI : Nat → Nat → Nat) (cI cZ cJ : ClassId) (x : Int32) : Met l yJ6_bitCount_0f7a4 wsJ6_bitCount_0f7a4 ({ frames := 0, cells := 0, slots := 0, locals := 0 }) (zc_P [.int x] (dC, dI) (zc_T cI cZ cJ) []) (zc_Q (.int (zbc x))) 0 0 (fun _ => False) := by
  refine Met.ofW (cc := cJ6_bitCount_0f7a4) (maxL := 1) (ret := (some .int)) (by decide) rfl ?_
  intro p e s m args below meth c s₁ B hml hv
  obtain ⟨rfl, hP, hK⟩ := hv
  have hx := B.exec
  have hb := B.bytes
  have hr := B.returns
  have hts := atoms_spec (ws := wsJ6_bitCount_0f7a4) B.pre
  have hown : s.vm.findClass RJ6 = some m.cls := findClass_of_methodNamed B.named
  have hlocks := B.notSynchronized
  have hl := lv_entry ([.int x]) (n := 1) (Nat.le_of_ble_eq_true rfl)
  rw [lg_entry_eq]
  generalize (lg_sl ([.int x]) ++ List.replicate (1 - (lg_sl ([.int x])).length) Slot.unset).toArray = ls at hl ⊢
  have hl : lv_has ls 1 [(0, .int x)] := hl
  refine lv_iload_n hx hb dJ6_bitCount_0f7a4_0 rfl (lv_at hl 0 rfl) ?_
  refine lv_iload_n hx hb dJ6_bitCount_0f7a4_1 rfl (lv_at hl 0 rfl) ?_
  refine lv_iconst (v := 1) hx hb dJ6_bitCount_0f7a4_2 (by decide) ?_
  refine lv_iushr hx hb dJ6_bitCount_0f7a4_3 rfl ?_
  refine lv_ldcw (v := 1431655765) hx hb hown (hts (.constant RJ6 265 1431655765) (by decide +kernel)) dJ6_bitCount_0f7a4_4 ?_
  refine lv_iand hx hb dJ6_bitCount_0f7a4_7 ?_
  refine lv_isub hx hb dJ6_bitCount_0f7a4_8 ?_
  refine zc_ti (y := zbcA x) rfl ?_
  refine lv_istore_n (lv' := [(0, .int (zbcA x))]) hx hb dJ6_bitCount_0f7a4_9 rfl hl (by decide) rfl (fun ls hl => ?_)
  refine lv_iload_n hx hb dJ6_bitCount_0f7a4_10 rfl (lv_at hl 0 rfl) ?_
  refine lv_ldcw (v := 858993459) hx hb hown (hts (.constant RJ6 266 858993459) (by decide +kernel)) dJ6_bitCount_0f7a4_11 ?_
  refine lv_iand hx hb dJ6_bitCount_0f7a4_14 ?_
  refine lv_iload_n hx hb dJ6_bitCount_0f7a4_15 rfl (lv_at hl 0 rfl) ?_
  refine lv_iconst (v := 2) hx hb dJ6_bitCount_0f7a4_16 (by decide) ?_
  refine lv_iushr hx hb dJ6_bitCount_0f7a4_17 rfl ?_
  refine lv_ldcw (v := 858993459) hx hb hown (hts (.constant RJ6 266 858993459) (by decide +kernel)) dJ6_bitCount_0f7a4_18 ?_
  refine lv_iand hx hb dJ6_bitCount_0f7a4_21 ?_
  refine lv_iadd hx hb dJ6_bitCount_0f7a4_22 ?_
  refine zc_ti (y := zbcB (zbcA x)) rfl ?_
  refine lv_istore_n (lv' := [(0, .int (zbcB (zbcA x)))]) hx hb dJ6_bitCount_0f7a4_23 rfl hl (by decide) rfl (fun ls hl => ?_)
  refine lv_iload_n hx hb dJ6_bitCount_0f7a4_24 rfl (lv_at hl 0 rfl) ?_
  refine lv_iload_n hx hb dJ6_bitCount_0f7a4_25 rfl (lv_at hl 0 rfl) ?_
  refine lv_iconst (v := 4) hx hb dJ6_bitCount_0f7a4_26 (by decide) ?_
  refine lv_iushr hx hb dJ6_bitCount_0f7a4_27 rfl ?_
  refine lv_iadd hx hb dJ6_bitCount_0f7a4_28 ?_
  refine lv_ldcw (v := 252645135) hx hb hown (hts (.constant RJ6 267 252645135) (by decide +kernel)) dJ6_bitCount_0f7a4_29 ?_
  refine lv_iand hx hb dJ6_bitCount_0f7a4_32 ?_
  refine zc_ti (y := zbcC (zbcB (zbcA x))) rfl ?_
  refine lv_istore_n (lv' := [(0, .int (zbcC (zbcB (zbcA x))))]) hx hb dJ6_bitCount_0f7a4_33 rfl hl (by decide) rfl (fun ls hl => ?_)
  refine lv_iload_n hx hb dJ6_bitCount_0f7a4_34 rfl (lv_at hl 0 rfl) ?_
  refine lv_iload_n hx hb dJ6_bitCount_0f7a4_35 rfl (lv_at hl 0 rfl) ?_
  refine lv_bipush (v := 8) hx hb dJ6_bitCount_0f7a4_36 (by decide) ?_
  refine lv_iushr hx hb dJ6_bitCount_0f7a4_38 rfl ?_
  refine lv_iadd hx hb dJ6_bitCount_0f7a4_39 ?_
  refine zc_ti (y := zbcD (zbcC (zbcB (zbcA x)))) rfl ?_
  refine lv_istore_n (lv' := [(0, .int (zbcD (zbcC (zbcB (zbcA x)))))]) hx hb dJ6_bitCount_0f7a4_40 rfl hl (by decide) rfl (fun ls hl => ?_)
  refine lv_iload_n hx hb dJ6_bitCount_0f7a4_41 rfl (lv_at hl 0 rfl) ?_
  refine lv_iload_n hx hb dJ6_bitCount_0f7a4_42 rfl (lv_at hl 0 rfl) ?_
  refine lv_bipush (v := 16) hx hb dJ6_bitCount_0f7a4_43 (by decide) ?_
  refine lv_iushr hx hb dJ6_bitCount_0f7a4_45 rfl ?_
  refine lv_iadd hx hb dJ6_bitCount_0f7a4_46 ?_
  refine zc_ti (y := zbcE (zbcD (zbcC (zbcB (zbcA x))))) rfl ?_
  refine lv_istore_n (lv' := [(0, .int (zbcE (zbcD (zbcC (zbcB (zbcA x))))))]) hx hb dJ6_bitCount_0f7a4_47 rfl hl (by decide) rfl (fun ls hl => ?_)
  refine lv_iload_n hx hb dJ6_bitCount_0f7a4_48 rfl (lv_at hl 0 rfl) ?_
  refine lv_bipush (v := 63) hx hb dJ6_bitCount_0f7a4_49 (by decide) ?_
  refine lv_iand hx hb dJ6_bitCount_0f7a4_51 ?_
  have hres : ((zbcE (zbcD (zbcC (zbcB (zbcA x))))) &&& 63) = zbc x := by rfl
  exact W.iret (v := (zbcE (zbcD (zbcC (zbcB (zbcA x))))) &&& 63) hx hb hr (fun t ht _ => ⟨congrArg (fun z => Outcome.returned (some (Value.int z))) hres, ht⟩) (fun _ h => nomatch h) dJ6_bitCount_0f7a4_52
set_option maxHeartbeats 4000000 in
set_option maxRecDepth 100000 in
theorem c_X0_mend (l : Launch) (dC : Nat → ClassId) (dI : Nat → Nat → Nat) (cI cZ cJ : ClassId) (h : Nat) (fm : Nat) (md : Int32) (o : Int32) (er : Int32) (hf : fm ≤ 2) (sz : Nat) : Met l yX0_mend wsX0_mend ({ frames := 1, cells := 0, slots := 0, locals := 25 }) (zc_PW [.ref h, .int o, .int er] (dC, dI) (zc_T cI cZ cJ) [(h, .inr (1, [.int (nI fm), .int (nI (zw fm)), .int md]))] sz) (va_Qi (fun (r : Int32) (_ : Unit) => r = (zmd fm o er 16 0).1) (fun _ t => zc_B (dC, dI) (zc_T cI cZ cJ) (va_A [(h, .inr (1, [.int (nI fm), .int (nI (zw fm)), .int md]))] sz) [(h, .inr (1, [.int (nI fm), .int (nI (zw fm)), .int (md + (zmd fm o er 16 0).2)]))] t) (va_A [(h, .inr (1, [.int (nI fm), .int (nI (zw fm)), .int md]))] sz)) 0 0 (va_A [(h, .inr (1, [.int (nI fm), .int (nI (zw fm)), .int md]))] sz) := by
  refine Met.ofW (cc := cX0_mend) (maxL := 6) (ret := (some .int)) (by decide) rfl ?_
  intro p e s m args below meth c s₁ B hml hv
  obtain ⟨rfl, hsz, hP, hK, hD0⟩ := hv
  have hx := B.exec
  have hb := B.bytes
  have hr := B.returns
  have hts := atoms_spec (ws := wsX0_mend) B.pre
  have hown : s.vm.findClass RX0 = some m.cls := findClass_of_methodNamed B.named
  have hlocks := B.notSynchronized
  subst hsz
  have hD := hD0.self (sz := s.heap.size)
  generalize hAe : va_A [(h, .inr (1, [.int (nI fm), .int (nI (zw fm)), .int md]))] s.heap.size = A at hD ⊢
  have hA : ∀ q : Nat, s.heap.size ≤ q → A q := fun q h => by rw [← hAe]; exact Or.inr h
  have hS : va_S A s.heap s.heap [] := va_S.rf
  have hinX0 : ∀ w ∈ wsX00, w ∈ wsX0_mend := by decide +kernel
  have hl := lv_entry ([.ref h, .int o, .int er]) (n := 6) (Nat.le_of_ble_eq_true rfl)
  rw [lg_entry_eq]
  generalize (lg_sl ([.ref h, .int o, .int er]) ++ List.replicate (6 - (lg_sl ([.ref h, .int o, .int er])).length) Slot.unset).toArray = ls at hl ⊢
  have hl : lv_has ls 6 [(0, .ref h), (1, .int o), (2, .int er)] := hl
  refine lv_iload_n hx hb dX0_mend_0 rfl (lv_at hl 2 rfl) ?_
  refine zc_callR (va_runS (As := [.int er]) (rest := []) ⟨hx, hb, hml, hown, hts⟩ (c_J6_bitCount_0f7a4 l dC dI cI cZ cJ er) (zc_S 1 hts ggX0_mend_J6_bitCount_0f7a4 rfl rfl rfl (by decide +kernel) (by decide +kernel) ⟨Nat.le_of_ble_eq_true rfl, Nat.le_of_ble_eq_true rfl⟩) ⟨zc_blind, zc_pay (hP.sub (ws' := []) [] rfl) hK⟩ rfl rfl hl.1 rfl (lv_room (Nat.le_of_ble_eq_true rfl)) dX0_mend_1 ⟨Nat.le_of_ble_eq_true rfl, Nat.le_of_ble_eq_true rfl⟩) ?_
  refine lv_istore_n (lv' := [(3, .int (zbc er)), (0, .ref h), (1, .int o), (2, .int er)]) hx hb dX0_mend_4 rfl hl (by decide) rfl (fun ls hl => ?_)
  refine lv_iconst (v := 0) hx hb dX0_mend_5 (by decide) ?_
  refine lv_istore (lv' := [(4, .int 0), (3, .int (zbc er)), (0, .ref h), (1, .int o), (2, .int er)]) hx hb dX0_mend_6 hl (by decide) rfl (fun ls hl => ?_)
  refine zc_loop (α := Nat × Nat) (fun (⟨k, v⟩ : Nat × Nat) ls => lv_has ls 6 [(4, .int (nI v)), (3, .int (zbc er)), (0, .ref h), (1, .int o), (2, .int er)] ∧ (v + k = 16) ∧ (zmd fm o er k v = zmd fm o er 16 0)) (fun (⟨k, v⟩ : Nat × Nat) => k) ⟨16, 0⟩ ⟨lv_sub hl [0, 1, 2, 3, 4] rfl, rfl, rfl⟩ ?_
  intro x ls hI ih8
  obtain ⟨k, v⟩ := x
  obtain ⟨hl, hi1, hi2⟩ := hI
  have hl : lv_has ls 6 [(4, .int (nI v)), (3, .int (zbc er)), (0, .ref h), (1, .int o), (2, .int er)] := hl
  try dsimp only at ih8
  refine lv_iload hx hb dX0_mend_8 (lv_at hl 0 rfl) ?_
  refine lv_bipush (v := 16) hx hb dX0_mend_10 (by decide) ?_
  refine lv_icmp_ge (tgt := 71) hx hb dX0_mend_12 (by decide) (fun c12 => ?_) (fun c12 => ?_)
  · have hk0 : k = 0 := by have := zn_le (a := 16) c12 (by decide) (by omega); omega
    rw [hk0, zmd] at hi2
    refine lv_iconst (v := (-1)) hx hb dX0_mend_71 (by decide) ?_
    have hP9 : va_P (dC, dI) vwCl [(h, .inr (1, [.int (nI fm), .int (nI (zw fm)), .int (md + (zmd fm o er 16 0).2)]))] s.heap := by rw [← hi2, Int32.add_zero]; exact hP
    have hD9 : va_D A [(h, .inr (1, [.int (nI fm), .int (nI (zw fm)), .int (md + (zmd fm o er 16 0).2)]))] := by rw [← hi2, Int32.add_zero]; exact hD
    have hres : ((-1) : Int32) = (zmd fm o er 16 0).1 := by rw [← hi2]
    exact W.iret (v := (-1)) hx hb hr (fun t ht hW => ⟨⟨_, (), rfl, hres, by rw [ht]; exact hP9, va_K.moved hW.alike hK, hD9⟩, hS.F ht⟩) hS.2.2 dX0_mend_72
  · have hk0 : 0 < k := by have := zn_nle (a := 16) c12 (by decide) (by omega); omega
    obtain ⟨k2, hk2⟩ : ∃ k2, k = k2 + 1 := ⟨k - 1, by omega⟩
    rw [hk2, zmd] at hi2
    refine lv_aload_n hx hb dX0_mend_15 rfl (lv_at hl 2 rfl) ?_
    refine lv_iload hx hb dX0_mend_16 (lv_at hl 0 rfl) ?_
    refine zc_callR (va_runV (As := [.int (nI v)]) (rest := []) ⟨hx, hb, hml, hown, hts⟩ (c_X0_wordOf l dC dI cI cZ cJ h fm md (nI v) (by first | assumption | omega)) (zc_V 1 hts ggX0_mend_X0_wordOf rfl rfl rfl (by decide +kernel) (by decide +kernel) ⟨Nat.le_of_ble_eq_true rfl, Nat.le_of_ble_eq_true rfl⟩) ⟨zc_blind, va_recv hK hP (ci := 1) (q0 := 0) rfl rfl, zc_pay (hP.sub (ws' := [(h, .inr (1, [.int (nI fm), .int (nI (zw fm)), .int md]))]) [0] rfl) hK⟩ rfl rfl hl.1 rfl (lv_room (Nat.le_of_ble_eq_true rfl)) dX0_mend_18 ⟨Nat.le_of_ble_eq_true rfl, Nat.le_of_ble_eq_true rfl⟩) ?_
    refine lv_iload_n hx hb dX0_mend_21 rfl (lv_at hl 3 rfl) ?_
    refine lv_ixor hx hb dX0_mend_22 ?_
    refine lv_iload_n hx hb dX0_mend_23 rfl (lv_at hl 4 rfl) ?_
    refine lv_iconst (v := (-1)) hx hb dX0_mend_24 (by decide) ?_
    refine lv_ixor hx hb dX0_mend_25 ?_
    refine lv_iand hx hb dX0_mend_26 ?_
    refine zc_callR (va_runS (As := [.int (((zwd fm (nI v)) ^^^ o) &&& (er ^^^ (-1)))]) (rest := []) ⟨hx, hb, hml, hown, hts⟩ (c_J6_bitCount_0f7a4 l dC dI cI cZ cJ (((zwd fm (nI v)) ^^^ o) &&& (er ^^^ (-1)))) (zc_S 1 hts ggX0_mend_J6_bitCount_0f7a4 rfl rfl rfl (by decide +kernel) (by decide +kernel) ⟨Nat.le_of_ble_eq_true rfl, Nat.le_of_ble_eq_true rfl⟩) ⟨zc_blind, zc_pay (hP.sub (ws' := []) [] rfl) hK⟩ rfl rfl hl.1 rfl (lv_room (Nat.le_of_ble_eq_true rfl)) dX0_mend_27 ⟨Nat.le_of_ble_eq_true rfl, Nat.le_of_ble_eq_true rfl⟩) ?_
    refine zc_ti (y := zoth fm o er v) rfl ?_
    refine lv_istore (lv' := [(5, .int (zoth fm o er v)), (4, .int (nI v)), (3, .int (zbc er)), (0, .ref h), (1, .int o), (2, .int er)]) hx hb dX0_mend_30 hl (by decide) rfl (fun ls hl => ?_)
    refine lv_iconst (v := 2) hx hb dX0_mend_32 (by decide) ?_
    refine lv_iload hx hb dX0_mend_33 (lv_at hl 0 rfl) ?_
    refine lv_imul hx hb dX0_mend_35 ?_
    refine lv_iload_n hx hb dX0_mend_36 rfl (lv_at hl 2 rfl) ?_
    refine lv_iadd hx hb dX0_mend_37 ?_
    refine lv_iconst (v := 2) hx hb dX0_mend_38 (by decide) ?_
    refine lv_icmp_gt (tgt := 65) hx hb dX0_mend_39 (by decide) (fun c39 => ?_) (fun c39 => ?_)
    · rw [if_neg (Int32.not_le.mpr c39)] at hi2
      refine lv_iinc (v := nI (v + 1)) (lv' := [(4, .int (nI (v + 1))), (5, .int (zoth fm o er v)), (3, .int (zbc er)), (0, .ref h), (1, .int o), (2, .int er)]) hx hb dX0_mend_65 hl (k := 1) rfl (nI_1 v) (by decide) rfl (fun ls hl => ?_)
      refine lv_goto (tgt := 8) hx hb dX0_mend_68 (by decide) ?_
      exact ih8 ⟨k2, v + 1⟩ _ (by simp only []; omega) ⟨lv_sub hl [0, 2, 3, 4, 5] rfl, by dsimp only; omega, hi2⟩
    · rw [if_pos (Int32.not_lt.mp c39)] at hi2
      refine lv_iload hx hb dX0_mend_42 (lv_at hl 1 rfl) ?_
      refine lv_bipush (v := 10) hx hb dX0_mend_44 (by decide) ?_
      refine lv_icmp_gt (tgt := 62) hx hb dX0_mend_46 (by decide) (fun c46 => ?_) (fun c46 => ?_)
      · have h10 : ¬ v ≤ 10 := by have := zn_lt (a := 10) c46 (by decide) (by omega); omega
        rw [if_neg h10] at hi2
        refine lv_iload hx hb dX0_mend_62 (lv_at hl 1 rfl) ?_
        have hP9 : va_P (dC, dI) vwCl [(h, .inr (1, [.int (nI fm), .int (nI (zw fm)), .int (md + (zmd fm o er 16 0).2)]))] s.heap := by rw [← hi2, Int32.add_zero]; exact hP
        have hD9 : va_D A [(h, .inr (1, [.int (nI fm), .int (nI (zw fm)), .int (md + (zmd fm o er 16 0).2)]))] := by rw [← hi2, Int32.add_zero]; exact hD
        have hres : (nI v) = (zmd fm o er 16 0).1 := by rw [← hi2]
        exact W.iret (v := nI v) hx hb hr (fun t ht hW => ⟨⟨_, (), rfl, hres, by rw [ht]; exact hP9, va_K.moved hW.alike hK, hD9⟩, hS.F ht⟩) hS.2.2 dX0_mend_64
      · have h10 : v ≤ 10 := by have := zn_nlt (a := 10) c46 (by decide) (by omega); omega
        rw [if_pos h10] at hi2
        refine lv_aload_n hx hb dX0_mend_49 rfl (lv_at hl 3 rfl) ?_
        refine lv_dup hx hb dX0_mend_50 rfl ?_
        refine va_get (D := (dC, dI)) (ci := 1) (v := .int md) (C := RX0) (T := TX0) (N := 3) hx hb hts hinX0 hown hK hP 0 rfl rfl 2 (by decide) (hts (.fieldLink RX0 18 "ScanCodes$Coder" "mended" "I") (by decide +kernel)) (fun _ h9 => h9) rfl dX0_mend_51 ?_
        refine lv_iload hx hb dX0_mend_54 (lv_at hl 0 rfl) ?_
        refine lv_iload_n hx hb dX0_mend_56 rfl (lv_at hl 2 rfl) ?_
        refine lv_iadd hx hb dX0_mend_57 ?_
        refine lv_iadd hx hb dX0_mend_58 ?_
        refine va_put (D := (dC, dI)) (ci := 1) (v := .int (md + ((zoth fm o er v) + (zbc er)))) (ty := .int) (C := RX0) (T := TX0) (N := 3) hx hb hts hinX0 tyX0 tyX0_ok nmX0 hown hK hP hD hS 0 rfl rfl 2 (by decide) (hts (.fieldLink RX0 18 "ScanCodes$Coder" "mended" "I") (by decide +kernel)) (fun _ h9 => h9) rfl (by decide +kernel) rfl rfl (Nat.le_of_ble_eq_true rfl) dX0_mend_59 (fun H locs hP hD hS => ?_)
        have hP : va_P (dC, dI) vwCl [(h, .inr (1, [.int (nI fm), .int (nI (zw fm)), .int (md + ((zoth fm o er v) + (zbc er)))]))] H := hP
        have hD : va_D A [(h, .inr (1, [.int (nI fm), .int (nI (zw fm)), .int (md + ((zoth fm o er v) + (zbc er)))]))] := hD
        refine lv_iload hx hb dX0_mend_62 (lv_at hl 1 rfl) ?_
        have hP9 : va_P (dC, dI) vwCl [(h, .inr (1, [.int (nI fm), .int (nI (zw fm)), .int (md + (zmd fm o er 16 0).2)]))] H := by rw [← hi2]; exact hP
        have hD9 : va_D A [(h, .inr (1, [.int (nI fm), .int (nI (zw fm)), .int (md + (zmd fm o er 16 0).2)]))] := by rw [← hi2]; exact hD
        have hres : (nI v) = (zmd fm o er 16 0).1 := by rw [← hi2]
        exact W.iret (v := nI v) hx hb hr (fun t ht hW => ⟨⟨_, (), rfl, hres, by rw [ht]; exact hP9, va_K.moved hW.alike hK, hD9⟩, hS.F ht⟩) hS.2.2 dX0_mend_64
set_option maxHeartbeats 4000000 in
set_option maxRecDepth 100000 in
theorem c_X0_decodeSign (l : Launch) (dC : Nat → ClassId) (dI : Nat → Nat → Nat) (cI cZ cJ : ClassId) (h : Nat) (fm : Nat) (md : Int32) (mh : Nat) (ma : Nat) (mcap : Nat) (n : Nat) (f : Nat → Int32) (a : Nat) (ns : Nat) (hf : fm ≤ 2) (hmn : n ≤ mcap) (hmc : mcap < 2 ^ 31) (ha : a < ns) (hns : ns * zw fm = n) (sz : Nat) : Met l yX0_decodeSign wsX0_decodeSign ({ frames := 2, cells := 0, slots := 0, locals := 50 }) (zc_PW [.ref h, .ref mh, .int (nI a), .int (nI ns)] (dC, dI) (zc_T cI cZ cJ) [(h, .inr (1, [.int (nI fm), .int (nI (zw fm)), .int md])), (mh, .inr (4, [.ref ma, .int (nI n)])), (ma, .inl (cI, mcap, .inl f))] sz) (va_Qi (fun (r : Int32) (_ : Unit) => r = (zsg fm ns f a).1) (fun _ t => zc_B (dC, dI) (zc_T cI cZ cJ) (va_A [(h, .inr (1, [.int (nI fm), .int (nI (zw fm)), .int md])), (mh, .inr (4, [.ref ma, .int (nI n)])), (ma, .inl (cI, mcap, .inl f))] sz) [(h, .inr (1, [.int (nI fm), .int (nI (zw fm)), .int (md + (zsg fm ns f a).2)])), (mh, .inr (4, [.ref ma, .int (nI n)])), (ma, .inl (cI, mcap, .inl f))] t) (va_A [(h, .inr (1, [.int (nI fm), .int (nI (zw fm)), .int md])), (mh, .inr (4, [.ref ma, .int (nI n)])), (ma, .inl (cI, mcap, .inl f))] sz)) 0 0 (va_A [(h, .inr (1, [.int (nI fm), .int (nI (zw fm)), .int md])), (mh, .inr (4, [.ref ma, .int (nI n)])), (ma, .inl (cI, mcap, .inl f))] sz) := by
  refine Met.ofW (cc := cX0_decodeSign) (maxL := 8) (ret := (some .int)) (by decide) rfl ?_
  intro p e s m args below meth c s₁ B hml hv
  obtain ⟨rfl, hsz, hP, hK, hD0⟩ := hv
  have hx := B.exec
  have hb := B.bytes
  have hr := B.returns
  have hts := atoms_spec (ws := wsX0_decodeSign) B.pre
  have hown : s.vm.findClass RX0 = some m.cls := findClass_of_methodNamed B.named
  have hlocks := B.notSynchronized
  subst hsz
  have hD := hD0.self (sz := s.heap.size)
  generalize hAe : va_A [(h, .inr (1, [.int (nI fm), .int (nI (zw fm)), .int md])), (mh, .inr (4, [.ref ma, .int (nI n)])), (ma, .inl (cI, mcap, .inl f))] s.heap.size = A at hD ⊢
  have hA : ∀ q : Nat, s.heap.size ≤ q → A q := fun q h => by rw [← hAe]; exact Or.inr h
  have hS : va_S A s.heap s.heap [] := va_S.rf
  have hinX0 : ∀ w ∈ wsX00, w ∈ wsX0_decodeSign := by decide +kernel
  have hl := lv_entry ([.ref h, .ref mh, .int (nI a), .int (nI ns)]) (n := 8) (Nat.le_of_ble_eq_true rfl)
  rw [lg_entry_eq]
  generalize (lg_sl ([.ref h, .ref mh, .int (nI a), .int (nI ns)]) ++ List.replicate (8 - (lg_sl ([.ref h, .ref mh, .int (nI a), .int (nI ns)])).length) Slot.unset).toArray = ls at hl ⊢
  have hl : lv_has ls 8 [(0, .ref h), (1, .ref mh), (2, .int (nI a)), (3, .int (nI ns))] := hl
  refine lv_iconst (v := 0) hx hb dX0_decodeSign_0 (by decide) ?_
  refine lv_istore (lv' := [(4, .int 0), (0, .ref h), (1, .ref mh), (2, .int (nI a)), (3, .int (nI ns))]) hx hb dX0_decodeSign_1 hl (by decide) rfl (fun ls hl => ?_)
  refine lv_iconst (v := 0) hx hb dX0_decodeSign_3 (by decide) ?_
  refine lv_istore (lv' := [(5, .int 0), (4, .int 0), (0, .ref h), (1, .ref mh), (2, .int (nI a)), (3, .int (nI ns))]) hx hb dX0_decodeSign_4 hl (by decide) rfl (fun ls hl => ?_)
  refine lv_iconst (v := 0) hx hb dX0_decodeSign_6 (by decide) ?_
  refine lv_istore (lv' := [(6, .int 0), (5, .int 0), (4, .int 0), (0, .ref h), (1, .ref mh), (2, .int (nI a)), (3, .int (nI ns))]) hx hb dX0_decodeSign_7 hl (by decide) rfl (fun ls hl => ?_)
  refine zc_loop (α := Nat) (fun k ls => lv_has ls 8 [(6, .int (nI k)), (5, .int (zer fm ns f a k)), (4, .int (zone fm ns f a k)), (0, .ref h), (1, .ref mh), (2, .int (nI a)), (3, .int (nI ns))] ∧ (k ≤ zw fm)) (fun k => zw fm - k) 0 ⟨lv_sub hl [0, 1, 2, 3, 4, 5, 6] rfl, Nat.zero_le _⟩ ?_
  intro x ls hI ih9
  obtain ⟨k, rfl⟩ : ∃ z, z = x := ⟨_, rfl⟩
  obtain ⟨hl, hi1⟩ := hI
  have hl : lv_has ls 8 [(6, .int (nI k)), (5, .int (zer fm ns f a k)), (4, .int (zone fm ns f a k)), (0, .ref h), (1, .ref mh), (2, .int (nI a)), (3, .int (nI ns))] := hl
  try dsimp only at ih9
  refine lv_iload hx hb dX0_decodeSign_9 (lv_at hl 0 rfl) ?_
  refine lv_aload_n hx hb dX0_decodeSign_11 rfl (lv_at hl 3 rfl) ?_
  refine va_get (D := (dC, dI)) (ci := 1) (v := .int (nI (zw fm))) (C := RX0) (T := TX0) (N := 3) hx hb hts hinX0 hown hK hP 0 rfl rfl 1 (by decide) (hts (.fieldLink RX0 15 "ScanCodes$Coder" "width" "I") (by decide +kernel)) (fun _ h9 => h9) rfl dX0_decodeSign_12 ?_
  refine lv_icmp_ge (tgt := 74) hx hb dX0_decodeSign_15 (by decide) (fun c15 => ?_) (fun c15 => ?_)
  · have hge := zn_le c15 (by have := zw_le fm; omega) (by have := zw_le fm; omega)
    have hkw : k = zw fm := by omega
    refine lv_aload_n hx hb dX0_decodeSign_74 rfl (lv_at hl 3 rfl) ?_
    refine va_get (D := (dC, dI)) (ci := 1) (v := .int (nI fm)) (C := RX0) (T := TX0) (N := 3) hx hb hts hinX0 hown hK hP 0 rfl rfl 0 (by decide) (hts (.fieldLink RX0 9 "ScanCodes$Coder" "form" "I") (by decide +kernel)) (fun _ h9 => h9) rfl dX0_decodeSign_75 ?_
    refine lv_if_ne (tgt := 93) hx hb dX0_decodeSign_78 (by decide) (fun c78 => ?_) (fun c78 => ?_)
    · have h2 := zn_ne (b := 0) c78 (by omega) (by decide)
      rw [hkw] at hl
      refine lv_aload_n hx hb dX0_decodeSign_93 rfl (lv_at hl 3 rfl) ?_
      refine lv_iload hx hb dX0_decodeSign_94 (lv_at hl 2 rfl) ?_
      refine lv_iload hx hb dX0_decodeSign_96 (lv_at hl 1 rfl) ?_
      have ez : zsg fm ns f a = zmd fm (zone fm ns f a (zw fm)) (zer fm ns f a (zw fm)) 16 0 := by rw [zsg, if_neg h2]
      have hPc := hP.sub (ws' := [(h, .inr (1, [.int (nI fm), .int (nI (zw fm)), .int md]))]) [0] rfl
      have hDc := hD.sub (ws' := [(h, .inr (1, [.int (nI fm), .int (nI (zw fm)), .int md]))]) [0] (by decide) rfl
      have hFc := va_free (wc := [(h, .inr (1, [.int (nI fm), .int (nI (zw fm)), .int md]))]) hD hS hA [0] rfl
      refine va_calli (va_runV (As := [.int (zone fm ns f a (zw fm)), .int (zer fm ns f a (zw fm))]) (rest := []) ⟨hx, hb, hml, hown, hts⟩ (c_X0_mend l dC dI cI cZ cJ h fm md (zone fm ns f a (zw fm)) (zer fm ns f a (zw fm)) (by first | assumption | omega) s.heap.size) (zc_V 2 hts ggX0_decodeSign_X0_mend rfl rfl rfl (by decide +kernel) (by decide +kernel) ⟨Nat.le_of_ble_eq_true rfl, Nat.le_of_ble_eq_true rfl⟩) ⟨zc_blindW, va_recv hK hP (ci := 1) (q0 := 0) rfl rfl, zc_payW hPc hK hDc⟩ rfl rfl hl.1 rfl (lv_room (Nat.le_of_ble_eq_true rfl)) dX0_decodeSign_98 ⟨Nat.le_of_ble_eq_true rfl, Nat.le_of_ble_eq_true rfl⟩) hS (fun q _ h => hFc q h) hFc (fun r98 uu t H1 locs ht hvm hw hB hz1 hk1 hS => ?_)
      obtain ⟨hP1, hK1, hD1⟩ := hB
      rw [ht] at hP1
      try dsimp only at hw
      subst hw
      obtain ⟨hP, hD⟩ := va_join (wr := [(mh, .inr (4, [.ref ma, .int (nI n)])), (ma, .inl (cI, mcap, .inl f))]) (w1 := [(h, .inr (1, [.int (nI fm), .int (nI (zw fm)), .int (md + (zmd fm (zone fm ns f a (zw fm)) (zer fm ns f a (zw fm)) 16 0).2)]))]) hP hD [0] [1, 2] rfl rfl (by decide) (by decide) hk1 hFc hP1 hD1
      generalize H1 = H at hP hS ⊢
      have hP := hP.sub (ws' := [(h, .inr (1, [.int (nI fm), .int (nI (zw fm)), .int (md + (zmd fm (zone fm ns f a (zw fm)) (zer fm ns f a (zw fm)) 16 0).2)])), (mh, .inr (4, [.ref ma, .int (nI n)])), (ma, .inl (cI, mcap, .inl f))]) [2, 0, 1] rfl
      have hD := hD.sub (ws' := [(h, .inr (1, [.int (nI fm), .int (nI (zw fm)), .int (md + (zmd fm (zone fm ns f a (zw fm)) (zer fm ns f a (zw fm)) 16 0).2)])), (mh, .inr (4, [.ref ma, .int (nI n)])), (ma, .inl (cI, mcap, .inl f))]) [2, 0, 1] (by decide) rfl
      have hP9 : va_P (dC, dI) vwCl [(h, .inr (1, [.int (nI fm), .int (nI (zw fm)), .int (md + (zsg fm ns f a).2)])), (mh, .inr (4, [.ref ma, .int (nI n)])), (ma, .inl (cI, mcap, .inl f))] H := by rw [ez]; exact hP
      have hD9 : va_D A [(h, .inr (1, [.int (nI fm), .int (nI (zw fm)), .int (md + (zsg fm ns f a).2)])), (mh, .inr (4, [.ref ma, .int (nI n)])), (ma, .inl (cI, mcap, .inl f))] := by rw [ez]; exact hD
      have hres : ((zmd fm (zone fm ns f a (zw fm)) (zer fm ns f a (zw fm)) 16 0).1) = (zsg fm ns f a).1 := by rw [ez]
      exact W.iret (v := (zmd fm (zone fm ns f a (zw fm)) (zer fm ns f a (zw fm)) 16 0).1) hx hb hr (fun t ht hW => ⟨⟨_, (), rfl, hres, by rw [ht]; exact hP9, va_K.moved hW.alike hK, hD9⟩, hS.F ht⟩) hS.2.2 dX0_decodeSign_101
    · have h2 := zn_eq (b := 0) c78 (by omega) (by decide)
      rw [hkw] at hl
      refine lv_iload hx hb dX0_decodeSign_81 (lv_at hl 1 rfl) ?_
      refine lv_if_ne (tgt := 91) hx hb dX0_decodeSign_83 (by decide) (fun c83 => ?_) (fun c83 => ?_)
      · have ez : zsg fm ns f a = (-1, 0) := by rw [zsg, if_pos h2, if_neg c83]
        refine lv_iconst (v := (-1)) hx hb dX0_decodeSign_91 (by decide) ?_
        have hP9 : va_P (dC, dI) vwCl [(h, .inr (1, [.int (nI fm), .int (nI (zw fm)), .int (md + (zsg fm ns f a).2)])), (mh, .inr (4, [.ref ma, .int (nI n)])), (ma, .inl (cI, mcap, .inl f))] s.heap := by rw [ez, Int32.add_zero]; exact hP
        have hD9 : va_D A [(h, .inr (1, [.int (nI fm), .int (nI (zw fm)), .int (md + (zsg fm ns f a).2)])), (mh, .inr (4, [.ref ma, .int (nI n)])), (ma, .inl (cI, mcap, .inl f))] := by rw [ez, Int32.add_zero]; exact hD
        have hres : ((-1) : Int32) = (zsg fm ns f a).1 := by rw [ez]
        exact W.iret (v := (-1)) hx hb hr (fun t ht hW => ⟨⟨_, (), rfl, hres, by rw [ht]; exact hP9, va_K.moved hW.alike hK, hD9⟩, hS.F ht⟩) hS.2.2 dX0_decodeSign_92
      · have ez : zsg fm ns f a = (zone fm ns f a (zw fm), 0) := by rw [zsg, if_pos h2, if_pos c83]
        refine lv_iload hx hb dX0_decodeSign_86 (lv_at hl 2 rfl) ?_
        refine lv_goto (tgt := 92) hx hb dX0_decodeSign_88 (by decide) ?_
        have hP9 : va_P (dC, dI) vwCl [(h, .inr (1, [.int (nI fm), .int (nI (zw fm)), .int (md + (zsg fm ns f a).2)])), (mh, .inr (4, [.ref ma, .int (nI n)])), (ma, .inl (cI, mcap, .inl f))] s.heap := by rw [ez, Int32.add_zero]; exact hP
        have hD9 : va_D A [(h, .inr (1, [.int (nI fm), .int (nI (zw fm)), .int (md + (zsg fm ns f a).2)])), (mh, .inr (4, [.ref ma, .int (nI n)])), (ma, .inl (cI, mcap, .inl f))] := by rw [ez, Int32.add_zero]; exact hD
        have hres : (zone fm ns f a (zw fm)) = (zsg fm ns f a).1 := by rw [ez]
        exact W.iret (v := zone fm ns f a (zw fm)) hx hb hr (fun t ht hW => ⟨⟨_, (), rfl, hres, by rw [ht]; exact hP9, va_K.moved hW.alike hK, hD9⟩, hS.F ht⟩) hS.2.2 dX0_decodeSign_92
  · have hlt := zn_nle c15 (by have := zw_le fm; omega) (by have := zw_le fm; omega)
    have hpl := zpl_lt ha hlt
    refine lv_aload_n hx hb dX0_decodeSign_18 rfl (lv_at hl 4 rfl) ?_
    refine lv_aload_n hx hb dX0_decodeSign_19 rfl (lv_at hl 3 rfl) ?_
    refine lv_iload_n hx hb dX0_decodeSign_20 rfl (lv_at hl 5 rfl) ?_
    refine lv_iload hx hb dX0_decodeSign_21 (lv_at hl 0 rfl) ?_
    refine lv_iload_n hx hb dX0_decodeSign_23 rfl (lv_at hl 6 rfl) ?_
    refine zc_callR (va_runV (As := [.int (nI a), .int (nI k), .int (nI ns)]) (rest := [.ref mh]) ⟨hx, hb, hml, hown, hts⟩ (c_X0_placeOf l dC dI cI cZ cJ h fm md a k ns (by first | assumption | omega)) (zc_V 3 hts ggX0_decodeSign_X0_placeOf rfl rfl rfl (by decide +kernel) (by decide +kernel) ⟨Nat.le_of_ble_eq_true rfl, Nat.le_of_ble_eq_true rfl⟩) ⟨zc_blind, va_recv hK hP (ci := 1) (q0 := 0) rfl rfl, zc_pay (hP.sub (ws' := [(h, .inr (1, [.int (nI fm), .int (nI (zw fm)), .int md]))]) [0] rfl) hK⟩ rfl rfl hl.1 rfl (lv_room (Nat.le_of_ble_eq_true rfl)) dX0_decodeSign_24 ⟨Nat.le_of_ble_eq_true rfl, Nat.le_of_ble_eq_true rfl⟩) ?_
    refine zc_callR (va_runV (As := [.int (nI (zpl fm a k ns))]) (rest := []) ⟨hx, hb, hml, hown, hts⟩ (c_X3_at l dC dI cI cZ cJ mh ma mcap n f (nI (zpl fm a k ns)) (by first | assumption | omega) (by first | assumption | omega)) (zc_V 1 hts ggX0_decodeSign_X3_at rfl rfl rfl (by decide +kernel) (by decide +kernel) ⟨Nat.le_of_ble_eq_true rfl, Nat.le_of_ble_eq_true rfl⟩) ⟨zc_blind, va_recv hK hP (ci := 4) (q0 := 1) rfl rfl, zc_pay (hP.sub (ws' := [(mh, .inr (4, [.ref ma, .int (nI n)])), (ma, .inl (cI, mcap, .inl f))]) [1, 2] rfl) hK⟩ rfl rfl hl.1 rfl (lv_room (Nat.le_of_ble_eq_true rfl)) dX0_decodeSign_27 ⟨Nat.le_of_ble_eq_true rfl, Nat.le_of_ble_eq_true rfl⟩) ?_
    refine zc_ti (y := f (zpl fm a k ns)) (zr_at_in (by omega) (by omega)) ?_
    refine lv_istore (lv' := [(7, .int (f (zpl fm a k ns))), (6, .int (nI k)), (5, .int (zer fm ns f a k)), (4, .int (zone fm ns f a k)), (0, .ref h), (1, .ref mh), (2, .int (nI a)), (3, .int (nI ns))]) hx hb dX0_decodeSign_30 hl (by decide) rfl (fun ls hl => ?_)
    refine lv_iload hx hb dX0_decodeSign_32 (lv_at hl 3 rfl) ?_
    refine lv_iconst (v := 2) hx hb dX0_decodeSign_34 (by decide) ?_
    refine lv_imul hx hb dX0_decodeSign_35 ?_
    refine lv_iload hx hb dX0_decodeSign_36 (lv_at hl 0 rfl) ?_
    refine lv_iconst (v := 1) hx hb dX0_decodeSign_38 (by decide) ?_
    refine lv_icmp_ne (tgt := 46) hx hb dX0_decodeSign_39 (by decide) (fun c39 => ?_) (fun c39 => ?_)
    · refine lv_iconst (v := 0) hx hb dX0_decodeSign_46 (by decide) ?_
      refine lv_iadd hx hb dX0_decodeSign_47 ?_
      refine zc_ti (y := zone fm ns f a (k + 1)) (by rw [zone, if_neg c39]) ?_
      refine lv_istore (lv' := [(4, .int (zone fm ns f a (k + 1))), (7, .int (f (zpl fm a k ns))), (6, .int (nI k)), (5, .int (zer fm ns f a k)), (0, .ref h), (1, .ref mh), (2, .int (nI a)), (3, .int (nI ns))]) hx hb dX0_decodeSign_48 hl (by decide) rfl (fun ls hl => ?_)
      refine lv_iload hx hb dX0_decodeSign_50 (lv_at hl 3 rfl) ?_
      refine lv_iconst (v := 2) hx hb dX0_decodeSign_52 (by decide) ?_
      refine lv_imul hx hb dX0_decodeSign_53 ?_
      refine lv_iload hx hb dX0_decodeSign_54 (lv_at hl 1 rfl) ?_
      refine lv_iconst (v := 2) hx hb dX0_decodeSign_56 (by decide) ?_
      refine lv_icmp_ne (tgt := 64) hx hb dX0_decodeSign_57 (by decide) (fun c57 => ?_) (fun c57 => ?_)
      · refine lv_iconst (v := 0) hx hb dX0_decodeSign_64 (by decide) ?_
        refine lv_iadd hx hb dX0_decodeSign_65 ?_
        refine zc_ti (y := zer fm ns f a (k + 1)) (by rw [zer, if_neg c57]) ?_
        refine lv_istore (lv' := [(5, .int (zer fm ns f a (k + 1))), (4, .int (zone fm ns f a (k + 1))), (7, .int (f (zpl fm a k ns))), (6, .int (nI k)), (0, .ref h), (1, .ref mh), (2, .int (nI a)), (3, .int (nI ns))]) hx hb dX0_decodeSign_66 hl (by decide) rfl (fun ls hl => ?_)
        refine lv_iinc (v := nI (k + 1)) (lv' := [(6, .int (nI (k + 1))), (5, .int (zer fm ns f a (k + 1))), (4, .int (zone fm ns f a (k + 1))), (7, .int (f (zpl fm a k ns))), (0, .ref h), (1, .ref mh), (2, .int (nI a)), (3, .int (nI ns))]) hx hb dX0_decodeSign_68 hl (k := 3) rfl (nI_1 k) (by decide) rfl (fun ls hl => ?_)
        refine lv_goto (tgt := 9) hx hb dX0_decodeSign_71 (by decide) ?_
        exact ih9 (k + 1) _ (by omega) ⟨lv_sub hl [0, 1, 2, 4, 5, 6, 7] rfl, hlt⟩
      · refine lv_iconst (v := 1) hx hb dX0_decodeSign_60 (by decide) ?_
        refine lv_goto (tgt := 65) hx hb dX0_decodeSign_61 (by decide) ?_
        refine lv_iadd hx hb dX0_decodeSign_65 ?_
        refine zc_ti (y := zer fm ns f a (k + 1)) (by rw [zer, if_pos c57]) ?_
        refine lv_istore (lv' := [(5, .int (zer fm ns f a (k + 1))), (4, .int (zone fm ns f a (k + 1))), (7, .int (f (zpl fm a k ns))), (6, .int (nI k)), (0, .ref h), (1, .ref mh), (2, .int (nI a)), (3, .int (nI ns))]) hx hb dX0_decodeSign_66 hl (by decide) rfl (fun ls hl => ?_)
        refine lv_iinc (v := nI (k + 1)) (lv' := [(6, .int (nI (k + 1))), (5, .int (zer fm ns f a (k + 1))), (4, .int (zone fm ns f a (k + 1))), (7, .int (f (zpl fm a k ns))), (0, .ref h), (1, .ref mh), (2, .int (nI a)), (3, .int (nI ns))]) hx hb dX0_decodeSign_68 hl (k := 3) rfl (nI_1 k) (by decide) rfl (fun ls hl => ?_)
        refine lv_goto (tgt := 9) hx hb dX0_decodeSign_71 (by decide) ?_
        exact ih9 (k + 1) _ (by omega) ⟨lv_sub hl [0, 1, 2, 4, 5, 6, 7] rfl, hlt⟩
    · refine lv_iconst (v := 1) hx hb dX0_decodeSign_42 (by decide) ?_
      refine lv_goto (tgt := 47) hx hb dX0_decodeSign_43 (by decide) ?_
      refine lv_iadd hx hb dX0_decodeSign_47 ?_
      refine zc_ti (y := zone fm ns f a (k + 1)) (by rw [zone, if_pos c39]) ?_
      refine lv_istore (lv' := [(4, .int (zone fm ns f a (k + 1))), (7, .int (f (zpl fm a k ns))), (6, .int (nI k)), (5, .int (zer fm ns f a k)), (0, .ref h), (1, .ref mh), (2, .int (nI a)), (3, .int (nI ns))]) hx hb dX0_decodeSign_48 hl (by decide) rfl (fun ls hl => ?_)
      refine lv_iload hx hb dX0_decodeSign_50 (lv_at hl 3 rfl) ?_
      refine lv_iconst (v := 2) hx hb dX0_decodeSign_52 (by decide) ?_
      refine lv_imul hx hb dX0_decodeSign_53 ?_
      refine lv_iload hx hb dX0_decodeSign_54 (lv_at hl 1 rfl) ?_
      refine lv_iconst (v := 2) hx hb dX0_decodeSign_56 (by decide) ?_
      refine lv_icmp_ne (tgt := 64) hx hb dX0_decodeSign_57 (by decide) (fun c57 => ?_) (fun c57 => ?_)
      · refine lv_iconst (v := 0) hx hb dX0_decodeSign_64 (by decide) ?_
        refine lv_iadd hx hb dX0_decodeSign_65 ?_
        refine zc_ti (y := zer fm ns f a (k + 1)) (by rw [zer, if_neg c57]) ?_
        refine lv_istore (lv' := [(5, .int (zer fm ns f a (k + 1))), (4, .int (zone fm ns f a (k + 1))), (7, .int (f (zpl fm a k ns))), (6, .int (nI k)), (0, .ref h), (1, .ref mh), (2, .int (nI a)), (3, .int (nI ns))]) hx hb dX0_decodeSign_66 hl (by decide) rfl (fun ls hl => ?_)
        refine lv_iinc (v := nI (k + 1)) (lv' := [(6, .int (nI (k + 1))), (5, .int (zer fm ns f a (k + 1))), (4, .int (zone fm ns f a (k + 1))), (7, .int (f (zpl fm a k ns))), (0, .ref h), (1, .ref mh), (2, .int (nI a)), (3, .int (nI ns))]) hx hb dX0_decodeSign_68 hl (k := 3) rfl (nI_1 k) (by decide) rfl (fun ls hl => ?_)
        refine lv_goto (tgt := 9) hx hb dX0_decodeSign_71 (by decide) ?_
        exact ih9 (k + 1) _ (by omega) ⟨lv_sub hl [0, 1, 2, 4, 5, 6, 7] rfl, hlt⟩
      · refine lv_iconst (v := 1) hx hb dX0_decodeSign_60 (by decide) ?_
        refine lv_goto (tgt := 65) hx hb dX0_decodeSign_61 (by decide) ?_
        refine lv_iadd hx hb dX0_decodeSign_65 ?_
        refine zc_ti (y := zer fm ns f a (k + 1)) (by rw [zer, if_pos c57]) ?_
        refine lv_istore (lv' := [(5, .int (zer fm ns f a (k + 1))), (4, .int (zone fm ns f a (k + 1))), (7, .int (f (zpl fm a k ns))), (6, .int (nI k)), (0, .ref h), (1, .ref mh), (2, .int (nI a)), (3, .int (nI ns))]) hx hb dX0_decodeSign_66 hl (by decide) rfl (fun ls hl => ?_)
        refine lv_iinc (v := nI (k + 1)) (lv' := [(6, .int (nI (k + 1))), (5, .int (zer fm ns f a (k + 1))), (4, .int (zone fm ns f a (k + 1))), (7, .int (f (zpl fm a k ns))), (0, .ref h), (1, .ref mh), (2, .int (nI a)), (3, .int (nI ns))]) hx hb dX0_decodeSign_68 hl (k := 3) rfl (nI_1 k) (by decide) rfl (fun ls hl => ?_)
        refine lv_goto (tgt := 9) hx hb dX0_decodeSign_71 (by decide) ?_
        exact ih9 (k + 1) _ (by omega) ⟨lv_sub hl [0, 1, 2, 4, 5, 6, 7] rfl, hlt⟩
