/-! ScanCodes: what its own methods compute. -/
def zdoA : Nat → Int64 → Int32 → Int32
  | 0, _, d => d
  | k + 1, r, d => if r = 0 then d else zdoA k (r / 10) (d + 1)
def zdo (v : Int64) : Int32 := zdoA 19 (v / 10) 1
/-- field j's prefix has another station -/
def zstr (S fp : Nat → Int32) (sta : Int32) (j : Nat) : Prop := ¬ S (fp j).toNatClampNeg = -1 ∧ ¬ S (fp j).toNatClampNeg = sta
noncomputable def zstrF (S fp : Nat → Int32) (sta : Int32) (fc : Nat) : Nat := zfirst (zstr S fp sta) fc 0
/-- the signs of a label that is written, i fields of them: how many, which -/
def zdg (wg : Nat → Int32) (i : Nat) : Nat := (wg i).toNatClampNeg
def zsep (F wp : Nat → Int32) (wc i : Nat) : Prop := i + 1 < wc ∧ F (wp i).toNatClampNeg = 0
noncomputable def zwn (F wp wg : Nat → Int32) (wc : Nat) : Nat → Nat
  | 0 => 0
  | i + 1 => zwn F wp wg wc i + 2 + zdg wg i + zi (zsep F wp wc i) 1 0
noncomputable def zwr (F wp wg : Nat → Int32) (wv : Nat → Int64) (wc : Nat) (sf : Nat → Int32) : Nat → Nat → Int32
  | 0 => sf
  | i + 1 => zi (zsep F wp wc i) (upd (zr_an (zr_an (zwr F wp wg wv wc sf i) (zwn F wp wg wc i) 2 (wp i).toInt64) (zwn F wp wg wc i + 2) (zdg wg i) (wv i)) (zwn F wp wg wc i + 2 + zdg wg i) 10) (zr_an (zr_an (zwr F wp wg wv wc sf i) (zwn F wp wg wc i) 2 (wp i).toInt64) (zwn F wp wg wc i + 2) (zdg wg i) (wv i))
theorem zwn_le (F wp wg : Nat → Int32) (wc : Nat) (h : ∀ j, j < wc → zdg wg j ≤ 12) : ∀ i, i ≤ wc → zwn F wp wg wc i ≤ 15 * i := by
  intro i
  induction i with
  | zero => intro _; exact Nat.le_refl _
  | succ i ih =>
    intro hi
    rw [zwn]
    have h1 := ih (by omega)
    have h2 := h i (by omega)
    by_cases hs : zsep F wp wc i
    · rw [zi_t hs]; omega
    · rw [zi_f hs]; omega
theorem zwr_f {F wp wg : Nat → Int32} {wv : Nat → Int64} {wc : Nat} {sf : Nat → Int32} {i : Nat} (h : ¬ zsep F wp wc i) : zwr F wp wg wv wc sf (i + 1) = zr_an (zr_an (zwr F wp wg wv wc sf i) (zwn F wp wg wc i) 2 (wp i).toInt64) (zwn F wp wg wc i + 2) (zdg wg i) (wv i) := by rw [zwr, zi_f h]
theorem zwr_t {F wp wg : Nat → Int32} {wv : Nat → Int64} {wc : Nat} {sf : Nat → Int32} {i : Nat} (h : zsep F wp wc i) : zwr F wp wg wv wc sf (i + 1) = upd (zr_an (zr_an (zwr F wp wg wv wc sf i) (zwn F wp wg wc i) 2 (wp i).toInt64) (zwn F wp wg wc i + 2) (zdg wg i) (wv i)) (zwn F wp wg wc i + 2 + zdg wg i) 10 := by rw [zwr, zi_t h]
/-- the written fields are good ones -/
def zwk (L wp wg : Nat → Int32) (wc : Nat) : Prop := ∀ j, j < wc → zp_has L (wp j) ∧ wg j = nI (zdg wg j) ∧ zdg wg j ≤ 12
theorem zn_out8 {x : Int32} (h : ∀ k, k < 8 → ¬ x = nI k) : x.toInt < 0 ∨ 7 < x.toInt := by
  rcases Int.lt_or_le x.toInt 0 with q | q
  · exact Or.inl q
  · refine Or.inr (Classical.byContradiction (fun z => ?_))
    have h1 : x.toInt.toNat < 8 := by omega
    refine h _ h1 ?_
    apply Int32.toInt_inj.mp
    rw [nI_toInt (by omega)]
    omega

set_option maxHeartbeats 4000000 in
set_option maxRecDepth 100000 in
theorem c_X6_mended (l : Launch) (dC : Nat → ClassId) (dI : Nat → Nat → Nat) (cI cZ cJ : ClassId) (h : Nat) (ch : Nat) (ph : Nat) (wh : Nat) (mh : Nat) (rh : Nat) (th : Nat) (sh : Nat) (kh : Nat) (lh : Nat) (mm : Int32) (lsec : Int32) : Met l yX6_mended wsX6_mended ({ frames := 0, cells := 0, slots := 0, locals := 0 }) (zc_P [.ref h] (dC, dI) (zc_T cI cZ cJ) [(h, .inr (7, [.ref ch, .ref ph, .ref wh, .ref mh, .ref rh, .ref th, .ref sh, .ref kh, .ref lh, .int mm, .int lsec]))]) (zc_Q (.int mm)) 0 0 (fun _ => False) := by
  refine Met.ofW (cc := cX6_mended) (maxL := 1) (ret := (some .int)) (by decide) rfl ?_
  intro p e s m args below meth c s₁ B hml hv
  obtain ⟨rfl, hP, hK⟩ := hv
  have hx := B.exec
  have hb := B.bytes
  have hr := B.returns
  have hts := atoms_spec (ws := wsX6_mended) B.pre
  have hown : s.vm.findClass RX6 = some m.cls := findClass_of_methodNamed B.named
  have hlocks := B.notSynchronized
  have hinX6 : ∀ w ∈ wsX60, w ∈ wsX6_mended := by decide +kernel
  have hl := lv_entry ([.ref h]) (n := 1) (Nat.le_of_ble_eq_true rfl)
  rw [lg_entry_eq]
  generalize (lg_sl ([.ref h]) ++ List.replicate (1 - (lg_sl ([.ref h])).length) Slot.unset).toArray = ls at hl ⊢
  have hl : lv_has ls 1 [(0, .ref h)] := hl
  refine lv_aload_n hx hb dX6_mended_0 rfl (lv_at hl 0 rfl) ?_
  refine va_get (D := (dC, dI)) (ci := 7) (v := .int mm) (C := RX6) (T := TX6) (N := 11) hx hb hts hinX6 hown hK hP 0 rfl rfl 9 (by decide) (hts (.fieldLink RX6 73 "ScanCodes" "mendedModules" "I") (by decide +kernel)) (fun _ h9 => h9) rfl dX6_mended_1 ?_
  have hres : mm = mm := by rfl
  exact W.iret (v := mm) hx hb hr (fun t ht _ => ⟨congrArg (fun z => Outcome.returned (some (Value.int z))) hres, ht⟩) (fun _ h => nomatch h) dX6_mended_4
set_option maxHeartbeats 4000000 in
set_option maxRecDepth 100000 in
theorem c_X6_digitsOf (l : Launch) (dC : Nat → ClassId) (dI : Nat → Nat → Nat) (cI cZ cJ : ClassId) (v : Int64) : Met l yX6_digitsOf wsX6_digitsOf ({ frames := 0, cells := 0, slots := 0, locals := 0 }) (zc_P [.long v] (dC, dI) (zc_T cI cZ cJ) []) (zc_Q (.int (zdo v))) 0 0 (fun _ => False) := by
  refine Met.ofW (cc := cX6_digitsOf) (maxL := 6) (ret := (some .int)) (by decide) rfl ?_
  intro p e s m args below meth c s₁ B hml hv
  obtain ⟨rfl, hP, hK⟩ := hv
  have hx := B.exec
  have hb := B.bytes
  have hr := B.returns
  have hts := atoms_spec (ws := wsX6_digitsOf) B.pre
  have hown : s.vm.findClass RX6 = some m.cls := findClass_of_methodNamed B.named
  have hlocks := B.notSynchronized
  have hl := lv_entry ([.long v]) (n := 6) (Nat.le_of_ble_eq_true rfl)
  rw [lg_entry_eq]
  generalize (lg_sl ([.long v]) ++ List.replicate (6 - (lg_sl ([.long v])).length) Slot.unset).toArray = ls at hl ⊢
  have hl : lv_has ls 6 [(0, .long v)] := hl
  refine lv_iconst (v := 1) hx hb dX6_digitsOf_0 (by decide) ?_
  refine lv_istore_n (lv' := [(2, .int 1), (0, .long v)]) hx hb dX6_digitsOf_1 rfl hl (by decide) rfl (fun ls hl => ?_)
  refine lv_lload_n hx hb dX6_digitsOf_2 rfl (lv_at hl 1 rfl) ?_
  refine lv_ldc2 (v := 10) hx hb hown (hts (.constantLong RX6 258 10) (by decide +kernel)) dX6_digitsOf_3 ?_
  refine lv_ldiv hx hb dX6_digitsOf_6 (by decide) ?_
  refine lv_lstore_n (lv' := [(3, .long (v / 10)), (2, .int 1), (0, .long v)]) hx hb dX6_digitsOf_7 rfl hl (by decide) rfl (fun ls hl => ?_)
  refine lv_iconst (v := 0) hx hb dX6_digitsOf_8 (by decide) ?_
  refine lv_istore (lv' := [(5, .int 0), (3, .long (v / 10)), (2, .int 1), (0, .long v)]) hx hb dX6_digitsOf_9 hl (by decide) rfl (fun ls hl => ?_)
  refine zc_loop (α := Nat × Int64 × Int32) (fun (⟨k, q, dd⟩ : Nat × Int64 × Int32) ls => lv_has ls 6 [(5, .int (nI (19 - k))), (3, .long q), (2, .int dd), (0, .long v)] ∧ (k ≤ 19) ∧ (zdoA k q dd = zdo v)) (fun (⟨k, q, dd⟩ : Nat × Int64 × Int32) => k) ⟨19, v / 10, 1⟩ ⟨lv_sub hl [0, 1, 2, 3] rfl, Nat.le_refl _, rfl⟩ ?_
  intro x ls hI ih11
  obtain ⟨k, q, dd⟩ := x
  obtain ⟨hl, hi1, hi2⟩ := hI
  have hl : lv_has ls 6 [(5, .int (nI (19 - k))), (3, .long q), (2, .int dd), (0, .long v)] := hl
  try dsimp only at ih11
  refine lv_iload hx hb dX6_digitsOf_11 (lv_at hl 0 rfl) ?_
  refine lv_bipush (v := 19) hx hb dX6_digitsOf_13 (by decide) ?_
  refine lv_icmp_ge (tgt := 39) hx hb dX6_digitsOf_15 (by decide) (fun c15 => ?_) (fun c15 => ?_)
  · have hk0 : k = 0 := by have := zn_le (a := 19) c15 (by decide) (by omega); omega
    rw [hk0, zdoA] at hi2
    refine lv_iload_n hx hb dX6_digitsOf_39 rfl (lv_at hl 2 rfl) ?_
    have hres : dd = zdo v := by exact hi2
    exact W.iret (v := dd) hx hb hr (fun t ht _ => ⟨congrArg (fun z => Outcome.returned (some (Value.int z))) hres, ht⟩) (fun _ h => nomatch h) dX6_digitsOf_40
  · have hk0 : 0 < k := by have := zn_nle (a := 19) c15 (by decide) (by omega); omega
    obtain ⟨k2, hk2⟩ : ∃ k2, k = k2 + 1 := ⟨k - 1, by omega⟩
    rw [hk2, zdoA] at hi2
    refine lv_lload_n hx hb dX6_digitsOf_18 rfl (lv_at hl 1 rfl) ?_
    refine lv_lconst (v := 0) hx hb dX6_digitsOf_19 (by decide) ?_
    refine W.lcmp hx hb dX6_digitsOf_20 ?_
    refine lv_if_eq (tgt := 39) hx hb dX6_digitsOf_21 (by decide) (fun c21 => ?_) (fun c21 => ?_)
    · rw [if_pos (zl_cmp.mp c21)] at hi2
      refine lv_iload_n hx hb dX6_digitsOf_39 rfl (lv_at hl 2 rfl) ?_
      have hres : dd = zdo v := by exact hi2
      exact W.iret (v := dd) hx hb hr (fun t ht _ => ⟨congrArg (fun z => Outcome.returned (some (Value.int z))) hres, ht⟩) (fun _ h => nomatch h) dX6_digitsOf_40
    · rw [if_neg (fun z => c21 (zl_cmp.mpr z))] at hi2
      refine lv_lload_n hx hb dX6_digitsOf_24 rfl (lv_at hl 1 rfl) ?_
      refine lv_ldc2 (v := 10) hx hb hown (hts (.constantLong RX6 258 10) (by decide +kernel)) dX6_digitsOf_25 ?_
      refine lv_ldiv hx hb dX6_digitsOf_28 (by decide) ?_
      refine lv_lstore_n (lv' := [(3, .long (q / 10)), (5, .int (nI (19 - k))), (2, .int dd), (0, .long v)]) hx hb dX6_digitsOf_29 rfl hl (by decide) rfl (fun ls hl => ?_)
      refine lv_iinc (v := dd + 1) (lv' := [(2, .int (dd + 1)), (3, .long (q / 10)), (5, .int (nI (19 - k))), (0, .long v)]) hx hb dX6_digitsOf_30 hl (k := 2) rfl (rfl) (by decide) rfl (fun ls hl => ?_)
      refine lv_iinc (v := nI (19 - k2)) (lv' := [(5, .int (nI (19 - k2))), (2, .int (dd + 1)), (3, .long (q / 10)), (0, .long v)]) hx hb dX6_digitsOf_33 hl (k := 2) rfl ((by rw [show 19 - k2 = 19 - k + 1 by omega]; exact nI_1 _)) (by decide) rfl (fun ls hl => ?_)
      refine lv_goto (tgt := 11) hx hb dX6_digitsOf_36 (by decide) ?_
      exact ih11 ⟨k2, q / 10, dd + 1⟩ _ (by simp only []; omega) ⟨lv_sub hl [0, 2, 1, 3] rfl, by dsimp only; omega, hi2⟩
set_option maxHeartbeats 4000000 in
set_option maxRecDepth 100000 in
theorem c_X6_firstStrange (l : Launch) (dC : Nat → ClassId) (dI : Nat → Nat → Nat) (cI cZ cJ : ClassId) (h : Nat) (ch : Nat) (ph : Nat) (wh : Nat) (mh : Nat) (rh : Nat) (th : Nat) (sh : Nat) (kh : Nat) (lh : Nat) (mm : Int32) (lsec : Int32) (aL : Nat) (aF : Nat) (aS : Nat) (aN : Nat) (z : Int32) (L : Nat → Int32) (F : Nat → Int32) (S : Nat → Int32) (N : Nat → Int32) (fh : Nat) (ap : Nat) (ag : Nat) (av : Nat) (fc : Nat) (fp : Nat → Int32) (fg : Nat → Int32) (fv : Nat → Int64) (sta : Int32) (hfc : fc ≤ 6) (hfk : ∀ j, j < fc → zp_has L (fp j)) : Met l yX6_firstStrange wsX6_firstStrange ({ frames := 2, cells := 0, slots := 0, locals := 42 }) (zc_P [.ref h, .ref fh, .int sta] (dC, dI) (zc_T cI cZ cJ) [(h, .inr (7, [.ref ch, .ref ph, .ref wh, .ref mh, .ref rh, .ref th, .ref sh, .ref kh, .ref lh, .int mm, .int lsec])), (ph, .inr (3, [.ref aL, .ref aF, .ref aS, .ref aN, .int z])), (aL, .inl (cI, 100, .inl L)), (aF, .inl (cZ, 100, .inl F)), (aS, .inl (cI, 100, .inl S)), (aN, .inl (cI, 100, .inl N)), (fh, .inr (2, [.ref ap, .ref ag, .ref av, .int (nI fc)])), (ap, .inl (cI, 6, .inl fp)), (ag, .inl (cI, 6, .inl fg)), (av, .inl (cJ, 6, .inr (.inl fv)))]) (zc_Q (.int (zi (zstrF S fp sta fc = fc) (-1) (nI (zstrF S fp sta fc))))) 0 0 (fun _ => False) := by
  refine Met.ofW (cc := cX6_firstStrange) (maxL := 5) (ret := (some .int)) (by decide) rfl ?_
  intro p e s m args below meth c s₁ B hml hv
  obtain ⟨rfl, hP, hK⟩ := hv
  have hx := B.exec
  have hb := B.bytes
  have hr := B.returns
  have hts := atoms_spec (ws := wsX6_firstStrange) B.pre
  have hown : s.vm.findClass RX6 = some m.cls := findClass_of_methodNamed B.named
  have hlocks := B.notSynchronized
  have hinX6 : ∀ w ∈ wsX60, w ∈ wsX6_firstStrange := by decide +kernel
  have hl := lv_entry ([.ref h, .ref fh, .int sta]) (n := 5) (Nat.le_of_ble_eq_true rfl)
  rw [lg_entry_eq]
  generalize (lg_sl ([.ref h, .ref fh, .int sta]) ++ List.replicate (5 - (lg_sl ([.ref h, .ref fh, .int sta])).length) Slot.unset).toArray = ls at hl ⊢
  have hl : lv_has ls 5 [(0, .ref h), (1, .ref fh), (2, .int sta)] := hl
  refine lv_iconst (v := 0) hx hb dX6_firstStrange_0 (by decide) ?_
  refine lv_istore_n (lv' := [(3, .int 0), (0, .ref h), (1, .ref fh), (2, .int sta)]) hx hb dX6_firstStrange_1 rfl hl (by decide) rfl (fun ls hl => ?_)
  refine zc_loop (α := Nat) (fun j ls => lv_has ls 5 [(3, .int (nI j)), (0, .ref h), (1, .ref fh), (2, .int sta)] ∧ (j ≤ fc) ∧ (zfirst (zstr S fp sta) (fc - j) j = zstrF S fp sta fc)) (fun j => fc - j) 0 ⟨lv_sub hl [0, 1, 2, 3] rfl, Nat.zero_le _, rfl⟩ ?_
  intro x ls hI ih2
  obtain ⟨j, rfl⟩ : ∃ z, z = x := ⟨_, rfl⟩
  obtain ⟨hl, hi1, hi2⟩ := hI
  have hl : lv_has ls 5 [(3, .int (nI j)), (0, .ref h), (1, .ref fh), (2, .int sta)] := hl
  try dsimp only at ih2
  refine lv_iload_n hx hb dX6_firstStrange_2 rfl (lv_at hl 0 rfl) ?_
  refine lv_aload_n hx hb dX6_firstStrange_3 rfl (lv_at hl 2 rfl) ?_
  refine zc_callR (va_runV (As := []) (rest := [.int (nI j)]) ⟨hx, hb, hml, hown, hts⟩ (c_X1_size l dC dI cI cZ cJ fh ap ag av fc fp fg fv) (zc_V 0 hts ggX6_firstStrange_X1_size rfl rfl rfl (by decide +kernel) (by decide +kernel) ⟨Nat.le_of_ble_eq_true rfl, Nat.le_of_ble_eq_true rfl⟩) ⟨zc_blind, va_recv hK hP (ci := 2) (q0 := 6) rfl rfl, zc_pay (hP.sub (ws' := [(fh, .inr (2, [.ref ap, .ref ag, .ref av, .int (nI fc)])), (ap, .inl (cI, 6, .inl fp)), (ag, .inl (cI, 6, .inl fg)), (av, .inl (cJ, 6, .inr (.inl fv)))]) [6, 7, 8, 9] rfl) hK⟩ rfl rfl hl.1 rfl (lv_room (Nat.le_of_ble_eq_true rfl)) dX6_firstStrange_4 ⟨Nat.le_of_ble_eq_true rfl, Nat.le_of_ble_eq_true rfl⟩) ?_
  refine lv_icmp_ge (tgt := 44) hx hb dX6_firstStrange_7 (by decide) (fun c7 => ?_) (fun c7 => ?_)
  · have hge := zn_le c7 (by omega) (by omega)
    have hje : j = fc := by omega
    rw [hje, Nat.sub_self, zfirst] at hi2
    refine lv_iconst (v := (-1)) hx hb dX6_firstStrange_44 (by decide) ?_
    have hres : ((-1) : Int32) = zi (zstrF S fp sta fc = fc) (-1) (nI (zstrF S fp sta fc)) := by rw [← hi2, zi_t rfl]
    exact W.iret (v := (-1)) hx hb hr (fun t ht _ => ⟨congrArg (fun z => Outcome.returned (some (Value.int z))) hres, ht⟩) (fun _ h => nomatch h) dX6_firstStrange_45
  · have hlt := zn_nle c7 (by omega) (by omega)
    obtain ⟨k2, hk2⟩ : ∃ k2, fc - j = k2 + 1 := ⟨fc - j - 1, by omega⟩
    rw [hk2, zfirst] at hi2
    have hh := hfk j hlt
    have hix := zp_ix hh.1 hh.2.1
    refine lv_aload_n hx hb dX6_firstStrange_10 rfl (lv_at hl 1 rfl) ?_
    refine va_get (D := (dC, dI)) (ci := 7) (v := .ref ph) (C := RX6) (T := TX6) (N := 11) hx hb hts hinX6 hown hK hP 0 rfl rfl 1 (by decide) (hts (.fieldLink RX6 30 "ScanCodes" "prefixes" "LScanCodes$Prefixes;") (by decide +kernel)) (fun _ h9 => h9) rfl dX6_firstStrange_11 ?_
    refine lv_aload_n hx hb dX6_firstStrange_14 rfl (lv_at hl 2 rfl) ?_
    refine lv_iload_n hx hb dX6_firstStrange_15 rfl (lv_at hl 0 rfl) ?_
    refine zc_callR (va_runV (As := [.int (nI j)]) (rest := [.ref ph]) ⟨hx, hb, hml, hown, hts⟩ (c_X1_prefixAt l dC dI cI cZ cJ fh ap ag av fc fp fg fv j (by first | assumption | omega) (by first | assumption | omega)) (zc_V 1 hts ggX6_firstStrange_X1_prefixAt rfl rfl rfl (by decide +kernel) (by decide +kernel) ⟨Nat.le_of_ble_eq_true rfl, Nat.le_of_ble_eq_true rfl⟩) ⟨zc_blind, va_recv hK hP (ci := 2) (q0 := 6) rfl rfl, zc_pay (hP.sub (ws' := [(fh, .inr (2, [.ref ap, .ref ag, .ref av, .int (nI fc)])), (ap, .inl (cI, 6, .inl fp)), (ag, .inl (cI, 6, .inl fg)), (av, .inl (cJ, 6, .inr (.inl fv)))]) [6, 7, 8, 9] rfl) hK⟩ rfl rfl hl.1 rfl (lv_room (Nat.le_of_ble_eq_true rfl)) dX6_firstStrange_16 ⟨Nat.le_of_ble_eq_true rfl, Nat.le_of_ble_eq_true rfl⟩) ?_
    refine zc_ti (y := nI (fp j).toNatClampNeg) (hix.1) ?_
    refine zc_callR (va_runV (As := [.int (nI (fp j).toNatClampNeg)]) (rest := []) ⟨hx, hb, hml, hown, hts⟩ (c_X2_stationOf l dC dI cI cZ cJ ph aL aF aS aN z L F S N ((fp j).toNatClampNeg) hix.2.2 (by omega) hh.2.2) (zc_V 1 hts ggX6_firstStrange_X2_stationOf rfl rfl rfl (by decide +kernel) (by decide +kernel) ⟨Nat.le_of_ble_eq_true rfl, Nat.le_of_ble_eq_true rfl⟩) ⟨zc_blind, va_recv hK hP (ci := 3) (q0 := 1) rfl rfl, zc_pay (hP.sub (ws' := [(ph, .inr (3, [.ref aL, .ref aF, .ref aS, .ref aN, .int z])), (aL, .inl (cI, 100, .inl L)), (aF, .inl (cZ, 100, .inl F)), (aS, .inl (cI, 100, .inl S)), (aN, .inl (cI, 100, .inl N))]) [1, 2, 3, 4, 5] rfl) hK⟩ rfl rfl hl.1 rfl (lv_room (Nat.le_of_ble_eq_true rfl)) dX6_firstStrange_19 ⟨Nat.le_of_ble_eq_true rfl, Nat.le_of_ble_eq_true rfl⟩) ?_
    refine lv_istore (lv' := [(4, .int (S ((fp j).toNatClampNeg))), (3, .int (nI j)), (0, .ref h), (1, .ref fh), (2, .int sta)]) hx hb dX6_firstStrange_22 hl (by decide) rfl (fun ls hl => ?_)
    refine lv_iload hx hb dX6_firstStrange_24 (lv_at hl 0 rfl) ?_
    refine lv_iconst (v := (-1)) hx hb dX6_firstStrange_26 (by decide) ?_
    refine lv_icmp_eq (tgt := 38) hx hb dX6_firstStrange_27 (by decide) (fun c27 => ?_) (fun c27 => ?_)
    · rw [zi_f (fun q => q.1 c27)] at hi2
      refine lv_iinc (v := nI (j + 1)) (lv' := [(3, .int (nI (j + 1))), (4, .int (S ((fp j).toNatClampNeg))), (0, .ref h), (1, .ref fh), (2, .int sta)]) hx hb dX6_firstStrange_38 hl (k := 1) rfl (nI_1 j) (by decide) rfl (fun ls hl => ?_)
      refine lv_goto (tgt := 2) hx hb dX6_firstStrange_41 (by decide) ?_
      exact ih2 (j + 1) _ (by omega) ⟨lv_sub hl [0, 2, 3, 4] rfl, hlt, by rw [← hi2, show fc - (j + 1) = k2 by omega]⟩
    · refine lv_iload hx hb dX6_firstStrange_30 (lv_at hl 0 rfl) ?_
      refine lv_iload_n hx hb dX6_firstStrange_32 rfl (lv_at hl 4 rfl) ?_
      refine lv_icmp_eq (tgt := 38) hx hb dX6_firstStrange_33 (by decide) (fun c33 => ?_) (fun c33 => ?_)
      · rw [zi_f (fun q => q.2 c33)] at hi2
        refine lv_iinc (v := nI (j + 1)) (lv' := [(3, .int (nI (j + 1))), (4, .int (S ((fp j).toNatClampNeg))), (0, .ref h), (1, .ref fh), (2, .int sta)]) hx hb dX6_firstStrange_38 hl (k := 1) rfl (nI_1 j) (by decide) rfl (fun ls hl => ?_)
        refine lv_goto (tgt := 2) hx hb dX6_firstStrange_41 (by decide) ?_
        exact ih2 (j + 1) _ (by omega) ⟨lv_sub hl [0, 2, 3, 4] rfl, hlt, by rw [← hi2, show fc - (j + 1) = k2 by omega]⟩
      · rw [zi_t ⟨c27, c33⟩] at hi2
        refine lv_iload_n hx hb dX6_firstStrange_36 rfl (lv_at hl 1 rfl) ?_
        have hres : (nI j) = zi (zstrF S fp sta fc = fc) (-1) (nI (zstrF S fp sta fc)) := by rw [← hi2, zi_f (by omega)]
        exact W.iret (v := nI j) hx hb hr (fun t ht _ => ⟨congrArg (fun z => Outcome.returned (some (Value.int z))) hres, ht⟩) (fun _ h => nomatch h) dX6_firstStrange_37
set_option maxHeartbeats 4000000 in
set_option maxRecDepth 100000 in
theorem c_X6_begin (l : Launch) (dC : Nat → ClassId) (dI : Nat → Nat → Nat) (cI cZ cJ : ClassId) (h : Nat) (ch : Nat) (ph : Nat) (wh : Nat) (mh : Nat) (rh : Nat) (th : Nat) (sh : Nat) (kh : Nat) (lh : Nat) (mm : Int32) (lsec : Int32) (wap : Nat) (wag : Nat) (wav : Nat) (wc : Nat) (wp : Nat → Int32) (wg : Nat → Int32) (wv : Nat → Int64) (sz : Nat) : Met l yX6_begin wsX6_begin ({ frames := 1, cells := 0, slots := 0, locals := 20 }) (zc_PW [.ref h] (dC, dI) (zc_T cI cZ cJ) [(h, .inr (7, [.ref ch, .ref ph, .ref wh, .ref mh, .ref rh, .ref th, .ref sh, .ref kh, .ref lh, .int mm, .int lsec])), (wh, .inr (2, [.ref wap, .ref wag, .ref wav, .int (nI wc)])), (wap, .inl (cI, 6, .inl wp)), (wag, .inl (cI, 6, .inl wg)), (wav, .inl (cJ, 6, .inr (.inl wv)))] sz) (va_Qv (fun _ : Unit => True) (fun _ t => zc_B (dC, dI) (zc_T cI cZ cJ) (va_A [(h, .inr (7, [.ref ch, .ref ph, .ref wh, .ref mh, .ref rh, .ref th, .ref sh, .ref kh, .ref lh, .int mm, .int lsec])), (wh, .inr (2, [.ref wap, .ref wag, .ref wav, .int (nI wc)])), (wap, .inl (cI, 6, .inl wp)), (wag, .inl (cI, 6, .inl wg)), (wav, .inl (cJ, 6, .inr (.inl wv)))] sz) [(h, .inr (7, [.ref ch, .ref ph, .ref wh, .ref mh, .ref rh, .ref th, .ref sh, .ref kh, .ref lh, .int mm, .int lsec])), (wh, .inr (2, [.ref wap, .ref wag, .ref wav, .int (nI 0)])), (wap, .inl (cI, 6, .inl wp)), (wag, .inl (cI, 6, .inl wg)), (wav, .inl (cJ, 6, .inr (.inl wv)))] t) (va_A [(h, .inr (7, [.ref ch, .ref ph, .ref wh, .ref mh, .ref rh, .ref th, .ref sh, .ref kh, .ref lh, .int mm, .int lsec])), (wh, .inr (2, [.ref wap, .ref wag, .ref wav, .int (nI wc)])), (wap, .inl (cI, 6, .inl wp)), (wag, .inl (cI, 6, .inl wg)), (wav, .inl (cJ, 6, .inr (.inl wv)))] sz)) 0 0 (va_A [(h, .inr (7, [.ref ch, .ref ph, .ref wh, .ref mh, .ref rh, .ref th, .ref sh, .ref kh, .ref lh, .int mm, .int lsec])), (wh, .inr (2, [.ref wap, .ref wag, .ref wav, .int (nI wc)])), (wap, .inl (cI, 6, .inl wp)), (wag, .inl (cI, 6, .inl wg)), (wav, .inl (cJ, 6, .inr (.inl wv)))] sz) := by
  refine Met.ofW (cc := cX6_begin) (maxL := 1) (ret := none) (by decide) rfl ?_
  intro p e s m args below meth c s₁ B hml hv
  obtain ⟨rfl, hsz, hP, hK, hD0⟩ := hv
  have hx := B.exec
  have hb := B.bytes
  have hr := B.returns
  have hts := atoms_spec (ws := wsX6_begin) B.pre
  have hown : s.vm.findClass RX6 = some m.cls := findClass_of_methodNamed B.named
  have hlocks := B.notSynchronized
  subst hsz
  have hD := hD0.self (sz := s.heap.size)
  generalize hAe : va_A [(h, .inr (7, [.ref ch, .ref ph, .ref wh, .ref mh, .ref rh, .ref th, .ref sh, .ref kh, .ref lh, .int mm, .int lsec])), (wh, .inr (2, [.ref wap, .ref wag, .ref wav, .int (nI wc)])), (wap, .inl (cI, 6, .inl wp)), (wag, .inl (cI, 6, .inl wg)), (wav, .inl (cJ, 6, .inr (.inl wv)))] s.heap.size = A at hD ⊢
  have hA : ∀ q : Nat, s.heap.size ≤ q → A q := fun q h => by rw [← hAe]; exact Or.inr h
  have hS : va_S A s.heap s.heap [] := va_S.rf
  have hinX6 : ∀ w ∈ wsX60, w ∈ wsX6_begin := by decide +kernel
  have hl := lv_entry ([.ref h]) (n := 1) (Nat.le_of_ble_eq_true rfl)
  rw [lg_entry_eq]
  generalize (lg_sl ([.ref h]) ++ List.replicate (1 - (lg_sl ([.ref h])).length) Slot.unset).toArray = ls at hl ⊢
  have hl : lv_has ls 1 [(0, .ref h)] := hl
  refine lv_aload_n hx hb dX6_begin_0 rfl (lv_at hl 0 rfl) ?_
  refine va_get (D := (dC, dI)) (ci := 7) (v := .ref wh) (C := RX6) (T := TX6) (N := 11) hx hb hts hinX6 hown hK hP 0 rfl rfl 2 (by decide) (hts (.fieldLink RX6 37 "ScanCodes" "written" "LScanCodes$Fields;") (by decide +kernel)) (fun _ h9 => h9) rfl dX6_begin_1 ?_
  have hPc := hP.sub (ws' := [(wh, .inr (2, [.ref wap, .ref wag, .ref wav, .int (nI wc)])), (wap, .inl (cI, 6, .inl wp)), (wag, .inl (cI, 6, .inl wg)), (wav, .inl (cJ, 6, .inr (.inl wv)))]) [1, 2, 3, 4] rfl
  have hDc := hD.sub (ws' := [(wh, .inr (2, [.ref wap, .ref wag, .ref wav, .int (nI wc)])), (wap, .inl (cI, 6, .inl wp)), (wag, .inl (cI, 6, .inl wg)), (wav, .inl (cJ, 6, .inr (.inl wv)))]) [1, 2, 3, 4] (by decide) rfl
  have hFc := va_free (wc := [(wh, .inr (2, [.ref wap, .ref wag, .ref wav, .int (nI wc)])), (wap, .inl (cI, 6, .inl wp)), (wag, .inl (cI, 6, .inl wg)), (wav, .inl (cJ, 6, .inr (.inl wv)))]) hD hS hA [1, 2, 3, 4] rfl
  refine va_callv (va_runV (As := []) (rest := []) ⟨hx, hb, hml, hown, hts⟩ (c_X1_empty l dC dI cI cZ cJ wh wap wag wav wc wp wg wv s.heap.size) (zc_V 0 hts ggX6_begin_X1_empty rfl rfl rfl (by decide +kernel) (by decide +kernel) ⟨Nat.le_of_ble_eq_true rfl, Nat.le_of_ble_eq_true rfl⟩) ⟨zc_blindW, va_recv hK hP (ci := 2) (q0 := 1) rfl rfl, zc_payW hPc hK hDc⟩ rfl rfl hl.1 rfl (lv_room (Nat.le_of_ble_eq_true rfl)) dX6_begin_4 ⟨Nat.le_of_ble_eq_true rfl, Nat.le_of_ble_eq_true rfl⟩) hS (fun q _ h => hFc q h) hFc (fun uu t H1 locs ht hvm hw hB hz1 hk1 hS => ?_)
  obtain ⟨hP1, hK1, hD1⟩ := hB
  rw [ht] at hP1
  obtain ⟨hP, hD⟩ := va_join (wr := [(h, .inr (7, [.ref ch, .ref ph, .ref wh, .ref mh, .ref rh, .ref th, .ref sh, .ref kh, .ref lh, .int mm, .int lsec]))]) (w1 := [(wh, .inr (2, [.ref wap, .ref wag, .ref wav, .int (nI 0)])), (wap, .inl (cI, 6, .inl wp)), (wag, .inl (cI, 6, .inl wg)), (wav, .inl (cJ, 6, .inr (.inl wv)))]) hP hD [1, 2, 3, 4] [0] rfl rfl (by decide) (by decide) hk1 hFc hP1 hD1
  generalize H1 = H at hP hS ⊢
  have hP := hP.sub (ws' := [(h, .inr (7, [.ref ch, .ref ph, .ref wh, .ref mh, .ref rh, .ref th, .ref sh, .ref kh, .ref lh, .int mm, .int lsec])), (wh, .inr (2, [.ref wap, .ref wag, .ref wav, .int (nI 0)])), (wap, .inl (cI, 6, .inl wp)), (wag, .inl (cI, 6, .inl wg)), (wav, .inl (cJ, 6, .inr (.inl wv)))]) [0, 1, 2, 3, 4] rfl
  have hD := hD.sub (ws' := [(h, .inr (7, [.ref ch, .ref ph, .ref wh, .ref mh, .ref rh, .ref th, .ref sh, .ref kh, .ref lh, .int mm, .int lsec])), (wh, .inr (2, [.ref wap, .ref wag, .ref wav, .int (nI 0)])), (wap, .inl (cI, 6, .inl wp)), (wag, .inl (cI, 6, .inl wg)), (wav, .inl (cJ, 6, .inr (.inl wv)))]) [0, 1, 2, 3, 4] (by decide) rfl
  have hP9 : va_P (dC, dI) vwCl [(h, .inr (7, [.ref ch, .ref ph, .ref wh, .ref mh, .ref rh, .ref th, .ref sh, .ref kh, .ref lh, .int mm, .int lsec])), (wh, .inr (2, [.ref wap, .ref wag, .ref wav, .int (nI 0)])), (wap, .inl (cI, 6, .inl wp)), (wag, .inl (cI, 6, .inl wg)), (wav, .inl (cJ, 6, .inr (.inl wv)))] H := hP
  have hD9 : va_D A [(h, .inr (7, [.ref ch, .ref ph, .ref wh, .ref mh, .ref rh, .ref th, .ref sh, .ref kh, .ref lh, .int mm, .int lsec])), (wh, .inr (2, [.ref wap, .ref wag, .ref wav, .int (nI 0)])), (wap, .inl (cI, 6, .inl wp)), (wag, .inl (cI, 6, .inl wg)), (wav, .inl (cJ, 6, .inr (.inl wv)))] := hD
  exact W.vret hx hb hr (fun t ht hW => ⟨⟨(), rfl, trivial, by rw [ht]; exact hP9, va_K.moved hW.alike hK, hD9⟩, hS.F ht⟩) hS.2.2 dX6_begin_7
set_option maxHeartbeats 4000000 in
set_option maxRecDepth 100000 in
theorem c_X6_clear (l : Launch) (dC : Nat → ClassId) (dI : Nat → Nat → Nat) (cI cZ cJ : ClassId) (h : Nat) (ch : Nat) (ph : Nat) (wh : Nat) (mh : Nat) (rh : Nat) (th : Nat) (sh : Nat) (kh : Nat) (lh : Nat) (mm : Int32) (lsec : Int32) (ra : Nat) (rn : Nat) (rf : Nat → Int32) (ta : Nat) (tn : Nat) (tf : Nat → Int32) (u : Int32) (fh : Nat) (ap : Nat) (ag : Nat) (av : Nat) (fc : Nat) (fp : Nat → Int32) (fg : Nat → Int32) (fv : Nat → Int64) (sz : Nat) : Met l yX6_clear wsX6_clear ({ frames := 2, cells := 0, slots := 0, locals := 40 }) (zc_PW [.ref h] (dC, dI) (zc_T cI cZ cJ) [(h, .inr (7, [.ref ch, .ref ph, .ref wh, .ref mh, .ref rh, .ref th, .ref sh, .ref kh, .ref lh, .int mm, .int lsec])), (rh, .inr (4, [.ref ra, .int (nI rn)])), (ra, .inl (cI, 420, .inl rf)), (th, .inr (4, [.ref ta, .int (nI tn)])), (ta, .inl (cI, 60, .inl tf)), (kh, .inr (6, [.ref ph, .ref fh, .int u])), (fh, .inr (2, [.ref ap, .ref ag, .ref av, .int (nI fc)])), (ap, .inl (cI, 6, .inl fp)), (ag, .inl (cI, 6, .inl fg)), (av, .inl (cJ, 6, .inr (.inl fv)))] sz) (va_Qv (fun _ : Unit => True) (fun _ t => zc_B (dC, dI) (zc_T cI cZ cJ) (va_A [(h, .inr (7, [.ref ch, .ref ph, .ref wh, .ref mh, .ref rh, .ref th, .ref sh, .ref kh, .ref lh, .int mm, .int lsec])), (rh, .inr (4, [.ref ra, .int (nI rn)])), (ra, .inl (cI, 420, .inl rf)), (th, .inr (4, [.ref ta, .int (nI tn)])), (ta, .inl (cI, 60, .inl tf)), (kh, .inr (6, [.ref ph, .ref fh, .int u])), (fh, .inr (2, [.ref ap, .ref ag, .ref av, .int (nI fc)])), (ap, .inl (cI, 6, .inl fp)), (ag, .inl (cI, 6, .inl fg)), (av, .inl (cJ, 6, .inr (.inl fv)))] sz) [(h, .inr (7, [.ref ch, .ref ph, .ref wh, .ref mh, .ref rh, .ref th, .ref sh, .ref kh, .ref lh, .int 0, .int lsec])), (rh, .inr (4, [.ref ra, .int (nI 0)])), (ra, .inl (cI, 420, .inl rf)), (th, .inr (4, [.ref ta, .int (nI 0)])), (ta, .inl (cI, 60, .inl tf)), (kh, .inr (6, [.ref ph, .ref fh, .int (-1)])), (fh, .inr (2, [.ref ap, .ref ag, .ref av, .int (nI 0)])), (ap, .inl (cI, 6, .inl fp)), (ag, .inl (cI, 6, .inl fg)), (av, .inl (cJ, 6, .inr (.inl fv)))] t) (va_A [(h, .inr (7, [.ref ch, .ref ph, .ref wh, .ref mh, .ref rh, .ref th, .ref sh, .ref kh, .ref lh, .int mm, .int lsec])), (rh, .inr (4, [.ref ra, .int (nI rn)])), (ra, .inl (cI, 420, .inl rf)), (th, .inr (4, [.ref ta, .int (nI tn)])), (ta, .inl (cI, 60, .inl tf)), (kh, .inr (6, [.ref ph, .ref fh, .int u])), (fh, .inr (2, [.ref ap, .ref ag, .ref av, .int (nI fc)])), (ap, .inl (cI, 6, .inl fp)), (ag, .inl (cI, 6, .inl fg)), (av, .inl (cJ, 6, .inr (.inl fv)))] sz)) 0 0 (va_A [(h, .inr (7, [.ref ch, .ref ph, .ref wh, .ref mh, .ref rh, .ref th, .ref sh, .ref kh, .ref lh, .int mm, .int lsec])), (rh, .inr (4, [.ref ra, .int (nI rn)])), (ra, .inl (cI, 420, .inl rf)), (th, .inr (4, [.ref ta, .int (nI tn)])), (ta, .inl (cI, 60, .inl tf)), (kh, .inr (6, [.ref ph, .ref fh, .int u])), (fh, .inr (2, [.ref ap, .ref ag, .ref av, .int (nI fc)])), (ap, .inl (cI, 6, .inl fp)), (ag, .inl (cI, 6, .inl fg)), (av, .inl (cJ, 6, .inr (.inl fv)))] sz) := by
  refine Met.ofW (cc := cX6_clear) (maxL := 1) (ret := none) (by decide) rfl ?_
  intro p e s m args below meth c s₁ B hml hv
  obtain ⟨rfl, hsz, hP, hK, hD0⟩ := hv
  have hx := B.exec
  have hb := B.bytes
  have hr := B.returns
  have hts := atoms_spec (ws := wsX6_clear) B.pre
  have hown : s.vm.findClass RX6 = some m.cls := findClass_of_methodNamed B.named
  have hlocks := B.notSynchronized
  subst hsz
  have hD := hD0.self (sz := s.heap.size)
  generalize hAe : va_A [(h, .inr (7, [.ref ch, .ref ph, .ref wh, .ref mh, .ref rh, .ref th, .ref sh, .ref kh, .ref lh, .int mm, .int lsec])), (rh, .inr (4, [.ref ra, .int (nI rn)])), (ra, .inl (cI, 420, .inl rf)), (th, .inr (4, [.ref ta, .int (nI tn)])), (ta, .inl (cI, 60, .inl tf)), (kh, .inr (6, [.ref ph, .ref fh, .int u])), (fh, .inr (2, [.ref ap, .ref ag, .ref av, .int (nI fc)])), (ap, .inl (cI, 6, .inl fp)), (ag, .inl (cI, 6, .inl fg)), (av, .inl (cJ, 6, .inr (.inl fv)))] s.heap.size = A at hD ⊢
  have hA : ∀ q : Nat, s.heap.size ≤ q → A q := fun q h => by rw [← hAe]; exact Or.inr h
  have hS : va_S A s.heap s.heap [] := va_S.rf
  have hinX6 : ∀ w ∈ wsX60, w ∈ wsX6_clear := by decide +kernel
  have hl := lv_entry ([.ref h]) (n := 1) (Nat.le_of_ble_eq_true rfl)
  rw [lg_entry_eq]
  generalize (lg_sl ([.ref h]) ++ List.replicate (1 - (lg_sl ([.ref h])).length) Slot.unset).toArray = ls at hl ⊢
  have hl : lv_has ls 1 [(0, .ref h)] := hl
  refine lv_aload_n hx hb dX6_clear_0 rfl (lv_at hl 0 rfl) ?_
  refine va_get (D := (dC, dI)) (ci := 7) (v := .ref rh) (C := RX6) (T := TX6) (N := 11) hx hb hts hinX6 hown hK hP 0 rfl rfl 4 (by decide) (hts (.fieldLink RX6 48 "ScanCodes" "modulesRead" "LScanCodes$Row;") (by decide +kernel)) (fun _ h9 => h9) rfl dX6_clear_1 ?_
  have hPc := hP.sub (ws' := [(rh, .inr (4, [.ref ra, .int (nI rn)])), (ra, .inl (cI, 420, .inl rf))]) [1, 2] rfl
  have hDc := hD.sub (ws' := [(rh, .inr (4, [.ref ra, .int (nI rn)])), (ra, .inl (cI, 420, .inl rf))]) [1, 2] (by decide) rfl
  have hFc := va_free (wc := [(rh, .inr (4, [.ref ra, .int (nI rn)])), (ra, .inl (cI, 420, .inl rf))]) hD hS hA [1, 2] rfl
  refine va_callv (va_runV (As := []) (rest := []) ⟨hx, hb, hml, hown, hts⟩ (c_X3_empty l dC dI cI cZ cJ rh ra 420 rn rf s.heap.size) (zc_V 0 hts ggX6_clear_X3_empty rfl rfl rfl (by decide +kernel) (by decide +kernel) ⟨Nat.le_of_ble_eq_true rfl, Nat.le_of_ble_eq_true rfl⟩) ⟨zc_blindW, va_recv hK hP (ci := 4) (q0 := 1) rfl rfl, zc_payW hPc hK hDc⟩ rfl rfl hl.1 rfl (lv_room (Nat.le_of_ble_eq_true rfl)) dX6_clear_4 ⟨Nat.le_of_ble_eq_true rfl, Nat.le_of_ble_eq_true rfl⟩) hS (fun q _ h => hFc q h) hFc (fun uu t H1 locs ht hvm hw hB hz1 hk1 hS => ?_)
  obtain ⟨hP1, hK1, hD1⟩ := hB
  rw [ht] at hP1
  obtain ⟨hP, hD⟩ := va_join (wr := [(h, .inr (7, [.ref ch, .ref ph, .ref wh, .ref mh, .ref rh, .ref th, .ref sh, .ref kh, .ref lh, .int mm, .int lsec])), (th, .inr (4, [.ref ta, .int (nI tn)])), (ta, .inl (cI, 60, .inl tf)), (kh, .inr (6, [.ref ph, .ref fh, .int u])), (fh, .inr (2, [.ref ap, .ref ag, .ref av, .int (nI fc)])), (ap, .inl (cI, 6, .inl fp)), (ag, .inl (cI, 6, .inl fg)), (av, .inl (cJ, 6, .inr (.inl fv)))]) (w1 := [(rh, .inr (4, [.ref ra, .int (nI 0)])), (ra, .inl (cI, 420, .inl rf))]) hP hD [1, 2] [0, 3, 4, 5, 6, 7, 8, 9] rfl rfl (by decide) (by decide) hk1 hFc hP1 hD1
  generalize H1 = H at hP hS ⊢
  have hP := hP.sub (ws' := [(h, .inr (7, [.ref ch, .ref ph, .ref wh, .ref mh, .ref rh, .ref th, .ref sh, .ref kh, .ref lh, .int mm, .int lsec])), (rh, .inr (4, [.ref ra, .int (nI 0)])), (ra, .inl (cI, 420, .inl rf)), (th, .inr (4, [.ref ta, .int (nI tn)])), (ta, .inl (cI, 60, .inl tf)), (kh, .inr (6, [.ref ph, .ref fh, .int u])), (fh, .inr (2, [.ref ap, .ref ag, .ref av, .int (nI fc)])), (ap, .inl (cI, 6, .inl fp)), (ag, .inl (cI, 6, .inl fg)), (av, .inl (cJ, 6, .inr (.inl fv)))]) [0, 8, 9, 1, 2, 3, 4, 5, 6, 7] rfl
  have hD := hD.sub (ws' := [(h, .inr (7, [.ref ch, .ref ph, .ref wh, .ref mh, .ref rh, .ref th, .ref sh, .ref kh, .ref lh, .int mm, .int lsec])), (rh, .inr (4, [.ref ra, .int (nI 0)])), (ra, .inl (cI, 420, .inl rf)), (th, .inr (4, [.ref ta, .int (nI tn)])), (ta, .inl (cI, 60, .inl tf)), (kh, .inr (6, [.ref ph, .ref fh, .int u])), (fh, .inr (2, [.ref ap, .ref ag, .ref av, .int (nI fc)])), (ap, .inl (cI, 6, .inl fp)), (ag, .inl (cI, 6, .inl fg)), (av, .inl (cJ, 6, .inr (.inl fv)))]) [0, 8, 9, 1, 2, 3, 4, 5, 6, 7] (by decide) rfl
  refine lv_aload_n hx hb dX6_clear_7 rfl (lv_at hl 0 rfl) ?_
  refine va_get (D := (dC, dI)) (ci := 7) (v := .ref th) (C := RX6) (T := TX6) (N := 11) hx hb hts hinX6 hown hK hP 0 rfl rfl 5 (by decide) (hts (.fieldLink RX6 51 "ScanCodes" "signsTyped" "LScanCodes$Row;") (by decide +kernel)) (fun _ h9 => h9) rfl dX6_clear_8 ?_
  have hPc := hP.sub (ws' := [(th, .inr (4, [.ref ta, .int (nI tn)])), (ta, .inl (cI, 60, .inl tf))]) [3, 4] rfl
  have hDc := hD.sub (ws' := [(th, .inr (4, [.ref ta, .int (nI tn)])), (ta, .inl (cI, 60, .inl tf))]) [3, 4] (by decide) rfl
  have hFc := va_free (wc := [(th, .inr (4, [.ref ta, .int (nI tn)])), (ta, .inl (cI, 60, .inl tf))]) hD hS hA [3, 4] rfl
  refine va_callv (va_runV (As := []) (rest := []) ⟨hx, hb, hml, hown, hts⟩ (c_X3_empty l dC dI cI cZ cJ th ta 60 tn tf H.size) (zc_V 0 hts ggX6_clear_X3_empty rfl rfl rfl (by decide +kernel) (by decide +kernel) ⟨Nat.le_of_ble_eq_true rfl, Nat.le_of_ble_eq_true rfl⟩) ⟨zc_blindW, va_recv hK hP (ci := 4) (q0 := 3) rfl rfl, zc_payW hPc hK hDc⟩ rfl rfl hl.1 rfl (lv_room (Nat.le_of_ble_eq_true rfl)) dX6_clear_11 ⟨Nat.le_of_ble_eq_true rfl, Nat.le_of_ble_eq_true rfl⟩) hS (fun q _ h => hFc q h) hFc (fun uu t H1 locs ht hvm hw hB hz1 hk1 hS => ?_)
  obtain ⟨hP1, hK1, hD1⟩ := hB
  rw [ht] at hP1
  obtain ⟨hP, hD⟩ := va_join (wr := [(h, .inr (7, [.ref ch, .ref ph, .ref wh, .ref mh, .ref rh, .ref th, .ref sh, .ref kh, .ref lh, .int mm, .int lsec])), (rh, .inr (4, [.ref ra, .int (nI 0)])), (ra, .inl (cI, 420, .inl rf)), (kh, .inr (6, [.ref ph, .ref fh, .int u])), (fh, .inr (2, [.ref ap, .ref ag, .ref av, .int (nI fc)])), (ap, .inl (cI, 6, .inl fp)), (ag, .inl (cI, 6, .inl fg)), (av, .inl (cJ, 6, .inr (.inl fv)))]) (w1 := [(th, .inr (4, [.ref ta, .int (nI 0)])), (ta, .inl (cI, 60, .inl tf))]) hP hD [3, 4] [0, 1, 2, 5, 6, 7, 8, 9] rfl rfl (by decide) (by decide) hk1 hFc hP1 hD1
  generalize H1 = H at hP hS ⊢
  have hP := hP.sub (ws' := [(h, .inr (7, [.ref ch, .ref ph, .ref wh, .ref mh, .ref rh, .ref th, .ref sh, .ref kh, .ref lh, .int mm, .int lsec])), (rh, .inr (4, [.ref ra, .int (nI 0)])), (ra, .inl (cI, 420, .inl rf)), (th, .inr (4, [.ref ta, .int (nI 0)])), (ta, .inl (cI, 60, .inl tf)), (kh, .inr (6, [.ref ph, .ref fh, .int u])), (fh, .inr (2, [.ref ap, .ref ag, .ref av, .int (nI fc)])), (ap, .inl (cI, 6, .inl fp)), (ag, .inl (cI, 6, .inl fg)), (av, .inl (cJ, 6, .inr (.inl fv)))]) [0, 1, 2, 8, 9, 3, 4, 5, 6, 7] rfl
  have hD := hD.sub (ws' := [(h, .inr (7, [.ref ch, .ref ph, .ref wh, .ref mh, .ref rh, .ref th, .ref sh, .ref kh, .ref lh, .int mm, .int lsec])), (rh, .inr (4, [.ref ra, .int (nI 0)])), (ra, .inl (cI, 420, .inl rf)), (th, .inr (4, [.ref ta, .int (nI 0)])), (ta, .inl (cI, 60, .inl tf)), (kh, .inr (6, [.ref ph, .ref fh, .int u])), (fh, .inr (2, [.ref ap, .ref ag, .ref av, .int (nI fc)])), (ap, .inl (cI, 6, .inl fp)), (ag, .inl (cI, 6, .inl fg)), (av, .inl (cJ, 6, .inr (.inl fv)))]) [0, 1, 2, 8, 9, 3, 4, 5, 6, 7] (by decide) rfl
  refine lv_aload_n hx hb dX6_clear_14 rfl (lv_at hl 0 rfl) ?_
  refine va_get (D := (dC, dI)) (ci := 7) (v := .ref kh) (C := RX6) (T := TX6) (N := 11) hx hb hts hinX6 hown hK hP 0 rfl rfl 7 (by decide) (hts (.fieldLink RX6 62 "ScanCodes" "taker" "LScanCodes$Taker;") (by decide +kernel)) (fun _ h9 => h9) rfl dX6_clear_15 ?_
  have hPc := hP.sub (ws' := [(kh, .inr (6, [.ref ph, .ref fh, .int u])), (fh, .inr (2, [.ref ap, .ref ag, .ref av, .int (nI fc)])), (ap, .inl (cI, 6, .inl fp)), (ag, .inl (cI, 6, .inl fg)), (av, .inl (cJ, 6, .inr (.inl fv)))]) [5, 6, 7, 8, 9] rfl
  have hDc := hD.sub (ws' := [(kh, .inr (6, [.ref ph, .ref fh, .int u])), (fh, .inr (2, [.ref ap, .ref ag, .ref av, .int (nI fc)])), (ap, .inl (cI, 6, .inl fp)), (ag, .inl (cI, 6, .inl fg)), (av, .inl (cJ, 6, .inr (.inl fv)))]) [5, 6, 7, 8, 9] (by decide) rfl
  have hFc := va_free (wc := [(kh, .inr (6, [.ref ph, .ref fh, .int u])), (fh, .inr (2, [.ref ap, .ref ag, .ref av, .int (nI fc)])), (ap, .inl (cI, 6, .inl fp)), (ag, .inl (cI, 6, .inl fg)), (av, .inl (cJ, 6, .inr (.inl fv)))]) hD hS hA [5, 6, 7, 8, 9] rfl
  refine va_callv (va_runV (As := []) (rest := []) ⟨hx, hb, hml, hown, hts⟩ (c_X5_forget l dC dI cI cZ cJ kh u ph fh ap ag av fc fp fg fv H.size) (zc_V 0 hts ggX6_clear_X5_forget rfl rfl rfl (by decide +kernel) (by decide +kernel) ⟨Nat.le_of_ble_eq_true rfl, Nat.le_of_ble_eq_true rfl⟩) ⟨zc_blindW, va_recv hK hP (ci := 6) (q0 := 5) rfl rfl, zc_payW hPc hK hDc⟩ rfl rfl hl.1 rfl (lv_room (Nat.le_of_ble_eq_true rfl)) dX6_clear_18 ⟨Nat.le_of_ble_eq_true rfl, Nat.le_of_ble_eq_true rfl⟩) hS (fun q _ h => hFc q h) hFc (fun uu t H1 locs ht hvm hw hB hz1 hk1 hS => ?_)
  obtain ⟨hP1, hK1, hD1⟩ := hB
  rw [ht] at hP1
  obtain ⟨hP, hD⟩ := va_join (wr := [(h, .inr (7, [.ref ch, .ref ph, .ref wh, .ref mh, .ref rh, .ref th, .ref sh, .ref kh, .ref lh, .int mm, .int lsec])), (rh, .inr (4, [.ref ra, .int (nI 0)])), (ra, .inl (cI, 420, .inl rf)), (th, .inr (4, [.ref ta, .int (nI 0)])), (ta, .inl (cI, 60, .inl tf))]) (w1 := [(kh, .inr (6, [.ref ph, .ref fh, .int (-1)])), (fh, .inr (2, [.ref ap, .ref ag, .ref av, .int (nI 0)])), (ap, .inl (cI, 6, .inl fp)), (ag, .inl (cI, 6, .inl fg)), (av, .inl (cJ, 6, .inr (.inl fv)))]) hP hD [5, 6, 7, 8, 9] [0, 1, 2, 3, 4] rfl rfl (by decide) (by decide) hk1 hFc hP1 hD1
  generalize H1 = H at hP hS ⊢
  have hP := hP.sub (ws' := [(h, .inr (7, [.ref ch, .ref ph, .ref wh, .ref mh, .ref rh, .ref th, .ref sh, .ref kh, .ref lh, .int mm, .int lsec])), (rh, .inr (4, [.ref ra, .int (nI 0)])), (ra, .inl (cI, 420, .inl rf)), (th, .inr (4, [.ref ta, .int (nI 0)])), (ta, .inl (cI, 60, .inl tf)), (kh, .inr (6, [.ref ph, .ref fh, .int (-1)])), (fh, .inr (2, [.ref ap, .ref ag, .ref av, .int (nI 0)])), (ap, .inl (cI, 6, .inl fp)), (ag, .inl (cI, 6, .inl fg)), (av, .inl (cJ, 6, .inr (.inl fv)))]) [0, 1, 2, 3, 4, 5, 6, 7, 8, 9] rfl
  have hD := hD.sub (ws' := [(h, .inr (7, [.ref ch, .ref ph, .ref wh, .ref mh, .ref rh, .ref th, .ref sh, .ref kh, .ref lh, .int mm, .int lsec])), (rh, .inr (4, [.ref ra, .int (nI 0)])), (ra, .inl (cI, 420, .inl rf)), (th, .inr (4, [.ref ta, .int (nI 0)])), (ta, .inl (cI, 60, .inl tf)), (kh, .inr (6, [.ref ph, .ref fh, .int (-1)])), (fh, .inr (2, [.ref ap, .ref ag, .ref av, .int (nI 0)])), (ap, .inl (cI, 6, .inl fp)), (ag, .inl (cI, 6, .inl fg)), (av, .inl (cJ, 6, .inr (.inl fv)))]) [0, 1, 2, 3, 4, 5, 6, 7, 8, 9] (by decide) rfl
  refine lv_aload_n hx hb dX6_clear_21 rfl (lv_at hl 0 rfl) ?_
  refine lv_iconst (v := 0) hx hb dX6_clear_22 (by decide) ?_
  refine va_put (D := (dC, dI)) (ci := 7) (v := .int 0) (ty := .int) (C := RX6) (T := TX6) (N := 11) hx hb hts hinX6 tyX6 tyX6_ok nmX6 hown hK hP hD hS 0 rfl rfl 9 (by decide) (hts (.fieldLink RX6 73 "ScanCodes" "mendedModules" "I") (by decide +kernel)) (fun _ h9 => h9) rfl (by decide +kernel) rfl rfl (Nat.le_of_ble_eq_true rfl) dX6_clear_23 (fun H locs hP hD hS => ?_)
  have hP : va_P (dC, dI) vwCl [(h, .inr (7, [.ref ch, .ref ph, .ref wh, .ref mh, .ref rh, .ref th, .ref sh, .ref kh, .ref lh, .int 0, .int lsec])), (rh, .inr (4, [.ref ra, .int (nI 0)])), (ra, .inl (cI, 420, .inl rf)), (th, .inr (4, [.ref ta, .int (nI 0)])), (ta, .inl (cI, 60, .inl tf)), (kh, .inr (6, [.ref ph, .ref fh, .int (-1)])), (fh, .inr (2, [.ref ap, .ref ag, .ref av, .int (nI 0)])), (ap, .inl (cI, 6, .inl fp)), (ag, .inl (cI, 6, .inl fg)), (av, .inl (cJ, 6, .inr (.inl fv)))] H := hP
  have hD : va_D A [(h, .inr (7, [.ref ch, .ref ph, .ref wh, .ref mh, .ref rh, .ref th, .ref sh, .ref kh, .ref lh, .int 0, .int lsec])), (rh, .inr (4, [.ref ra, .int (nI 0)])), (ra, .inl (cI, 420, .inl rf)), (th, .inr (4, [.ref ta, .int (nI 0)])), (ta, .inl (cI, 60, .inl tf)), (kh, .inr (6, [.ref ph, .ref fh, .int (-1)])), (fh, .inr (2, [.ref ap, .ref ag, .ref av, .int (nI 0)])), (ap, .inl (cI, 6, .inl fp)), (ag, .inl (cI, 6, .inl fg)), (av, .inl (cJ, 6, .inr (.inl fv)))] := hD
  have hP9 : va_P (dC, dI) vwCl [(h, .inr (7, [.ref ch, .ref ph, .ref wh, .ref mh, .ref rh, .ref th, .ref sh, .ref kh, .ref lh, .int 0, .int lsec])), (rh, .inr (4, [.ref ra, .int (nI 0)])), (ra, .inl (cI, 420, .inl rf)), (th, .inr (4, [.ref ta, .int (nI 0)])), (ta, .inl (cI, 60, .inl tf)), (kh, .inr (6, [.ref ph, .ref fh, .int (-1)])), (fh, .inr (2, [.ref ap, .ref ag, .ref av, .int (nI 0)])), (ap, .inl (cI, 6, .inl fp)), (ag, .inl (cI, 6, .inl fg)), (av, .inl (cJ, 6, .inr (.inl fv)))] H := hP
  have hD9 : va_D A [(h, .inr (7, [.ref ch, .ref ph, .ref wh, .ref mh, .ref rh, .ref th, .ref sh, .ref kh, .ref lh, .int 0, .int lsec])), (rh, .inr (4, [.ref ra, .int (nI 0)])), (ra, .inl (cI, 420, .inl rf)), (th, .inr (4, [.ref ta, .int (nI 0)])), (ta, .inl (cI, 60, .inl tf)), (kh, .inr (6, [.ref ph, .ref fh, .int (-1)])), (fh, .inr (2, [.ref ap, .ref ag, .ref av, .int (nI 0)])), (ap, .inl (cI, 6, .inl fp)), (ag, .inl (cI, 6, .inl fg)), (av, .inl (cJ, 6, .inr (.inl fv)))] := hD
  exact W.vret hx hb hr (fun t ht hW => ⟨⟨(), rfl, trivial, by rw [ht]; exact hP9, va_K.moved hW.alike hK, hD9⟩, hS.F ht⟩) hS.2.2 dX6_clear_26
set_option maxHeartbeats 4000000 in
set_option maxRecDepth 100000 in
theorem c_X6_writeFields (l : Launch) (dC : Nat → ClassId) (dI : Nat → Nat → Nat) (cI cZ cJ : ClassId) (h : Nat) (ch : Nat) (ph : Nat) (wh : Nat) (mh : Nat) (rh : Nat) (th : Nat) (sh : Nat) (kh : Nat) (lh : Nat) (mm : Int32) (lsec : Int32) (aL : Nat) (aF : Nat) (aS : Nat) (aN : Nat) (z : Int32) (L : Nat → Int32) (F : Nat → Int32) (S : Nat → Int32) (N : Nat → Int32) (wap : Nat) (wag : Nat) (wav : Nat) (wc : Nat) (wp : Nat → Int32) (wg : Nat → Int32) (wv : Nat → Int64) (sa : Nat) (sn : Nat) (sf : Nat → Int32) (hw1 : 0 < wc) (hw6 : wc ≤ 6) (hwk : zwk L wp wg wc) (sz : Nat) : Met l yX6_writeFields wsX6_writeFields ({ frames := 2, cells := 0, slots := 0, locals := 49 }) (zc_PW [.ref h] (dC, dI) (zc_T cI cZ cJ) [(h, .inr (7, [.ref ch, .ref ph, .ref wh, .ref mh, .ref rh, .ref th, .ref sh, .ref kh, .ref lh, .int mm, .int lsec])), (ph, .inr (3, [.ref aL, .ref aF, .ref aS, .ref aN, .int z])), (aL, .inl (cI, 100, .inl L)), (aF, .inl (cZ, 100, .inl F)), (aS, .inl (cI, 100, .inl S)), (aN, .inl (cI, 100, .inl N)), (wh, .inr (2, [.ref wap, .ref wag, .ref wav, .int (nI wc)])), (wap, .inl (cI, 6, .inl wp)), (wag, .inl (cI, 6, .inl wg)), (wav, .inl (cJ, 6, .inr (.inl wv))), (sh, .inr (4, [.ref sa, .int (nI sn)])), (sa, .inl (cI, 105, .inl sf))] sz) (va_Qv (fun _ : Unit => True) (fun _ t => zc_B (dC, dI) (zc_T cI cZ cJ) (va_A [(h, .inr (7, [.ref ch, .ref ph, .ref wh, .ref mh, .ref rh, .ref th, .ref sh, .ref kh, .ref lh, .int mm, .int lsec])), (ph, .inr (3, [.ref aL, .ref aF, .ref aS, .ref aN, .int z])), (aL, .inl (cI, 100, .inl L)), (aF, .inl (cZ, 100, .inl F)), (aS, .inl (cI, 100, .inl S)), (aN, .inl (cI, 100, .inl N)), (wh, .inr (2, [.ref wap, .ref wag, .ref wav, .int (nI wc)])), (wap, .inl (cI, 6, .inl wp)), (wag, .inl (cI, 6, .inl wg)), (wav, .inl (cJ, 6, .inr (.inl wv))), (sh, .inr (4, [.ref sa, .int (nI sn)])), (sa, .inl (cI, 105, .inl sf))] sz) [(h, .inr (7, [.ref ch, .ref ph, .ref wh, .ref mh, .ref rh, .ref th, .ref sh, .ref kh, .ref lh, .int mm, .int lsec])), (ph, .inr (3, [.ref aL, .ref aF, .ref aS, .ref aN, .int z])), (aL, .inl (cI, 100, .inl L)), (aF, .inl (cZ, 100, .inl F)), (aS, .inl (cI, 100, .inl S)), (aN, .inl (cI, 100, .inl N)), (wh, .inr (2, [.ref wap, .ref wag, .ref wav, .int (nI wc)])), (wap, .inl (cI, 6, .inl wp)), (wag, .inl (cI, 6, .inl wg)), (wav, .inl (cJ, 6, .inr (.inl wv))), (sh, .inr (4, [.ref sa, .int (nI (zwn F wp wg wc wc))])), (sa, .inl (cI, 105, .inl (zwr F wp wg wv wc sf wc)))] t) (va_A [(h, .inr (7, [.ref ch, .ref ph, .ref wh, .ref mh, .ref rh, .ref th, .ref sh, .ref kh, .ref lh, .int mm, .int lsec])), (ph, .inr (3, [.ref aL, .ref aF, .ref aS, .ref aN, .int z])), (aL, .inl (cI, 100, .inl L)), (aF, .inl (cZ, 100, .inl F)), (aS, .inl (cI, 100, .inl S)), (aN, .inl (cI, 100, .inl N)), (wh, .inr (2, [.ref wap, .ref wag, .ref wav, .int (nI wc)])), (wap, .inl (cI, 6, .inl wp)), (wag, .inl (cI, 6, .inl wg)), (wav, .inl (cJ, 6, .inr (.inl wv))), (sh, .inr (4, [.ref sa, .int (nI sn)])), (sa, .inl (cI, 105, .inl sf))] sz)) 0 0 (va_A [(h, .inr (7, [.ref ch, .ref ph, .ref wh, .ref mh, .ref rh, .ref th, .ref sh, .ref kh, .ref lh, .int mm, .int lsec])), (ph, .inr (3, [.ref aL, .ref aF, .ref aS, .ref aN, .int z])), (aL, .inl (cI, 100, .inl L)), (aF, .inl (cZ, 100, .inl F)), (aS, .inl (cI, 100, .inl S)), (aN, .inl (cI, 100, .inl N)), (wh, .inr (2, [.ref wap, .ref wag, .ref wav, .int (nI wc)])), (wap, .inl (cI, 6, .inl wp)), (wag, .inl (cI, 6, .inl wg)), (wav, .inl (cJ, 6, .inr (.inl wv))), (sh, .inr (4, [.ref sa, .int (nI sn)])), (sa, .inl (cI, 105, .inl sf))] sz) := by
  refine Met.ofW (cc := cX6_writeFields) (maxL := 4) (ret := none) (by decide) rfl ?_
  intro p e s m args below meth c s₁ B hml hv
  obtain ⟨rfl, hsz, hP, hK, hD0⟩ := hv
  have hx := B.exec
  have hb := B.bytes
  have hr := B.returns
  have hts := atoms_spec (ws := wsX6_writeFields) B.pre
  have hown : s.vm.findClass RX6 = some m.cls := findClass_of_methodNamed B.named
  have hlocks := B.notSynchronized
  subst hsz
  have hD := hD0.self (sz := s.heap.size)
  generalize hAe : va_A [(h, .inr (7, [.ref ch, .ref ph, .ref wh, .ref mh, .ref rh, .ref th, .ref sh, .ref kh, .ref lh, .int mm, .int lsec])), (ph, .inr (3, [.ref aL, .ref aF, .ref aS, .ref aN, .int z])), (aL, .inl (cI, 100, .inl L)), (aF, .inl (cZ, 100, .inl F)), (aS, .inl (cI, 100, .inl S)), (aN, .inl (cI, 100, .inl N)), (wh, .inr (2, [.ref wap, .ref wag, .ref wav, .int (nI wc)])), (wap, .inl (cI, 6, .inl wp)), (wag, .inl (cI, 6, .inl wg)), (wav, .inl (cJ, 6, .inr (.inl wv))), (sh, .inr (4, [.ref sa, .int (nI sn)])), (sa, .inl (cI, 105, .inl sf))] s.heap.size = A at hD ⊢
  have hA : ∀ q : Nat, s.heap.size ≤ q → A q := fun q h => by rw [← hAe]; exact Or.inr h
  have hS : va_S A s.heap s.heap [] := va_S.rf
  have hinX6 : ∀ w ∈ wsX60, w ∈ wsX6_writeFields := by decide +kernel
  have hl := lv_entry ([.ref h]) (n := 4) (Nat.le_of_ble_eq_true rfl)
  rw [lg_entry_eq]
  generalize (lg_sl ([.ref h]) ++ List.replicate (4 - (lg_sl ([.ref h])).length) Slot.unset).toArray = ls at hl ⊢
  have hl : lv_has ls 4 [(0, .ref h)] := hl
  refine lv_aload_n hx hb dX6_writeFields_0 rfl (lv_at hl 0 rfl) ?_
  refine va_get (D := (dC, dI)) (ci := 7) (v := .ref sh) (C := RX6) (T := TX6) (N := 11) hx hb hts hinX6 hown hK hP 0 rfl rfl 6 (by decide) (hts (.fieldLink RX6 54 "ScanCodes" "signs" "LScanCodes$Row;") (by decide +kernel)) (fun _ h9 => h9) rfl dX6_writeFields_1 ?_
  have hPc := hP.sub (ws' := [(sh, .inr (4, [.ref sa, .int (nI sn)])), (sa, .inl (cI, 105, .inl sf))]) [10, 11] rfl
  have hDc := hD.sub (ws' := [(sh, .inr (4, [.ref sa, .int (nI sn)])), (sa, .inl (cI, 105, .inl sf))]) [10, 11] (by decide) rfl
  have hFc := va_free (wc := [(sh, .inr (4, [.ref sa, .int (nI sn)])), (sa, .inl (cI, 105, .inl sf))]) hD hS hA [10, 11] rfl
  refine va_callv (va_runV (As := []) (rest := []) ⟨hx, hb, hml, hown, hts⟩ (c_X3_empty l dC dI cI cZ cJ sh sa 105 sn sf s.heap.size) (zc_V 0 hts ggX6_writeFields_X3_empty rfl rfl rfl (by decide +kernel) (by decide +kernel) ⟨Nat.le_of_ble_eq_true rfl, Nat.le_of_ble_eq_true rfl⟩) ⟨zc_blindW, va_recv hK hP (ci := 4) (q0 := 10) rfl rfl, zc_payW hPc hK hDc⟩ rfl rfl hl.1 rfl (lv_room (Nat.le_of_ble_eq_true rfl)) dX6_writeFields_4 ⟨Nat.le_of_ble_eq_true rfl, Nat.le_of_ble_eq_true rfl⟩) hS (fun q _ h => hFc q h) hFc (fun uu t H1 locs ht hvm hw hB hz1 hk1 hS => ?_)
  obtain ⟨hP1, hK1, hD1⟩ := hB
  rw [ht] at hP1
  obtain ⟨hP, hD⟩ := va_join (wr := [(h, .inr (7, [.ref ch, .ref ph, .ref wh, .ref mh, .ref rh, .ref th, .ref sh, .ref kh, .ref lh, .int mm, .int lsec])), (ph, .inr (3, [.ref aL, .ref aF, .ref aS, .ref aN, .int z])), (aL, .inl (cI, 100, .inl L)), (aF, .inl (cZ, 100, .inl F)), (aS, .inl (cI, 100, .inl S)), (aN, .inl (cI, 100, .inl N)), (wh, .inr (2, [.ref wap, .ref wag, .ref wav, .int (nI wc)])), (wap, .inl (cI, 6, .inl wp)), (wag, .inl (cI, 6, .inl wg)), (wav, .inl (cJ, 6, .inr (.inl wv)))]) (w1 := [(sh, .inr (4, [.ref sa, .int (nI 0)])), (sa, .inl (cI, 105, .inl sf))]) hP hD [10, 11] [0, 1, 2, 3, 4, 5, 6, 7, 8, 9] rfl rfl (by decide) (by decide) hk1 hFc hP1 hD1
  generalize H1 = H at hP hS ⊢
  have hP := hP.sub (ws' := [(h, .inr (7, [.ref ch, .ref ph, .ref wh, .ref mh, .ref rh, .ref th, .ref sh, .ref kh, .ref lh, .int mm, .int lsec])), (ph, .inr (3, [.ref aL, .ref aF, .ref aS, .ref aN, .int z])), (aL, .inl (cI, 100, .inl L)), (aF, .inl (cZ, 100, .inl F)), (aS, .inl (cI, 100, .inl S)), (aN, .inl (cI, 100, .inl N)), (wh, .inr (2, [.ref wap, .ref wag, .ref wav, .int (nI wc)])), (wap, .inl (cI, 6, .inl wp)), (wag, .inl (cI, 6, .inl wg)), (wav, .inl (cJ, 6, .inr (.inl wv))), (sh, .inr (4, [.ref sa, .int (nI 0)])), (sa, .inl (cI, 105, .inl sf))]) [0, 1, 2, 3, 4, 5, 6, 7, 8, 9, 10, 11] rfl
  have hD := hD.sub (ws' := [(h, .inr (7, [.ref ch, .ref ph, .ref wh, .ref mh, .ref rh, .ref th, .ref sh, .ref kh, .ref lh, .int mm, .int lsec])), (ph, .inr (3, [.ref aL, .ref aF, .ref aS, .ref aN, .int z])), (aL, .inl (cI, 100, .inl L)), (aF, .inl (cZ, 100, .inl F)), (aS, .inl (cI, 100, .inl S)), (aN, .inl (cI, 100, .inl N)), (wh, .inr (2, [.ref wap, .ref wag, .ref wav, .int (nI wc)])), (wap, .inl (cI, 6, .inl wp)), (wag, .inl (cI, 6, .inl wg)), (wav, .inl (cJ, 6, .inr (.inl wv))), (sh, .inr (4, [.ref sa, .int (nI 0)])), (sa, .inl (cI, 105, .inl sf))]) [0, 1, 2, 3, 4, 5, 6, 7, 8, 9, 10, 11] (by decide) rfl
  refine lv_aload_n hx hb dX6_writeFields_7 rfl (lv_at hl 0 rfl) ?_
  refine va_get (D := (dC, dI)) (ci := 7) (v := .ref wh) (C := RX6) (T := TX6) (N := 11) hx hb hts hinX6 hown hK hP 0 rfl rfl 2 (by decide) (hts (.fieldLink RX6 37 "ScanCodes" "written" "LScanCodes$Fields;") (by decide +kernel)) (fun _ h9 => h9) rfl dX6_writeFields_8 ?_
  refine zc_callR (va_runV (As := []) (rest := []) ⟨hx, hb, hml, hown, hts⟩ (c_X1_size l dC dI cI cZ cJ wh wap wag wav wc wp wg wv) (zc_V 0 hts ggX6_writeFields_X1_size rfl rfl rfl (by decide +kernel) (by decide +kernel) ⟨Nat.le_of_ble_eq_true rfl, Nat.le_of_ble_eq_true rfl⟩) ⟨zc_blind, va_recv hK hP (ci := 2) (q0 := 6) rfl rfl, zc_pay (hP.sub (ws' := [(wh, .inr (2, [.ref wap, .ref wag, .ref wav, .int (nI wc)])), (wap, .inl (cI, 6, .inl wp)), (wag, .inl (cI, 6, .inl wg)), (wav, .inl (cJ, 6, .inr (.inl wv)))]) [6, 7, 8, 9] rfl) hK⟩ rfl rfl hl.1 rfl (lv_room (Nat.le_of_ble_eq_true rfl)) dX6_writeFields_11 ⟨Nat.le_of_ble_eq_true rfl, Nat.le_of_ble_eq_true rfl⟩) ?_
  refine lv_iconst (v := 1) hx hb dX6_writeFields_14 (by decide) ?_
  refine lv_isub hx hb dX6_writeFields_15 ?_
  refine zc_ti (y := nI (wc - 1)) (zn_pred hw1) ?_
  refine lv_istore_n (lv' := [(1, .int (nI (wc - 1))), (0, .ref h)]) hx hb dX6_writeFields_16 rfl hl (by decide) rfl (fun ls hl => ?_)
  refine lv_iconst (v := 0) hx hb dX6_writeFields_17 (by decide) ?_
  refine lv_istore_n (lv' := [(2, .int 0), (1, .int (nI (wc - 1))), (0, .ref h)]) hx hb dX6_writeFields_18 rfl hl (by decide) rfl (fun ls hl => ?_)
  refine zc_loopH (α := Nat) (fun i H locs ls => lv_has ls 4 [(2, .int (nI i)), (1, .int (nI (wc - 1))), (0, .ref h)] ∧ va_P (dC, dI) vwCl [(h, .inr (7, [.ref ch, .ref ph, .ref wh, .ref mh, .ref rh, .ref th, .ref sh, .ref kh, .ref lh, .int mm, .int lsec])), (ph, .inr (3, [.ref aL, .ref aF, .ref aS, .ref aN, .int z])), (aL, .inl (cI, 100, .inl L)), (aF, .inl (cZ, 100, .inl F)), (aS, .inl (cI, 100, .inl S)), (aN, .inl (cI, 100, .inl N)), (wh, .inr (2, [.ref wap, .ref wag, .ref wav, .int (nI wc)])), (wap, .inl (cI, 6, .inl wp)), (wag, .inl (cI, 6, .inl wg)), (wav, .inl (cJ, 6, .inr (.inl wv))), (sh, .inr (4, [.ref sa, .int (nI (zwn F wp wg wc i))])), (sa, .inl (cI, 105, .inl (zwr F wp wg wv wc sf i)))] H ∧ va_D A [(h, .inr (7, [.ref ch, .ref ph, .ref wh, .ref mh, .ref rh, .ref th, .ref sh, .ref kh, .ref lh, .int mm, .int lsec])), (ph, .inr (3, [.ref aL, .ref aF, .ref aS, .ref aN, .int z])), (aL, .inl (cI, 100, .inl L)), (aF, .inl (cZ, 100, .inl F)), (aS, .inl (cI, 100, .inl S)), (aN, .inl (cI, 100, .inl N)), (wh, .inr (2, [.ref wap, .ref wag, .ref wav, .int (nI wc)])), (wap, .inl (cI, 6, .inl wp)), (wag, .inl (cI, 6, .inl wg)), (wav, .inl (cJ, 6, .inr (.inl wv))), (sh, .inr (4, [.ref sa, .int (nI (zwn F wp wg wc i))])), (sa, .inl (cI, 105, .inl (zwr F wp wg wv wc sf i)))] ∧ va_S A s.heap H locs ∧ (i ≤ wc)) (fun i => wc - i) 0 ⟨lv_sub hl [0, 1, 2] rfl, by exact hP, by exact hD, hS, Nat.zero_le _⟩ ?_
  intro x H locs ls hI ih19
  obtain ⟨i, rfl⟩ : ∃ z, z = x := ⟨_, rfl⟩
  obtain ⟨hl, hP, hD, hS, hi1⟩ := hI
  have hl : lv_has ls 4 [(2, .int (nI i)), (1, .int (nI (wc - 1))), (0, .ref h)] := hl
  have hP : va_P (dC, dI) vwCl [(h, .inr (7, [.ref ch, .ref ph, .ref wh, .ref mh, .ref rh, .ref th, .ref sh, .ref kh, .ref lh, .int mm, .int lsec])), (ph, .inr (3, [.ref aL, .ref aF, .ref aS, .ref aN, .int z])), (aL, .inl (cI, 100, .inl L)), (aF, .inl (cZ, 100, .inl F)), (aS, .inl (cI, 100, .inl S)), (aN, .inl (cI, 100, .inl N)), (wh, .inr (2, [.ref wap, .ref wag, .ref wav, .int (nI wc)])), (wap, .inl (cI, 6, .inl wp)), (wag, .inl (cI, 6, .inl wg)), (wav, .inl (cJ, 6, .inr (.inl wv))), (sh, .inr (4, [.ref sa, .int (nI (zwn F wp wg wc i))])), (sa, .inl (cI, 105, .inl (zwr F wp wg wv wc sf i)))] H := hP
  have hD : va_D A [(h, .inr (7, [.ref ch, .ref ph, .ref wh, .ref mh, .ref rh, .ref th, .ref sh, .ref kh, .ref lh, .int mm, .int lsec])), (ph, .inr (3, [.ref aL, .ref aF, .ref aS, .ref aN, .int z])), (aL, .inl (cI, 100, .inl L)), (aF, .inl (cZ, 100, .inl F)), (aS, .inl (cI, 100, .inl S)), (aN, .inl (cI, 100, .inl N)), (wh, .inr (2, [.ref wap, .ref wag, .ref wav, .int (nI wc)])), (wap, .inl (cI, 6, .inl wp)), (wag, .inl (cI, 6, .inl wg)), (wav, .inl (cJ, 6, .inr (.inl wv))), (sh, .inr (4, [.ref sa, .int (nI (zwn F wp wg wc i))])), (sa, .inl (cI, 105, .inl (zwr F wp wg wv wc sf i)))] := hD
  try dsimp only at ih19
  refine lv_iload_n hx hb dX6_writeFields_19 rfl (lv_at hl 0 rfl) ?_
  refine lv_iload_n hx hb dX6_writeFields_20 rfl (lv_at hl 1 rfl) ?_
  refine lv_icmp_gt (tgt := 97) hx hb dX6_writeFields_21 (by decide) (fun c21 => ?_) (fun c21 => ?_)
  · have hgt := zn_lt c21 (by omega) (by omega)
    have hie : i = wc := by omega
    rw [hie] at hP hD
    have hP9 : va_P (dC, dI) vwCl [(h, .inr (7, [.ref ch, .ref ph, .ref wh, .ref mh, .ref rh, .ref th, .ref sh, .ref kh, .ref lh, .int mm, .int lsec])), (ph, .inr (3, [.ref aL, .ref aF, .ref aS, .ref aN, .int z])), (aL, .inl (cI, 100, .inl L)), (aF, .inl (cZ, 100, .inl F)), (aS, .inl (cI, 100, .inl S)), (aN, .inl (cI, 100, .inl N)), (wh, .inr (2, [.ref wap, .ref wag, .ref wav, .int (nI wc)])), (wap, .inl (cI, 6, .inl wp)), (wag, .inl (cI, 6, .inl wg)), (wav, .inl (cJ, 6, .inr (.inl wv))), (sh, .inr (4, [.ref sa, .int (nI (zwn F wp wg wc wc))])), (sa, .inl (cI, 105, .inl (zwr F wp wg wv wc sf wc)))] H := hP
    have hD9 : va_D A [(h, .inr (7, [.ref ch, .ref ph, .ref wh, .ref mh, .ref rh, .ref th, .ref sh, .ref kh, .ref lh, .int mm, .int lsec])), (ph, .inr (3, [.ref aL, .ref aF, .ref aS, .ref aN, .int z])), (aL, .inl (cI, 100, .inl L)), (aF, .inl (cZ, 100, .inl F)), (aS, .inl (cI, 100, .inl S)), (aN, .inl (cI, 100, .inl N)), (wh, .inr (2, [.ref wap, .ref wag, .ref wav, .int (nI wc)])), (wap, .inl (cI, 6, .inl wp)), (wag, .inl (cI, 6, .inl wg)), (wav, .inl (cJ, 6, .inr (.inl wv))), (sh, .inr (4, [.ref sa, .int (nI (zwn F wp wg wc wc))])), (sa, .inl (cI, 105, .inl (zwr F wp wg wv wc sf wc)))] := hD
    exact W.vret hx hb hr (fun t ht hW => ⟨⟨(), rfl, trivial, by rw [ht]; exact hP9, va_K.moved hW.alike hK, hD9⟩, hS.F ht⟩) hS.2.2 dX6_writeFields_97
  · have hle := zn_nlt c21 (by omega) (by omega)
    have hlt : i < wc := by omega
    have hk := hwk i hlt
    have hix := zp_ix hk.1.1 hk.1.2.1
    have hnb := zwn_le F wp wg wc (fun j hj => (hwk j hj).2.2) i (by omega)
    have hdb := hk.2.2
    refine lv_aload_n hx hb dX6_writeFields_24 rfl (lv_at hl 2 rfl) ?_
    refine va_get (D := (dC, dI)) (ci := 7) (v := .ref wh) (C := RX6) (T := TX6) (N := 11) hx hb hts hinX6 hown hK hP 0 rfl rfl 2 (by decide) (hts (.fieldLink RX6 37 "ScanCodes" "written" "LScanCodes$Fields;") (by decide +kernel)) (fun _ h9 => h9) rfl dX6_writeFields_25 ?_
    refine lv_iload_n hx hb dX6_writeFields_28 rfl (lv_at hl 0 rfl) ?_
    refine zc_callR (va_runV (As := [.int (nI i)]) (rest := []) ⟨hx, hb, hml, hown, hts⟩ (c_X1_prefixAt l dC dI cI cZ cJ wh wap wag wav wc wp wg wv i (by first | assumption | omega) (by first | assumption | omega)) (zc_V 1 hts ggX6_writeFields_X1_prefixAt rfl rfl rfl (by decide +kernel) (by decide +kernel) ⟨Nat.le_of_ble_eq_true rfl, Nat.le_of_ble_eq_true rfl⟩) ⟨zc_blind, va_recv hK hP (ci := 2) (q0 := 6) rfl rfl, zc_pay (hP.sub (ws' := [(wh, .inr (2, [.ref wap, .ref wag, .ref wav, .int (nI wc)])), (wap, .inl (cI, 6, .inl wp)), (wag, .inl (cI, 6, .inl wg)), (wav, .inl (cJ, 6, .inr (.inl wv)))]) [6, 7, 8, 9] rfl) hK⟩ rfl rfl hl.1 rfl (lv_room (Nat.le_of_ble_eq_true rfl)) dX6_writeFields_29 ⟨Nat.le_of_ble_eq_true rfl, Nat.le_of_ble_eq_true rfl⟩) ?_
    refine lv_istore_n (lv' := [(3, .int (wp i)), (2, .int (nI i)), (1, .int (nI (wc - 1))), (0, .ref h)]) hx hb dX6_writeFields_32 rfl hl (by decide) rfl (fun ls hl => ?_)
    refine lv_aload_n hx hb dX6_writeFields_33 rfl (lv_at hl 3 rfl) ?_
    refine va_get (D := (dC, dI)) (ci := 7) (v := .ref sh) (C := RX6) (T := TX6) (N := 11) hx hb hts hinX6 hown hK hP 0 rfl rfl 6 (by decide) (hts (.fieldLink RX6 54 "ScanCodes" "signs" "LScanCodes$Row;") (by decide +kernel)) (fun _ h9 => h9) rfl dX6_writeFields_34 ?_
    refine lv_iload_n hx hb dX6_writeFields_37 rfl (lv_at hl 0 rfl) ?_
    refine lv_i2l hx hb dX6_writeFields_38 rfl ?_
    refine lv_iconst (v := 2) hx hb dX6_writeFields_39 (by decide) ?_
    have hPc := hP.sub (ws' := [(sh, .inr (4, [.ref sa, .int (nI (zwn F wp wg wc i))])), (sa, .inl (cI, 105, .inl (zwr F wp wg wv wc sf i)))]) [10, 11] rfl
    have hDc := hD.sub (ws' := [(sh, .inr (4, [.ref sa, .int (nI (zwn F wp wg wc i))])), (sa, .inl (cI, 105, .inl (zwr F wp wg wv wc sf i)))]) [10, 11] (by decide) rfl
    have hFc := va_free (wc := [(sh, .inr (4, [.ref sa, .int (nI (zwn F wp wg wc i))])), (sa, .inl (cI, 105, .inl (zwr F wp wg wv wc sf i)))]) hD hS hA [10, 11] rfl
    refine va_callv (va_runV (As := [.long ((wp i).toInt64), .int 2]) (rest := []) ⟨hx, hb, hml, hown, hts⟩ (c_X3_addNumber l dC dI cI cZ cJ sh sa 105 (zwn F wp wg wc i) (zwr F wp wg wv wc sf i) ((wp i).toInt64) 2 (by omega) (by decide) H.size) (zc_V 2 hts ggX6_writeFields_X3_addNumber rfl rfl rfl (by decide +kernel) (by decide +kernel) ⟨Nat.le_of_ble_eq_true rfl, Nat.le_of_ble_eq_true rfl⟩) ⟨zc_blindW, va_recv hK hP (ci := 4) (q0 := 10) rfl rfl, zc_payW hPc hK hDc⟩ rfl rfl hl.1 rfl (lv_room (Nat.le_of_ble_eq_true rfl)) dX6_writeFields_40 ⟨Nat.le_of_ble_eq_true rfl, Nat.le_of_ble_eq_true rfl⟩) hS (fun q _ h => hFc q h) hFc (fun uu t H1 locs ht hvm hw hB hz1 hk1 hS => ?_)
    obtain ⟨hP1, hK1, hD1⟩ := hB
    rw [ht] at hP1
    obtain ⟨hP, hD⟩ := va_join (wr := [(h, .inr (7, [.ref ch, .ref ph, .ref wh, .ref mh, .ref rh, .ref th, .ref sh, .ref kh, .ref lh, .int mm, .int lsec])), (ph, .inr (3, [.ref aL, .ref aF, .ref aS, .ref aN, .int z])), (aL, .inl (cI, 100, .inl L)), (aF, .inl (cZ, 100, .inl F)), (aS, .inl (cI, 100, .inl S)), (aN, .inl (cI, 100, .inl N)), (wh, .inr (2, [.ref wap, .ref wag, .ref wav, .int (nI wc)])), (wap, .inl (cI, 6, .inl wp)), (wag, .inl (cI, 6, .inl wg)), (wav, .inl (cJ, 6, .inr (.inl wv)))]) (w1 := [(sh, .inr (4, [.ref sa, .int (nI ((zwn F wp wg wc i) + 2))])), (sa, .inl (cI, 105, .inl (zr_an (zwr F wp wg wv wc sf i) (zwn F wp wg wc i) 2 ((wp i).toInt64))))]) hP hD [10, 11] [0, 1, 2, 3, 4, 5, 6, 7, 8, 9] rfl rfl (by decide) (by decide) hk1 hFc hP1 hD1
    generalize H1 = H at hP hS ⊢
    have hP := hP.sub (ws' := [(h, .inr (7, [.ref ch, .ref ph, .ref wh, .ref mh, .ref rh, .ref th, .ref sh, .ref kh, .ref lh, .int mm, .int lsec])), (ph, .inr (3, [.ref aL, .ref aF, .ref aS, .ref aN, .int z])), (aL, .inl (cI, 100, .inl L)), (aF, .inl (cZ, 100, .inl F)), (aS, .inl (cI, 100, .inl S)), (aN, .inl (cI, 100, .inl N)), (wh, .inr (2, [.ref wap, .ref wag, .ref wav, .int (nI wc)])), (wap, .inl (cI, 6, .inl wp)), (wag, .inl (cI, 6, .inl wg)), (wav, .inl (cJ, 6, .inr (.inl wv))), (sh, .inr (4, [.ref sa, .int (nI ((zwn F wp wg wc i) + 2))])), (sa, .inl (cI, 105, .inl (zr_an (zwr F wp wg wv wc sf i) (zwn F wp wg wc i) 2 ((wp i).toInt64))))]) [0, 1, 2, 3, 4, 5, 6, 7, 8, 9, 10, 11] rfl
    have hD := hD.sub (ws' := [(h, .inr (7, [.ref ch, .ref ph, .ref wh, .ref mh, .ref rh, .ref th, .ref sh, .ref kh, .ref lh, .int mm, .int lsec])), (ph, .inr (3, [.ref aL, .ref aF, .ref aS, .ref aN, .int z])), (aL, .inl (cI, 100, .inl L)), (aF, .inl (cZ, 100, .inl F)), (aS, .inl (cI, 100, .inl S)), (aN, .inl (cI, 100, .inl N)), (wh, .inr (2, [.ref wap, .ref wag, .ref wav, .int (nI wc)])), (wap, .inl (cI, 6, .inl wp)), (wag, .inl (cI, 6, .inl wg)), (wav, .inl (cJ, 6, .inr (.inl wv))), (sh, .inr (4, [.ref sa, .int (nI ((zwn F wp wg wc i) + 2))])), (sa, .inl (cI, 105, .inl (zr_an (zwr F wp wg wv wc sf i) (zwn F wp wg wc i) 2 ((wp i).toInt64))))]) [0, 1, 2, 3, 4, 5, 6, 7, 8, 9, 10, 11] (by decide) rfl
    refine lv_aload_n hx hb dX6_writeFields_43 rfl (lv_at hl 3 rfl) ?_
    refine va_get (D := (dC, dI)) (ci := 7) (v := .ref sh) (C := RX6) (T := TX6) (N := 11) hx hb hts hinX6 hown hK hP 0 rfl rfl 6 (by decide) (hts (.fieldLink RX6 54 "ScanCodes" "signs" "LScanCodes$Row;") (by decide +kernel)) (fun _ h9 => h9) rfl dX6_writeFields_44 ?_
    refine lv_aload_n hx hb dX6_writeFields_47 rfl (lv_at hl 3 rfl) ?_
    refine va_get (D := (dC, dI)) (ci := 7) (v := .ref wh) (C := RX6) (T := TX6) (N := 11) hx hb hts hinX6 hown hK hP 0 rfl rfl 2 (by decide) (hts (.fieldLink RX6 37 "ScanCodes" "written" "LScanCodes$Fields;") (by decide +kernel)) (fun _ h9 => h9) rfl dX6_writeFields_48 ?_
    refine lv_iload_n hx hb dX6_writeFields_51 rfl (lv_at hl 1 rfl) ?_
    refine zc_callR (va_runV (As := [.int (nI i)]) (rest := [.ref sh]) ⟨hx, hb, hml, hown, hts⟩ (c_X1_numberAt l dC dI cI cZ cJ wh wap wag wav wc wp wg wv i (by first | assumption | omega) (by first | assumption | omega)) (zc_V 1 hts ggX6_writeFields_X1_numberAt rfl rfl rfl (by decide +kernel) (by decide +kernel) ⟨Nat.le_of_ble_eq_true rfl, Nat.le_of_ble_eq_true rfl⟩) ⟨zc_blind, va_recv hK hP (ci := 2) (q0 := 6) rfl rfl, zc_pay (hP.sub (ws' := [(wh, .inr (2, [.ref wap, .ref wag, .ref wav, .int (nI wc)])), (wap, .inl (cI, 6, .inl wp)), (wag, .inl (cI, 6, .inl wg)), (wav, .inl (cJ, 6, .inr (.inl wv)))]) [6, 7, 8, 9] rfl) hK⟩ rfl rfl hl.1 rfl (lv_room (Nat.le_of_ble_eq_true rfl)) dX6_writeFields_52 ⟨Nat.le_of_ble_eq_true rfl, Nat.le_of_ble_eq_true rfl⟩) ?_
    refine lv_aload_n hx hb dX6_writeFields_55 rfl (lv_at hl 3 rfl) ?_
    refine va_get (D := (dC, dI)) (ci := 7) (v := .ref wh) (C := RX6) (T := TX6) (N := 11) hx hb hts hinX6 hown hK hP 0 rfl rfl 2 (by decide) (hts (.fieldLink RX6 37 "ScanCodes" "written" "LScanCodes$Fields;") (by decide +kernel)) (fun _ h9 => h9) rfl dX6_writeFields_56 ?_
    refine lv_iload_n hx hb dX6_writeFields_59 rfl (lv_at hl 1 rfl) ?_
    refine zc_callR (va_runV (As := [.int (nI i)]) (rest := [.long (wv i), .ref sh]) ⟨hx, hb, hml, hown, hts⟩ (c_X1_digitsAt l dC dI cI cZ cJ wh wap wag wav wc wp wg wv i (by first | assumption | omega) (by first | assumption | omega)) (zc_V 1 hts ggX6_writeFields_X1_digitsAt rfl rfl rfl (by decide +kernel) (by decide +kernel) ⟨Nat.le_of_ble_eq_true rfl, Nat.le_of_ble_eq_true rfl⟩) ⟨zc_blind, va_recv hK hP (ci := 2) (q0 := 6) rfl rfl, zc_pay (hP.sub (ws' := [(wh, .inr (2, [.ref wap, .ref wag, .ref wav, .int (nI wc)])), (wap, .inl (cI, 6, .inl wp)), (wag, .inl (cI, 6, .inl wg)), (wav, .inl (cJ, 6, .inr (.inl wv)))]) [6, 7, 8, 9] rfl) hK⟩ rfl rfl hl.1 rfl (lv_room (Nat.le_of_ble_eq_true rfl)) dX6_writeFields_60 ⟨Nat.le_of_ble_eq_true rfl, Nat.le_of_ble_eq_true rfl⟩) ?_
    refine zc_ti (y := nI (zdg wg i)) (hk.2.1) ?_
    have hPc := hP.sub (ws' := [(sh, .inr (4, [.ref sa, .int (nI ((zwn F wp wg wc i) + 2))])), (sa, .inl (cI, 105, .inl (zr_an (zwr F wp wg wv wc sf i) (zwn F wp wg wc i) 2 ((wp i).toInt64))))]) [10, 11] rfl
    have hDc := hD.sub (ws' := [(sh, .inr (4, [.ref sa, .int (nI ((zwn F wp wg wc i) + 2))])), (sa, .inl (cI, 105, .inl (zr_an (zwr F wp wg wv wc sf i) (zwn F wp wg wc i) 2 ((wp i).toInt64))))]) [10, 11] (by decide) rfl
    have hFc := va_free (wc := [(sh, .inr (4, [.ref sa, .int (nI ((zwn F wp wg wc i) + 2))])), (sa, .inl (cI, 105, .inl (zr_an (zwr F wp wg wv wc sf i) (zwn F wp wg wc i) 2 ((wp i).toInt64))))]) hD hS hA [10, 11] rfl
    refine va_callv (va_runV (As := [.long (wv i), .int (nI (zdg wg i))]) (rest := []) ⟨hx, hb, hml, hown, hts⟩ (c_X3_addNumber l dC dI cI cZ cJ sh sa 105 ((zwn F wp wg wc i) + 2) (zr_an (zwr F wp wg wv wc sf i) (zwn F wp wg wc i) 2 ((wp i).toInt64)) (wv i) (zdg wg i) (by omega) (by decide) H.size) (zc_V 2 hts ggX6_writeFields_X3_addNumber rfl rfl rfl (by decide +kernel) (by decide +kernel) ⟨Nat.le_of_ble_eq_true rfl, Nat.le_of_ble_eq_true rfl⟩) ⟨zc_blindW, va_recv hK hP (ci := 4) (q0 := 10) rfl rfl, zc_payW hPc hK hDc⟩ rfl rfl hl.1 rfl (lv_room (Nat.le_of_ble_eq_true rfl)) dX6_writeFields_63 ⟨Nat.le_of_ble_eq_true rfl, Nat.le_of_ble_eq_true rfl⟩) hS (fun q _ h => hFc q h) hFc (fun uu t H1 locs ht hvm hw hB hz1 hk1 hS => ?_)
    obtain ⟨hP1, hK1, hD1⟩ := hB
    rw [ht] at hP1
    obtain ⟨hP, hD⟩ := va_join (wr := [(h, .inr (7, [.ref ch, .ref ph, .ref wh, .ref mh, .ref rh, .ref th, .ref sh, .ref kh, .ref lh, .int mm, .int lsec])), (ph, .inr (3, [.ref aL, .ref aF, .ref aS, .ref aN, .int z])), (aL, .inl (cI, 100, .inl L)), (aF, .inl (cZ, 100, .inl F)), (aS, .inl (cI, 100, .inl S)), (aN, .inl (cI, 100, .inl N)), (wh, .inr (2, [.ref wap, .ref wag, .ref wav, .int (nI wc)])), (wap, .inl (cI, 6, .inl wp)), (wag, .inl (cI, 6, .inl wg)), (wav, .inl (cJ, 6, .inr (.inl wv)))]) (w1 := [(sh, .inr (4, [.ref sa, .int (nI (((zwn F wp wg wc i) + 2) + (zdg wg i)))])), (sa, .inl (cI, 105, .inl (zr_an (zr_an (zwr F wp wg wv wc sf i) (zwn F wp wg wc i) 2 ((wp i).toInt64)) ((zwn F wp wg wc i) + 2) (zdg wg i) (wv i))))]) hP hD [10, 11] [0, 1, 2, 3, 4, 5, 6, 7, 8, 9] rfl rfl (by decide) (by decide) hk1 hFc hP1 hD1
    generalize H1 = H at hP hS ⊢
    have hP := hP.sub (ws' := [(h, .inr (7, [.ref ch, .ref ph, .ref wh, .ref mh, .ref rh, .ref th, .ref sh, .ref kh, .ref lh, .int mm, .int lsec])), (ph, .inr (3, [.ref aL, .ref aF, .ref aS, .ref aN, .int z])), (aL, .inl (cI, 100, .inl L)), (aF, .inl (cZ, 100, .inl F)), (aS, .inl (cI, 100, .inl S)), (aN, .inl (cI, 100, .inl N)), (wh, .inr (2, [.ref wap, .ref wag, .ref wav, .int (nI wc)])), (wap, .inl (cI, 6, .inl wp)), (wag, .inl (cI, 6, .inl wg)), (wav, .inl (cJ, 6, .inr (.inl wv))), (sh, .inr (4, [.ref sa, .int (nI (((zwn F wp wg wc i) + 2) + (zdg wg i)))])), (sa, .inl (cI, 105, .inl (zr_an (zr_an (zwr F wp wg wv wc sf i) (zwn F wp wg wc i) 2 ((wp i).toInt64)) ((zwn F wp wg wc i) + 2) (zdg wg i) (wv i))))]) [0, 1, 2, 3, 4, 5, 6, 7, 8, 9, 10, 11] rfl
    have hD := hD.sub (ws' := [(h, .inr (7, [.ref ch, .ref ph, .ref wh, .ref mh, .ref rh, .ref th, .ref sh, .ref kh, .ref lh, .int mm, .int lsec])), (ph, .inr (3, [.ref aL, .ref aF, .ref aS, .ref aN, .int z])), (aL, .inl (cI, 100, .inl L)), (aF, .inl (cZ, 100, .inl F)), (aS, .inl (cI, 100, .inl S)), (aN, .inl (cI, 100, .inl N)), (wh, .inr (2, [.ref wap, .ref wag, .ref wav, .int (nI wc)])), (wap, .inl (cI, 6, .inl wp)), (wag, .inl (cI, 6, .inl wg)), (wav, .inl (cJ, 6, .inr (.inl wv))), (sh, .inr (4, [.ref sa, .int (nI (((zwn F wp wg wc i) + 2) + (zdg wg i)))])), (sa, .inl (cI, 105, .inl (zr_an (zr_an (zwr F wp wg wv wc sf i) (zwn F wp wg wc i) 2 ((wp i).toInt64)) ((zwn F wp wg wc i) + 2) (zdg wg i) (wv i))))]) [0, 1, 2, 3, 4, 5, 6, 7, 8, 9, 10, 11] (by decide) rfl
    refine lv_iload_n hx hb dX6_writeFields_66 rfl (lv_at hl 1 rfl) ?_
    refine lv_iload_n hx hb dX6_writeFields_67 rfl (lv_at hl 2 rfl) ?_
    refine lv_icmp_ge (tgt := 91) hx hb dX6_writeFields_68 (by decide) (fun c68 => ?_) (fun c68 => ?_)
    · have hge := zn_le c68 (by omega) (by omega)
      have hsp : ¬ zsep F wp wc i := fun q => by have := q.1; omega
      refine lv_iinc (v := nI (i + 1)) (lv' := [(2, .int (nI (i + 1))), (3, .int (wp i)), (1, .int (nI (wc - 1))), (0, .ref h)]) hx hb dX6_writeFields_91 hl (k := 1) rfl (nI_1 i) (by decide) rfl (fun ls hl => ?_)
      refine lv_goto (tgt := 19) hx hb dX6_writeFields_94 (by decide) ?_
      have hn1 : zwn F wp wg wc (i + 1) = zwn F wp wg wc i + 2 + zdg wg i := by rw [zwn, zi_f hsp, Nat.add_zero]
      have hr1 := zwr_f (wg := wg) (wv := wv) (sf := sf) hsp
      rw [← hn1, ← hr1] at hP hD
      exact ih19 (i + 1) _ _ _ (by omega) ⟨lv_sub hl [0, 2, 3] rfl, by first | exact hP | exact hP.sub [0, 1, 2, 3, 4, 5, 6, 7, 8, 9, 10, 11] rfl, by first | exact hD, hS, hlt⟩
    · have hlt2 := zn_nle c68 (by omega) (by omega)
      refine lv_aload_n hx hb dX6_writeFields_71 rfl (lv_at hl 3 rfl) ?_
      refine va_get (D := (dC, dI)) (ci := 7) (v := .ref ph) (C := RX6) (T := TX6) (N := 11) hx hb hts hinX6 hown hK hP 0 rfl rfl 1 (by decide) (hts (.fieldLink RX6 30 "ScanCodes" "prefixes" "LScanCodes$Prefixes;") (by decide +kernel)) (fun _ h9 => h9) rfl dX6_writeFields_72 ?_
      refine lv_iload_n hx hb dX6_writeFields_75 rfl (lv_at hl 0 rfl) ?_
      refine zc_ti (y := nI (wp i).toNatClampNeg) (hix.1) ?_
      refine zc_callR (va_runV (As := [.int (nI (wp i).toNatClampNeg)]) (rest := []) ⟨hx, hb, hml, hown, hts⟩ (c_X2_isFixed l dC dI cI cZ cJ ph aL aF aS aN z L F S N ((wp i).toNatClampNeg) hix.2.2 (by omega) hk.1.2.2) (zc_V 1 hts ggX6_writeFields_X2_isFixed rfl rfl rfl (by decide +kernel) (by decide +kernel) ⟨Nat.le_of_ble_eq_true rfl, Nat.le_of_ble_eq_true rfl⟩) ⟨zc_blind, va_recv hK hP (ci := 3) (q0 := 1) rfl rfl, zc_pay (hP.sub (ws' := [(ph, .inr (3, [.ref aL, .ref aF, .ref aS, .ref aN, .int z])), (aL, .inl (cI, 100, .inl L)), (aF, .inl (cZ, 100, .inl F)), (aS, .inl (cI, 100, .inl S)), (aN, .inl (cI, 100, .inl N))]) [1, 2, 3, 4, 5] rfl) hK⟩ rfl rfl hl.1 rfl (lv_room (Nat.le_of_ble_eq_true rfl)) dX6_writeFields_76 ⟨Nat.le_of_ble_eq_true rfl, Nat.le_of_ble_eq_true rfl⟩) ?_
      refine lv_if_ne (tgt := 91) hx hb dX6_writeFields_79 (by decide) (fun c79 => ?_) (fun c79 => ?_)
      · have hfx := zb_1 c79
        have hsp : ¬ zsep F wp wc i := fun q => hfx q.2
        refine lv_iinc (v := nI (i + 1)) (lv' := [(2, .int (nI (i + 1))), (3, .int (wp i)), (1, .int (nI (wc - 1))), (0, .ref h)]) hx hb dX6_writeFields_91 hl (k := 1) rfl (nI_1 i) (by decide) rfl (fun ls hl => ?_)
        refine lv_goto (tgt := 19) hx hb dX6_writeFields_94 (by decide) ?_
        have hn1 : zwn F wp wg wc (i + 1) = zwn F wp wg wc i + 2 + zdg wg i := by rw [zwn, zi_f hsp, Nat.add_zero]
        have hr1 := zwr_f (wg := wg) (wv := wv) (sf := sf) hsp
        rw [← hn1, ← hr1] at hP hD
        exact ih19 (i + 1) _ _ _ (by omega) ⟨lv_sub hl [0, 2, 3] rfl, by first | exact hP | exact hP.sub [0, 1, 2, 3, 4, 5, 6, 7, 8, 9, 10, 11] rfl, by first | exact hD, hS, hlt⟩
      · have hfx : F (wp i).toNatClampNeg = 0 := Classical.byContradiction (zb_0 c79)
        have hsp : zsep F wp wc i := ⟨by omega, hfx⟩
        refine lv_aload_n hx hb dX6_writeFields_82 rfl (lv_at hl 3 rfl) ?_
        refine va_get (D := (dC, dI)) (ci := 7) (v := .ref sh) (C := RX6) (T := TX6) (N := 11) hx hb hts hinX6 hown hK hP 0 rfl rfl 6 (by decide) (hts (.fieldLink RX6 54 "ScanCodes" "signs" "LScanCodes$Row;") (by decide +kernel)) (fun _ h9 => h9) rfl dX6_writeFields_83 ?_
        refine lv_bipush (v := 10) hx hb dX6_writeFields_86 (by decide) ?_
        have hPc := hP.sub (ws' := [(sh, .inr (4, [.ref sa, .int (nI (((zwn F wp wg wc i) + 2) + (zdg wg i)))])), (sa, .inl (cI, 105, .inl (zr_an (zr_an (zwr F wp wg wv wc sf i) (zwn F wp wg wc i) 2 ((wp i).toInt64)) ((zwn F wp wg wc i) + 2) (zdg wg i) (wv i))))]) [10, 11] rfl
        have hDc := hD.sub (ws' := [(sh, .inr (4, [.ref sa, .int (nI (((zwn F wp wg wc i) + 2) + (zdg wg i)))])), (sa, .inl (cI, 105, .inl (zr_an (zr_an (zwr F wp wg wv wc sf i) (zwn F wp wg wc i) 2 ((wp i).toInt64)) ((zwn F wp wg wc i) + 2) (zdg wg i) (wv i))))]) [10, 11] (by decide) rfl
        have hFc := va_free (wc := [(sh, .inr (4, [.ref sa, .int (nI (((zwn F wp wg wc i) + 2) + (zdg wg i)))])), (sa, .inl (cI, 105, .inl (zr_an (zr_an (zwr F wp wg wv wc sf i) (zwn F wp wg wc i) 2 ((wp i).toInt64)) ((zwn F wp wg wc i) + 2) (zdg wg i) (wv i))))]) hD hS hA [10, 11] rfl
        refine va_callv (va_runV (As := [.int 10]) (rest := []) ⟨hx, hb, hml, hown, hts⟩ (c_X3_add l dC dI cI cZ cJ sh sa 105 (((zwn F wp wg wc i) + 2) + (zdg wg i)) (zr_an (zr_an (zwr F wp wg wv wc sf i) (zwn F wp wg wc i) 2 ((wp i).toInt64)) ((zwn F wp wg wc i) + 2) (zdg wg i) (wv i)) 10 (by omega) (by decide) H.size) (zc_V 1 hts ggX6_writeFields_X3_add rfl rfl rfl (by decide +kernel) (by decide +kernel) ⟨Nat.le_of_ble_eq_true rfl, Nat.le_of_ble_eq_true rfl⟩) ⟨zc_blindW, va_recv hK hP (ci := 4) (q0 := 10) rfl rfl, zc_payW hPc hK hDc⟩ rfl rfl hl.1 rfl (lv_room (Nat.le_of_ble_eq_true rfl)) dX6_writeFields_88 ⟨Nat.le_of_ble_eq_true rfl, Nat.le_of_ble_eq_true rfl⟩) hS (fun q _ h => hFc q h) hFc (fun uu t H1 locs ht hvm hw hB hz1 hk1 hS => ?_)
        obtain ⟨hP1, hK1, hD1⟩ := hB
        rw [ht] at hP1
        obtain ⟨hP, hD⟩ := va_join (wr := [(h, .inr (7, [.ref ch, .ref ph, .ref wh, .ref mh, .ref rh, .ref th, .ref sh, .ref kh, .ref lh, .int mm, .int lsec])), (ph, .inr (3, [.ref aL, .ref aF, .ref aS, .ref aN, .int z])), (aL, .inl (cI, 100, .inl L)), (aF, .inl (cZ, 100, .inl F)), (aS, .inl (cI, 100, .inl S)), (aN, .inl (cI, 100, .inl N)), (wh, .inr (2, [.ref wap, .ref wag, .ref wav, .int (nI wc)])), (wap, .inl (cI, 6, .inl wp)), (wag, .inl (cI, 6, .inl wg)), (wav, .inl (cJ, 6, .inr (.inl wv)))]) (w1 := [(sh, .inr (4, [.ref sa, .int (nI ((((zwn F wp wg wc i) + 2) + (zdg wg i)) + 1))])), (sa, .inl (cI, 105, .inl (upd (zr_an (zr_an (zwr F wp wg wv wc sf i) (zwn F wp wg wc i) 2 ((wp i).toInt64)) ((zwn F wp wg wc i) + 2) (zdg wg i) (wv i)) (((zwn F wp wg wc i) + 2) + (zdg wg i)) 10)))]) hP hD [10, 11] [0, 1, 2, 3, 4, 5, 6, 7, 8, 9] rfl rfl (by decide) (by decide) hk1 hFc hP1 hD1
        generalize H1 = H at hP hS ⊢
        have hP := hP.sub (ws' := [(h, .inr (7, [.ref ch, .ref ph, .ref wh, .ref mh, .ref rh, .ref th, .ref sh, .ref kh, .ref lh, .int mm, .int lsec])), (ph, .inr (3, [.ref aL, .ref aF, .ref aS, .ref aN, .int z])), (aL, .inl (cI, 100, .inl L)), (aF, .inl (cZ, 100, .inl F)), (aS, .inl (cI, 100, .inl S)), (aN, .inl (cI, 100, .inl N)), (wh, .inr (2, [.ref wap, .ref wag, .ref wav, .int (nI wc)])), (wap, .inl (cI, 6, .inl wp)), (wag, .inl (cI, 6, .inl wg)), (wav, .inl (cJ, 6, .inr (.inl wv))), (sh, .inr (4, [.ref sa, .int (nI ((((zwn F wp wg wc i) + 2) + (zdg wg i)) + 1))])), (sa, .inl (cI, 105, .inl (upd (zr_an (zr_an (zwr F wp wg wv wc sf i) (zwn F wp wg wc i) 2 ((wp i).toInt64)) ((zwn F wp wg wc i) + 2) (zdg wg i) (wv i)) (((zwn F wp wg wc i) + 2) + (zdg wg i)) 10)))]) [0, 1, 2, 3, 4, 5, 6, 7, 8, 9, 10, 11] rfl
        have hD := hD.sub (ws' := [(h, .inr (7, [.ref ch, .ref ph, .ref wh, .ref mh, .ref rh, .ref th, .ref sh, .ref kh, .ref lh, .int mm, .int lsec])), (ph, .inr (3, [.ref aL, .ref aF, .ref aS, .ref aN, .int z])), (aL, .inl (cI, 100, .inl L)), (aF, .inl (cZ, 100, .inl F)), (aS, .inl (cI, 100, .inl S)), (aN, .inl (cI, 100, .inl N)), (wh, .inr (2, [.ref wap, .ref wag, .ref wav, .int (nI wc)])), (wap, .inl (cI, 6, .inl wp)), (wag, .inl (cI, 6, .inl wg)), (wav, .inl (cJ, 6, .inr (.inl wv))), (sh, .inr (4, [.ref sa, .int (nI ((((zwn F wp wg wc i) + 2) + (zdg wg i)) + 1))])), (sa, .inl (cI, 105, .inl (upd (zr_an (zr_an (zwr F wp wg wv wc sf i) (zwn F wp wg wc i) 2 ((wp i).toInt64)) ((zwn F wp wg wc i) + 2) (zdg wg i) (wv i)) (((zwn F wp wg wc i) + 2) + (zdg wg i)) 10)))]) [0, 1, 2, 3, 4, 5, 6, 7, 8, 9, 10, 11] (by decide) rfl
        refine lv_iinc (v := nI (i + 1)) (lv' := [(2, .int (nI (i + 1))), (3, .int (wp i)), (1, .int (nI (wc - 1))), (0, .ref h)]) hx hb dX6_writeFields_91 hl (k := 1) rfl (nI_1 i) (by decide) rfl (fun ls hl => ?_)
        refine lv_goto (tgt := 19) hx hb dX6_writeFields_94 (by decide) ?_
        have hn1 : zwn F wp wg wc (i + 1) = zwn F wp wg wc i + 2 + zdg wg i + 1 := by rw [zwn, zi_t hsp]
        have hr1 := zwr_t (wg := wg) (wv := wv) (sf := sf) hsp
        rw [← hn1, ← hr1] at hP hD
        exact ih19 (i + 1) _ _ _ (by omega) ⟨lv_sub hl [0, 2, 3] rfl, by first | exact hP | exact hP.sub [0, 1, 2, 3, 4, 5, 6, 7, 8, 9, 10, 11] rfl, by first | exact hD, hS, hlt⟩
set_option maxHeartbeats 4000000 in
set_option maxRecDepth 100000 in
theorem c_X6_count (l : Launch) (dC : Nat → ClassId) (dI : Nat → Nat → Nat) (cI cZ cJ : ClassId) (h : Nat) (ch : Nat) (ph : Nat) (wh : Nat) (mh : Nat) (rh : Nat) (th : Nat) (sh : Nat) (kh : Nat) (lh : Nat) (mm : Int32) (lsec : Int32) (fm : Nat) (md : Int32) (aL : Nat) (aF : Nat) (aS : Nat) (aN : Nat) (z : Int32) (L : Nat → Int32) (F : Nat → Int32) (S : Nat → Int32) (N : Nat → Int32) (wap : Nat) (wag : Nat) (wav : Nat) (wc : Nat) (wp : Nat → Int32) (wg : Nat → Int32) (wv : Nat → Int64) (ma : Nat) (mn : Nat) (mf : Nat → Int32) (ra : Nat) (rn : Nat) (rf : Nat → Int32) (ta : Nat) (tn : Nat) (tf : Nat → Int32) (u : Int32) (fh : Nat) (ap : Nat) (ag : Nat) (av : Nat) (fc : Nat) (fp : Nat → Int32) (fg : Nat → Int32) (fv : Nat → Int64) (aK : Nat) (aT : Nat) (lb : Nat) (K : Nat → Int64) (T : Nat → Int32) (x : Int32) : Met l yX6_count wsX6_count ({ frames := 1, cells := 0, slots := 0, locals := 20 }) (zc_P [.ref h, .int x] (dC, dI) (zc_T cI cZ cJ) [(h, .inr (7, [.ref ch, .ref ph, .ref wh, .ref mh, .ref rh, .ref th, .ref sh, .ref kh, .ref lh, .int mm, .int lsec])), (ch, .inr (1, [.int (nI fm), .int (nI (zw fm)), .int md])), (ph, .inr (3, [.ref aL, .ref aF, .ref aS, .ref aN, .int z])), (aL, .inl (cI, 100, .inl L)), (aF, .inl (cZ, 100, .inl F)), (aS, .inl (cI, 100, .inl S)), (aN, .inl (cI, 100, .inl N)), (wh, .inr (2, [.ref wap, .ref wag, .ref wav, .int (nI wc)])), (wap, .inl (cI, 6, .inl wp)), (wag, .inl (cI, 6, .inl wg)), (wav, .inl (cJ, 6, .inr (.inl wv))), (mh, .inr (4, [.ref ma, .int (nI mn)])), (ma, .inl (cI, 420, .inl mf)), (rh, .inr (4, [.ref ra, .int (nI rn)])), (ra, .inl (cI, 420, .inl rf)), (th, .inr (4, [.ref ta, .int (nI tn)])), (ta, .inl (cI, 60, .inl tf)), (kh, .inr (6, [.ref ph, .ref fh, .int u])), (fh, .inr (2, [.ref ap, .ref ag, .ref av, .int (nI fc)])), (ap, .inl (cI, 6, .inl fp)), (ag, .inl (cI, 6, .inl fg)), (av, .inl (cJ, 6, .inr (.inl fv))), (lh, .inr (5, [.ref aK, .ref aT, .int (nI lb)])), (aK, .inl (cJ, 240, .inr (.inl K))), (aT, .inl (cI, 320, .inl T))]) (zc_Q (.int (if x = 0 then z else if x = 1 then nI wc else if x = 2 then nI mn else if x = 3 then nI rn else if x = 4 then nI tn else if x = 5 then nI fc else if x = 6 then nI lb else if x = 7 then nI fm else -1))) 0 0 (fun _ => False) := by
  refine Met.ofW (cc := cX6_count) (maxL := 2) (ret := (some .int)) (by decide) rfl ?_
  intro p e s m args below meth c s₁ B hml hv
  obtain ⟨rfl, hP, hK⟩ := hv
  have hx := B.exec
  have hb := B.bytes
  have hr := B.returns
  have hts := atoms_spec (ws := wsX6_count) B.pre
  have hown : s.vm.findClass RX6 = some m.cls := findClass_of_methodNamed B.named
  have hlocks := B.notSynchronized
  have hinX6 : ∀ w ∈ wsX60, w ∈ wsX6_count := by decide +kernel
  have hl := lv_entry ([.ref h, .int x]) (n := 2) (Nat.le_of_ble_eq_true rfl)
  rw [lg_entry_eq]
  generalize (lg_sl ([.ref h, .int x]) ++ List.replicate (2 - (lg_sl ([.ref h, .int x])).length) Slot.unset).toArray = ls at hl ⊢
  have hl : lv_has ls 2 [(0, .ref h), (1, .int x)] := hl
  refine lv_iload_n hx hb dX6_count_0 rfl (lv_at hl 1 rfl) ?_
  by_cases q0 : x = 0
  · refine lv_tableIn (tgt := 48) hx hb dX6_count_1 (by rw [q0]; decide) (by rw [q0]; decide) (by rw [q0]; rfl) (by decide) ?_
    refine lv_aload_n hx hb dX6_count_48 rfl (lv_at hl 0 rfl) ?_
    refine va_get (D := (dC, dI)) (ci := 7) (v := .ref ph) (C := RX6) (T := TX6) (N := 11) hx hb hts hinX6 hown hK hP 0 rfl rfl 1 (by decide) (hts (.fieldLink RX6 30 "ScanCodes" "prefixes" "LScanCodes$Prefixes;") (by decide +kernel)) (fun _ h9 => h9) rfl dX6_count_49 ?_
    refine zc_callR (va_runV (As := []) (rest := []) ⟨hx, hb, hml, hown, hts⟩ (c_X2_size l dC dI cI cZ cJ ph aL aF aS aN z L F S N) (zc_V 0 hts ggX6_count_X2_size rfl rfl rfl (by decide +kernel) (by decide +kernel) ⟨Nat.le_of_ble_eq_true rfl, Nat.le_of_ble_eq_true rfl⟩) ⟨zc_blind, va_recv hK hP (ci := 3) (q0 := 2) rfl rfl, zc_pay (hP.sub (ws' := [(ph, .inr (3, [.ref aL, .ref aF, .ref aS, .ref aN, .int z])), (aL, .inl (cI, 100, .inl L)), (aF, .inl (cZ, 100, .inl F)), (aS, .inl (cI, 100, .inl S)), (aN, .inl (cI, 100, .inl N))]) [2, 3, 4, 5, 6] rfl) hK⟩ rfl rfl hl.1 rfl (lv_room (Nat.le_of_ble_eq_true rfl)) dX6_count_52 ⟨Nat.le_of_ble_eq_true rfl, Nat.le_of_ble_eq_true rfl⟩) ?_
    have hres : z = if x = 0 then z else if x = 1 then nI wc else if x = 2 then nI mn else if x = 3 then nI rn else if x = 4 then nI tn else if x = 5 then nI fc else if x = 6 then nI lb else if x = 7 then nI fm else -1 := by rw [if_pos q0]
    exact W.iret (v := z) hx hb hr (fun t ht _ => ⟨congrArg (fun z => Outcome.returned (some (Value.int z))) hres, ht⟩) (fun _ h => nomatch h) dX6_count_55
  by_cases q1 : x = 1
  · refine lv_tableIn (tgt := 56) hx hb dX6_count_1 (by rw [q1]; decide) (by rw [q1]; decide) (by rw [q1]; rfl) (by decide) ?_
    refine lv_aload_n hx hb dX6_count_56 rfl (lv_at hl 0 rfl) ?_
    refine va_get (D := (dC, dI)) (ci := 7) (v := .ref wh) (C := RX6) (T := TX6) (N := 11) hx hb hts hinX6 hown hK hP 0 rfl rfl 2 (by decide) (hts (.fieldLink RX6 37 "ScanCodes" "written" "LScanCodes$Fields;") (by decide +kernel)) (fun _ h9 => h9) rfl dX6_count_57 ?_
    refine zc_callR (va_runV (As := []) (rest := []) ⟨hx, hb, hml, hown, hts⟩ (c_X1_size l dC dI cI cZ cJ wh wap wag wav wc wp wg wv) (zc_V 0 hts ggX6_count_X1_size rfl rfl rfl (by decide +kernel) (by decide +kernel) ⟨Nat.le_of_ble_eq_true rfl, Nat.le_of_ble_eq_true rfl⟩) ⟨zc_blind, va_recv hK hP (ci := 2) (q0 := 7) rfl rfl, zc_pay (hP.sub (ws' := [(wh, .inr (2, [.ref wap, .ref wag, .ref wav, .int (nI wc)])), (wap, .inl (cI, 6, .inl wp)), (wag, .inl (cI, 6, .inl wg)), (wav, .inl (cJ, 6, .inr (.inl wv)))]) [7, 8, 9, 10] rfl) hK⟩ rfl rfl hl.1 rfl (lv_room (Nat.le_of_ble_eq_true rfl)) dX6_count_60 ⟨Nat.le_of_ble_eq_true rfl, Nat.le_of_ble_eq_true rfl⟩) ?_
    have hres : (nI wc) = if x = 0 then z else if x = 1 then nI wc else if x = 2 then nI mn else if x = 3 then nI rn else if x = 4 then nI tn else if x = 5 then nI fc else if x = 6 then nI lb else if x = 7 then nI fm else -1 := by rw [if_neg q0, if_pos q1]
    exact W.iret (v := nI wc) hx hb hr (fun t ht _ => ⟨congrArg (fun z => Outcome.returned (some (Value.int z))) hres, ht⟩) (fun _ h => nomatch h) dX6_count_63
  by_cases q2 : x = 2
  · refine lv_tableIn (tgt := 64) hx hb dX6_count_1 (by rw [q2]; decide) (by rw [q2]; decide) (by rw [q2]; rfl) (by decide) ?_
    refine lv_aload_n hx hb dX6_count_64 rfl (lv_at hl 0 rfl) ?_
    refine va_get (D := (dC, dI)) (ci := 7) (v := .ref mh) (C := RX6) (T := TX6) (N := 11) hx hb hts hinX6 hown hK hP 0 rfl rfl 3 (by decide) (hts (.fieldLink RX6 44 "ScanCodes" "made" "LScanCodes$Row;") (by decide +kernel)) (fun _ h9 => h9) rfl dX6_count_65 ?_
    refine zc_callR (va_runV (As := []) (rest := []) ⟨hx, hb, hml, hown, hts⟩ (c_X3_size l dC dI cI cZ cJ mh ma 420 mn mf) (zc_V 0 hts ggX6_count_X3_size rfl rfl rfl (by decide +kernel) (by decide +kernel) ⟨Nat.le_of_ble_eq_true rfl, Nat.le_of_ble_eq_true rfl⟩) ⟨zc_blind, va_recv hK hP (ci := 4) (q0 := 11) rfl rfl, zc_pay (hP.sub (ws' := [(mh, .inr (4, [.ref ma, .int (nI mn)])), (ma, .inl (cI, 420, .inl mf))]) [11, 12] rfl) hK⟩ rfl rfl hl.1 rfl (lv_room (Nat.le_of_ble_eq_true rfl)) dX6_count_68 ⟨Nat.le_of_ble_eq_true rfl, Nat.le_of_ble_eq_true rfl⟩) ?_
    have hres : (nI mn) = if x = 0 then z else if x = 1 then nI wc else if x = 2 then nI mn else if x = 3 then nI rn else if x = 4 then nI tn else if x = 5 then nI fc else if x = 6 then nI lb else if x = 7 then nI fm else -1 := by rw [if_neg q0, if_neg q1, if_pos q2]
    exact W.iret (v := nI mn) hx hb hr (fun t ht _ => ⟨congrArg (fun z => Outcome.returned (some (Value.int z))) hres, ht⟩) (fun _ h => nomatch h) dX6_count_71
  by_cases q3 : x = 3
  · refine lv_tableIn (tgt := 72) hx hb dX6_count_1 (by rw [q3]; decide) (by rw [q3]; decide) (by rw [q3]; rfl) (by decide) ?_
    refine lv_aload_n hx hb dX6_count_72 rfl (lv_at hl 0 rfl) ?_
    refine va_get (D := (dC, dI)) (ci := 7) (v := .ref rh) (C := RX6) (T := TX6) (N := 11) hx hb hts hinX6 hown hK hP 0 rfl rfl 4 (by decide) (hts (.fieldLink RX6 48 "ScanCodes" "modulesRead" "LScanCodes$Row;") (by decide +kernel)) (fun _ h9 => h9) rfl dX6_count_73 ?_
    refine zc_callR (va_runV (As := []) (rest := []) ⟨hx, hb, hml, hown, hts⟩ (c_X3_size l dC dI cI cZ cJ rh ra 420 rn rf) (zc_V 0 hts ggX6_count_X3_size rfl rfl rfl (by decide +kernel) (by decide +kernel) ⟨Nat.le_of_ble_eq_true rfl, Nat.le_of_ble_eq_true rfl⟩) ⟨zc_blind, va_recv hK hP (ci := 4) (q0 := 13) rfl rfl, zc_pay (hP.sub (ws' := [(rh, .inr (4, [.ref ra, .int (nI rn)])), (ra, .inl (cI, 420, .inl rf))]) [13, 14] rfl) hK⟩ rfl rfl hl.1 rfl (lv_room (Nat.le_of_ble_eq_true rfl)) dX6_count_76 ⟨Nat.le_of_ble_eq_true rfl, Nat.le_of_ble_eq_true rfl⟩) ?_
    have hres : (nI rn) = if x = 0 then z else if x = 1 then nI wc else if x = 2 then nI mn else if x = 3 then nI rn else if x = 4 then nI tn else if x = 5 then nI fc else if x = 6 then nI lb else if x = 7 then nI fm else -1 := by rw [if_neg q0, if_neg q1, if_neg q2, if_pos q3]
    exact W.iret (v := nI rn) hx hb hr (fun t ht _ => ⟨congrArg (fun z => Outcome.returned (some (Value.int z))) hres, ht⟩) (fun _ h => nomatch h) dX6_count_79
  by_cases q4 : x = 4
  · refine lv_tableIn (tgt := 80) hx hb dX6_count_1 (by rw [q4]; decide) (by rw [q4]; decide) (by rw [q4]; rfl) (by decide) ?_
    refine lv_aload_n hx hb dX6_count_80 rfl (lv_at hl 0 rfl) ?_
    refine va_get (D := (dC, dI)) (ci := 7) (v := .ref th) (C := RX6) (T := TX6) (N := 11) hx hb hts hinX6 hown hK hP 0 rfl rfl 5 (by decide) (hts (.fieldLink RX6 51 "ScanCodes" "signsTyped" "LScanCodes$Row;") (by decide +kernel)) (fun _ h9 => h9) rfl dX6_count_81 ?_
    refine zc_callR (va_runV (As := []) (rest := []) ⟨hx, hb, hml, hown, hts⟩ (c_X3_size l dC dI cI cZ cJ th ta 60 tn tf) (zc_V 0 hts ggX6_count_X3_size rfl rfl rfl (by decide +kernel) (by decide +kernel) ⟨Nat.le_of_ble_eq_true rfl, Nat.le_of_ble_eq_true rfl⟩) ⟨zc_blind, va_recv hK hP (ci := 4) (q0 := 15) rfl rfl, zc_pay (hP.sub (ws' := [(th, .inr (4, [.ref ta, .int (nI tn)])), (ta, .inl (cI, 60, .inl tf))]) [15, 16] rfl) hK⟩ rfl rfl hl.1 rfl (lv_room (Nat.le_of_ble_eq_true rfl)) dX6_count_84 ⟨Nat.le_of_ble_eq_true rfl, Nat.le_of_ble_eq_true rfl⟩) ?_
    have hres : (nI tn) = if x = 0 then z else if x = 1 then nI wc else if x = 2 then nI mn else if x = 3 then nI rn else if x = 4 then nI tn else if x = 5 then nI fc else if x = 6 then nI lb else if x = 7 then nI fm else -1 := by rw [if_neg q0, if_neg q1, if_neg q2, if_neg q3, if_pos q4]
    exact W.iret (v := nI tn) hx hb hr (fun t ht _ => ⟨congrArg (fun z => Outcome.returned (some (Value.int z))) hres, ht⟩) (fun _ h => nomatch h) dX6_count_87
  by_cases q5 : x = 5
  · refine lv_tableIn (tgt := 88) hx hb dX6_count_1 (by rw [q5]; decide) (by rw [q5]; decide) (by rw [q5]; rfl) (by decide) ?_
    refine lv_aload_n hx hb dX6_count_88 rfl (lv_at hl 0 rfl) ?_
    refine va_get (D := (dC, dI)) (ci := 7) (v := .ref kh) (C := RX6) (T := TX6) (N := 11) hx hb hts hinX6 hown hK hP 0 rfl rfl 7 (by decide) (hts (.fieldLink RX6 62 "ScanCodes" "taker" "LScanCodes$Taker;") (by decide +kernel)) (fun _ h9 => h9) rfl dX6_count_89 ?_
    refine zc_callR (va_runV (As := []) (rest := []) ⟨hx, hb, hml, hown, hts⟩ (c_X5_fields l dC dI cI cZ cJ kh u ph fh) (zc_V 0 hts ggX6_count_X5_fields rfl rfl rfl (by decide +kernel) (by decide +kernel) ⟨Nat.le_of_ble_eq_true rfl, Nat.le_of_ble_eq_true rfl⟩) ⟨zc_blind, va_recv hK hP (ci := 6) (q0 := 17) rfl rfl, zc_pay (hP.sub (ws' := [(kh, .inr (6, [.ref ph, .ref fh, .int u]))]) [17] rfl) hK⟩ rfl rfl hl.1 rfl (lv_room (Nat.le_of_ble_eq_true rfl)) dX6_count_92 ⟨Nat.le_of_ble_eq_true rfl, Nat.le_of_ble_eq_true rfl⟩) ?_
    refine zc_callR (va_runV (As := []) (rest := []) ⟨hx, hb, hml, hown, hts⟩ (c_X1_size l dC dI cI cZ cJ fh ap ag av fc fp fg fv) (zc_V 0 hts ggX6_count_X1_size rfl rfl rfl (by decide +kernel) (by decide +kernel) ⟨Nat.le_of_ble_eq_true rfl, Nat.le_of_ble_eq_true rfl⟩) ⟨zc_blind, va_recv hK hP (ci := 2) (q0 := 18) rfl rfl, zc_pay (hP.sub (ws' := [(fh, .inr (2, [.ref ap, .ref ag, .ref av, .int (nI fc)])), (ap, .inl (cI, 6, .inl fp)), (ag, .inl (cI, 6, .inl fg)), (av, .inl (cJ, 6, .inr (.inl fv)))]) [18, 19, 20, 21] rfl) hK⟩ rfl rfl hl.1 rfl (lv_room (Nat.le_of_ble_eq_true rfl)) dX6_count_95 ⟨Nat.le_of_ble_eq_true rfl, Nat.le_of_ble_eq_true rfl⟩) ?_
    have hres : (nI fc) = if x = 0 then z else if x = 1 then nI wc else if x = 2 then nI mn else if x = 3 then nI rn else if x = 4 then nI tn else if x = 5 then nI fc else if x = 6 then nI lb else if x = 7 then nI fm else -1 := by rw [if_neg q0, if_neg q1, if_neg q2, if_neg q3, if_neg q4, if_pos q5]
    exact W.iret (v := nI fc) hx hb hr (fun t ht _ => ⟨congrArg (fun z => Outcome.returned (some (Value.int z))) hres, ht⟩) (fun _ h => nomatch h) dX6_count_98
  by_cases q6 : x = 6
  · refine lv_tableIn (tgt := 99) hx hb dX6_count_1 (by rw [q6]; decide) (by rw [q6]; decide) (by rw [q6]; rfl) (by decide) ?_
    refine lv_aload_n hx hb dX6_count_99 rfl (lv_at hl 0 rfl) ?_
    refine va_get (D := (dC, dI)) (ci := 7) (v := .ref lh) (C := RX6) (T := TX6) (N := 11) hx hb hts hinX6 hown hK hP 0 rfl rfl 8 (by decide) (hts (.fieldLink RX6 69 "ScanCodes" "scans" "LScanCodes$ScanLog;") (by decide +kernel)) (fun _ h9 => h9) rfl dX6_count_100 ?_
    refine zc_callR (va_runV (As := []) (rest := []) ⟨hx, hb, hml, hown, hts⟩ (c_X4_size l dC dI cI cZ cJ lh aK aT lb K T) (zc_V 0 hts ggX6_count_X4_size rfl rfl rfl (by decide +kernel) (by decide +kernel) ⟨Nat.le_of_ble_eq_true rfl, Nat.le_of_ble_eq_true rfl⟩) ⟨zc_blind, va_recv hK hP (ci := 5) (q0 := 22) rfl rfl, zc_pay (hP.sub (ws' := [(lh, .inr (5, [.ref aK, .ref aT, .int (nI lb)])), (aK, .inl (cJ, 240, .inr (.inl K))), (aT, .inl (cI, 320, .inl T))]) [22, 23, 24] rfl) hK⟩ rfl rfl hl.1 rfl (lv_room (Nat.le_of_ble_eq_true rfl)) dX6_count_103 ⟨Nat.le_of_ble_eq_true rfl, Nat.le_of_ble_eq_true rfl⟩) ?_
    have hres : (nI lb) = if x = 0 then z else if x = 1 then nI wc else if x = 2 then nI mn else if x = 3 then nI rn else if x = 4 then nI tn else if x = 5 then nI fc else if x = 6 then nI lb else if x = 7 then nI fm else -1 := by rw [if_neg q0, if_neg q1, if_neg q2, if_neg q3, if_neg q4, if_neg q5, if_pos q6]
    exact W.iret (v := nI lb) hx hb hr (fun t ht _ => ⟨congrArg (fun z => Outcome.returned (some (Value.int z))) hres, ht⟩) (fun _ h => nomatch h) dX6_count_106
  by_cases q7 : x = 7
  · refine lv_tableIn (tgt := 107) hx hb dX6_count_1 (by rw [q7]; decide) (by rw [q7]; decide) (by rw [q7]; rfl) (by decide) ?_
    refine lv_aload_n hx hb dX6_count_107 rfl (lv_at hl 0 rfl) ?_
    refine va_get (D := (dC, dI)) (ci := 7) (v := .ref ch) (C := RX6) (T := TX6) (N := 11) hx hb hts hinX6 hown hK hP 0 rfl rfl 0 (by decide) (hts (.fieldLink RX6 23 "ScanCodes" "coder" "LScanCodes$Coder;") (by decide +kernel)) (fun _ h9 => h9) rfl dX6_count_108 ?_
    refine zc_callR (va_runV (As := []) (rest := []) ⟨hx, hb, hml, hown, hts⟩ (c_X0_form l dC dI cI cZ cJ ch fm md) (zc_V 0 hts ggX6_count_X0_form rfl rfl rfl (by decide +kernel) (by decide +kernel) ⟨Nat.le_of_ble_eq_true rfl, Nat.le_of_ble_eq_true rfl⟩) ⟨zc_blind, va_recv hK hP (ci := 1) (q0 := 1) rfl rfl, zc_pay (hP.sub (ws' := [(ch, .inr (1, [.int (nI fm), .int (nI (zw fm)), .int md]))]) [1] rfl) hK⟩ rfl rfl hl.1 rfl (lv_room (Nat.le_of_ble_eq_true rfl)) dX6_count_111 ⟨Nat.le_of_ble_eq_true rfl, Nat.le_of_ble_eq_true rfl⟩) ?_
    have hres : (nI fm) = if x = 0 then z else if x = 1 then nI wc else if x = 2 then nI mn else if x = 3 then nI rn else if x = 4 then nI tn else if x = 5 then nI fc else if x = 6 then nI lb else if x = 7 then nI fm else -1 := by rw [if_neg q0, if_neg q1, if_neg q2, if_neg q3, if_neg q4, if_neg q5, if_neg q6, if_pos q7]
    exact W.iret (v := nI fm) hx hb hr (fun t ht _ => ⟨congrArg (fun z => Outcome.returned (some (Value.int z))) hres, ht⟩) (fun _ h => nomatch h) dX6_count_114
  refine lv_tableOut (tgt := 115) hx hb dX6_count_1 (zn_out8 (fun k hk => by match k, hk with | 0, _ => exact q0 | 1, _ => exact q1 | 2, _ => exact q2 | 3, _ => exact q3 | 4, _ => exact q4 | 5, _ => exact q5 | 6, _ => exact q6 | 7, _ => exact q7 | k + 8, h => omega)) (by decide) ?_
  refine lv_iconst (v := (-1)) hx hb dX6_count_115 (by decide) ?_
  have hres : ((-1) : Int32) = if x = 0 then z else if x = 1 then nI wc else if x = 2 then nI mn else if x = 3 then nI rn else if x = 4 then nI tn else if x = 5 then nI fc else if x = 6 then nI lb else if x = 7 then nI fm else -1 := by rw [if_neg q0, if_neg q1, if_neg q2, if_neg q3, if_neg q4, if_neg q5, if_neg q6, if_neg q7]
  exact W.iret (v := (-1)) hx hb hr (fun t ht _ => ⟨congrArg (fun z => Outcome.returned (some (Value.int z))) hres, ht⟩) (fun _ h => nomatch h) dX6_count_116
