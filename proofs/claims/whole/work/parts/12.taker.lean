/-! Taker: signs g, taken apart by the tables L (lengths), F (fixed), N (needs). -/
theorem zr_ns_le (f : Nat → Int32) {e : Nat} : ∀ (k j : Nat), e = j + k → j ≤ zr_ns f j e ∧ zr_ns f j e ≤ e := by
  intro k
  induction k with
  | zero => intro j h; rw [h, Nat.add_zero, zr_ns_end]; omega
  | succ k ih =>
    intro j h
    rw [zr_ns_step (by omega)]
    have := ih (j + 1) (by omega)
    split <;> omega
theorem zr_ns_in (f : Nat → Int32) {j e : Nat} (h : j ≤ e) : j ≤ zr_ns f j e ∧ zr_ns f j e ≤ e := zr_ns_le f (e - j) j (by omega)
def zt_okF (g : Nat → Int32) (e len fr : Nat) : Prop := ¬ e < fr + len ∧ ¬ zr_ns g fr (fr + len) < fr + len
def zt_okL (g : Nat → Int32) (e len fr : Nat) : Prop := (1 ≤ zr_ns g fr e - fr ∧ zr_ns g fr e - fr ≤ len) ∧ ¬ zr_ns g fr e + 1 = e
noncomputable def zt_errF (e len fr : Nat) : Int32 := zi (e < fr + len) (-5) (-6)
noncomputable def zt_errL (g : Nat → Int32) (e len fr : Nat) : Int32 := zi (1 ≤ zr_ns g fr e - fr ∧ zr_ns g fr e - fr ≤ len) (-6) (-5)
noncomputable def zt_npL (g : Nat → Int32) (e fr : Nat) : Nat := zi (zr_ns g fr e < e) (zr_ns g fr e + 1) e
/-- the next two signs are digits before the end; the number that they are, its place, its length -/
def zt_two (g : Nat → Int32) (e p : Nat) : Prop := p + 2 ≤ e ∧ ¬ zr_ns g p (p + 2) < p + 2
def zt_x (g : Nat → Int32) (p : Nat) : Int32 := (zr_num g p (p + 2) 0).toInt32
def zt_k (g : Nat → Int32) (p : Nat) : Nat := (zt_x g p).toNatClampNeg
def zt_len (L : Nat → Int32) (k : Nat) : Nat := (L k).toNatClampNeg
/-- the field at p can be taken -/
def zt_ok (g : Nat → Int32) (e : Nat) (L F : Nat → Int32) (fp : Nat → Int32) (fc p : Nat) : Prop := zt_two g e p ∧ zp_has L (zt_x g p) ∧ ¬ zf_has fp fc (zt_x g p) ∧ ((¬ F (zt_k g p) = 0 ∧ zt_okF g e (zt_len L (zt_k g p)) (p + 2)) ∨ (F (zt_k g p) = 0 ∧ zt_okL g e (zt_len L (zt_k g p)) (p + 2)))
noncomputable def zt_err (g : Nat → Int32) (e : Nat) (L F : Nat → Int32) (fp : Nat → Int32) (fc p : Nat) : Int32 := zi (zt_two g e p ∧ zp_has L (zt_x g p) ∧ ¬ zf_has fp fc (zt_x g p)) (zi (F (zt_k g p) = 0) (zt_errL g e (zt_len L (zt_k g p)) (p + 2)) (zt_errF e (zt_len L (zt_k g p)) (p + 2))) (-4)
/-- the digits of the field, its number, the place behind it -/
noncomputable def zt_d (g : Nat → Int32) (e : Nat) (L F : Nat → Int32) (p : Nat) : Nat := zi (F (zt_k g p) = 0) (zr_ns g (p + 2) e - (p + 2)) (zt_len L (zt_k g p))
noncomputable def zt_v (g : Nat → Int32) (e : Nat) (L F : Nat → Int32) (p : Nat) : Int64 := zr_num g (p + 2) (p + 2 + zt_d g e L F p) 0
noncomputable def zt_np (g : Nat → Int32) (e : Nat) (L F : Nat → Int32) (p : Nat) : Nat := zi (F (zt_k g p) = 0) (zt_npL g e (p + 2)) (p + 2 + zt_len L (zt_k g p))
noncomputable def zt_res (g : Nat → Int32) (e : Nat) (L F : Nat → Int32) (fp : Nat → Int32) (fc p : Nat) : Int32 := zi (zt_ok g e L F fp fc p) (nI (zt_np g e L F p)) (zt_err g e L F fp fc p)
def zt_new (g : Nat → Int32) (e : Nat) (L : Nat → Int32) (p : Nat) : Prop := zt_two g e p ∧ ¬ zp_has L (zt_x g p)
/-- the tables' lengths are small counted numbers -/
def zt_LT (L : Nat → Int32) : Prop := ∀ k, k < 100 → L k = nI (zt_len L k) ∧ zt_len L k ≤ 12
theorem zt_kix {L : Nat → Int32} {g : Nat → Int32} {p : Nat} (h : zp_has L (zt_x g p)) : zt_x g p = nI (zt_k g p) ∧ zt_k g p < 100 ∧ 10 ≤ zt_k g p ∧ ¬ L (zt_k g p) ≤ 0 := by
  obtain ⟨h1, h2, h3⟩ := h
  have := zp_ix h1 h2
  exact ⟨this.1, this.2.1, this.2.2, h3⟩
theorem zt_err_neg (g : Nat → Int32) (e : Nat) (L F : Nat → Int32) (fp : Nat → Int32) (fc p : Nat) : zt_err g e L F fp fc p = -4 ∨ zt_err g e L F fp fc p = -5 ∨ zt_err g e L F fp fc p = -6 := by
  unfold zt_err zt_errF zt_errL zi
  split
  · split <;> split <;> simp
  · simp
theorem zt_np_in {g : Nat → Int32} {e : Nat} {L F fp : Nat → Int32} {fc p : Nat} (h : zt_ok g e L F fp fc p) : p + 2 ≤ zt_np g e L F p ∧ zt_np g e L F p ≤ e := by
  obtain ⟨h1, h2, h3, h4⟩ := h
  unfold zt_np
  have h5 := h1.1
  rcases h4 with ⟨hf, ho⟩ | ⟨hf, ho⟩
  · rw [zi_f hf]
    have := ho.1
    omega
  · rw [zi_t hf]
    unfold zt_npL
    have hn := zr_ns_in g h5
    by_cases hq : zr_ns g (p + 2) e < e
    · rw [zi_t hq]; omega
    · rw [zi_f hq]; omega

set_option maxHeartbeats 4000000 in
set_option maxRecDepth 100000 in
theorem c_X5_fields (l : Launch) (dC : Nat → ClassId) (dI : Nat → Nat → Nat) (cI cZ cJ : ClassId) (h : Nat) (u : Int32) (ph : Nat) (fh : Nat) : Met l yX5_fields wsX5_fields ({ frames := 0, cells := 0, slots := 0, locals := 0 }) (zc_P [.ref h] (dC, dI) (zc_T cI cZ cJ) [(h, .inr (6, [.ref ph, .ref fh, .int u]))]) (zc_Q (.ref fh)) 0 0 (fun _ => False) := by
  refine Met.ofW (cc := cX5_fields) (maxL := 1) (ret := (some (.object "ScanCodes$Fields"))) (by decide) rfl ?_
  intro p e s m args below meth c s₁ B hml hv
  obtain ⟨rfl, hP, hK⟩ := hv
  have hx := B.exec
  have hb := B.bytes
  have hr := B.returns
  have hts := atoms_spec (ws := wsX5_fields) B.pre
  have hown : s.vm.findClass RX5 = some m.cls := findClass_of_methodNamed B.named
  have hlocks := B.notSynchronized
  have hinX5 : ∀ w ∈ wsX50, w ∈ wsX5_fields := by decide +kernel
  have hl := lv_entry ([.ref h]) (n := 1) (Nat.le_of_ble_eq_true rfl)
  rw [lg_entry_eq]
  generalize (lg_sl ([.ref h]) ++ List.replicate (1 - (lg_sl ([.ref h])).length) Slot.unset).toArray = ls at hl ⊢
  have hl : lv_has ls 1 [(0, .ref h)] := hl
  refine lv_aload_n hx hb dX5_fields_0 rfl (lv_at hl 0 rfl) ?_
  refine va_get (D := (dC, dI)) (ci := 6) (v := .ref fh) (C := RX5) (T := TX5) (N := 3) hx hb hts hinX5 hown hK hP 0 rfl rfl 1 (by decide) (hts (.fieldLink RX5 18 "ScanCodes$Taker" "fields" "LScanCodes$Fields;") (by decide +kernel)) (fun _ h9 => h9) rfl dX5_fields_1 ?_
  exact W.aret (v := .ref fh) hx hb hr (by first | exact Or.inl ⟨_, rfl⟩ | exact Or.inr ⟨_, rfl⟩) (Or.inr ⟨_, rfl⟩) (fun t ht _ => ⟨rfl, ht⟩) (fun _ h => nomatch h) dX5_fields_4
set_option maxHeartbeats 4000000 in
set_option maxRecDepth 100000 in
theorem c_X5_unknownPrefix (l : Launch) (dC : Nat → ClassId) (dI : Nat → Nat → Nat) (cI cZ cJ : ClassId) (h : Nat) (u : Int32) (ph : Nat) (fh : Nat) : Met l yX5_unknownPrefix wsX5_unknownPrefix ({ frames := 0, cells := 0, slots := 0, locals := 0 }) (zc_P [.ref h] (dC, dI) (zc_T cI cZ cJ) [(h, .inr (6, [.ref ph, .ref fh, .int u]))]) (zc_Q (.int u)) 0 0 (fun _ => False) := by
  refine Met.ofW (cc := cX5_unknownPrefix) (maxL := 1) (ret := (some .int)) (by decide) rfl ?_
  intro p e s m args below meth c s₁ B hml hv
  obtain ⟨rfl, hP, hK⟩ := hv
  have hx := B.exec
  have hb := B.bytes
  have hr := B.returns
  have hts := atoms_spec (ws := wsX5_unknownPrefix) B.pre
  have hown : s.vm.findClass RX5 = some m.cls := findClass_of_methodNamed B.named
  have hlocks := B.notSynchronized
  have hinX5 : ∀ w ∈ wsX50, w ∈ wsX5_unknownPrefix := by decide +kernel
  have hl := lv_entry ([.ref h]) (n := 1) (Nat.le_of_ble_eq_true rfl)
  rw [lg_entry_eq]
  generalize (lg_sl ([.ref h]) ++ List.replicate (1 - (lg_sl ([.ref h])).length) Slot.unset).toArray = ls at hl ⊢
  have hl : lv_has ls 1 [(0, .ref h)] := hl
  refine lv_aload_n hx hb dX5_unknownPrefix_0 rfl (lv_at hl 0 rfl) ?_
  refine va_get (D := (dC, dI)) (ci := 6) (v := .int u) (C := RX5) (T := TX5) (N := 3) hx hb hts hinX5 hown hK hP 0 rfl rfl 2 (by decide) (hts (.fieldLink RX5 22 "ScanCodes$Taker" "unknown" "I") (by decide +kernel)) (fun _ h9 => h9) rfl dX5_unknownPrefix_1 ?_
  have hres : u = u := by rfl
  exact W.iret (v := u) hx hb hr (fun t ht _ => ⟨congrArg (fun z => Outcome.returned (some (Value.int z))) hres, ht⟩) (fun _ h => nomatch h) dX5_unknownPrefix_4
set_option maxHeartbeats 4000000 in
set_option maxRecDepth 100000 in
theorem c_X5_forget (l : Launch) (dC : Nat → ClassId) (dI : Nat → Nat → Nat) (cI cZ cJ : ClassId) (h : Nat) (u : Int32) (ph : Nat) (fh : Nat) (ap : Nat) (ag : Nat) (av : Nat) (fc : Nat) (fp : Nat → Int32) (fg : Nat → Int32) (fv : Nat → Int64) (sz : Nat) : Met l yX5_forget wsX5_forget ({ frames := 1, cells := 0, slots := 0, locals := 20 }) (zc_PW [.ref h] (dC, dI) (zc_T cI cZ cJ) [(h, .inr (6, [.ref ph, .ref fh, .int u])), (fh, .inr (2, [.ref ap, .ref ag, .ref av, .int (nI fc)])), (ap, .inl (cI, 6, .inl fp)), (ag, .inl (cI, 6, .inl fg)), (av, .inl (cJ, 6, .inr (.inl fv)))] sz) (va_Qv (fun _ : Unit => True) (fun _ t => zc_B (dC, dI) (zc_T cI cZ cJ) (va_A [(h, .inr (6, [.ref ph, .ref fh, .int u])), (fh, .inr (2, [.ref ap, .ref ag, .ref av, .int (nI fc)])), (ap, .inl (cI, 6, .inl fp)), (ag, .inl (cI, 6, .inl fg)), (av, .inl (cJ, 6, .inr (.inl fv)))] sz) [(h, .inr (6, [.ref ph, .ref fh, .int (-1)])), (fh, .inr (2, [.ref ap, .ref ag, .ref av, .int (nI 0)])), (ap, .inl (cI, 6, .inl fp)), (ag, .inl (cI, 6, .inl fg)), (av, .inl (cJ, 6, .inr (.inl fv)))] t) (va_A [(h, .inr (6, [.ref ph, .ref fh, .int u])), (fh, .inr (2, [.ref ap, .ref ag, .ref av, .int (nI fc)])), (ap, .inl (cI, 6, .inl fp)), (ag, .inl (cI, 6, .inl fg)), (av, .inl (cJ, 6, .inr (.inl fv)))] sz)) 0 0 (va_A [(h, .inr (6, [.ref ph, .ref fh, .int u])), (fh, .inr (2, [.ref ap, .ref ag, .ref av, .int (nI fc)])), (ap, .inl (cI, 6, .inl fp)), (ag, .inl (cI, 6, .inl fg)), (av, .inl (cJ, 6, .inr (.inl fv)))] sz) := by
  refine Met.ofW (cc := cX5_forget) (maxL := 1) (ret := none) (by decide) rfl ?_
  intro p e s m args below meth c s₁ B hml hv
  obtain ⟨rfl, hsz, hP, hK, hD0⟩ := hv
  have hx := B.exec
  have hb := B.bytes
  have hr := B.returns
  have hts := atoms_spec (ws := wsX5_forget) B.pre
  have hown : s.vm.findClass RX5 = some m.cls := findClass_of_methodNamed B.named
  have hlocks := B.notSynchronized
  subst hsz
  have hD := hD0.self (sz := s.heap.size)
  generalize hAe : va_A [(h, .inr (6, [.ref ph, .ref fh, .int u])), (fh, .inr (2, [.ref ap, .ref ag, .ref av, .int (nI fc)])), (ap, .inl (cI, 6, .inl fp)), (ag, .inl (cI, 6, .inl fg)), (av, .inl (cJ, 6, .inr (.inl fv)))] s.heap.size = A at hD ⊢
  have hA : ∀ q : Nat, s.heap.size ≤ q → A q := fun q h => by rw [← hAe]; exact Or.inr h
  have hS : va_S A s.heap s.heap [] := va_S.rf
  have hinX5 : ∀ w ∈ wsX50, w ∈ wsX5_forget := by decide +kernel
  have hl := lv_entry ([.ref h]) (n := 1) (Nat.le_of_ble_eq_true rfl)
  rw [lg_entry_eq]
  generalize (lg_sl ([.ref h]) ++ List.replicate (1 - (lg_sl ([.ref h])).length) Slot.unset).toArray = ls at hl ⊢
  have hl : lv_has ls 1 [(0, .ref h)] := hl
  refine lv_aload_n hx hb dX5_forget_0 rfl (lv_at hl 0 rfl) ?_
  refine va_get (D := (dC, dI)) (ci := 6) (v := .ref fh) (C := RX5) (T := TX5) (N := 3) hx hb hts hinX5 hown hK hP 0 rfl rfl 1 (by decide) (hts (.fieldLink RX5 18 "ScanCodes$Taker" "fields" "LScanCodes$Fields;") (by decide +kernel)) (fun _ h9 => h9) rfl dX5_forget_1 ?_
  have hPc := hP.sub (ws' := [(fh, .inr (2, [.ref ap, .ref ag, .ref av, .int (nI fc)])), (ap, .inl (cI, 6, .inl fp)), (ag, .inl (cI, 6, .inl fg)), (av, .inl (cJ, 6, .inr (.inl fv)))]) [1, 2, 3, 4] rfl
  have hDc := hD.sub (ws' := [(fh, .inr (2, [.ref ap, .ref ag, .ref av, .int (nI fc)])), (ap, .inl (cI, 6, .inl fp)), (ag, .inl (cI, 6, .inl fg)), (av, .inl (cJ, 6, .inr (.inl fv)))]) [1, 2, 3, 4] (by decide) rfl
  have hFc := va_free (wc := [(fh, .inr (2, [.ref ap, .ref ag, .ref av, .int (nI fc)])), (ap, .inl (cI, 6, .inl fp)), (ag, .inl (cI, 6, .inl fg)), (av, .inl (cJ, 6, .inr (.inl fv)))]) hD hS hA [1, 2, 3, 4] rfl
  refine va_callv (va_runV (As := []) (rest := []) ⟨hx, hb, hml, hown, hts⟩ (c_X1_empty l dC dI cI cZ cJ fh ap ag av fc fp fg fv s.heap.size) (zc_V 0 hts ggX5_forget_X1_empty rfl rfl rfl (by decide +kernel) (by decide +kernel) ⟨Nat.le_of_ble_eq_true rfl, Nat.le_of_ble_eq_true rfl⟩) ⟨zc_blindW, va_recv hK hP (ci := 2) (q0 := 1) rfl rfl, zc_payW hPc hK hDc⟩ rfl rfl hl.1 rfl (lv_room (Nat.le_of_ble_eq_true rfl)) dX5_forget_4 ⟨Nat.le_of_ble_eq_true rfl, Nat.le_of_ble_eq_true rfl⟩) hS (fun q _ h => hFc q h) hFc (fun uu t H1 locs ht hvm hw hB hz1 hk1 hS => ?_)
  obtain ⟨hP1, hK1, hD1⟩ := hB
  rw [ht] at hP1
  obtain ⟨hP, hD⟩ := va_join (wr := [(h, .inr (6, [.ref ph, .ref fh, .int u]))]) (w1 := [(fh, .inr (2, [.ref ap, .ref ag, .ref av, .int (nI 0)])), (ap, .inl (cI, 6, .inl fp)), (ag, .inl (cI, 6, .inl fg)), (av, .inl (cJ, 6, .inr (.inl fv)))]) hP hD [1, 2, 3, 4] [0] rfl rfl (by decide) (by decide) hk1 hFc hP1 hD1
  generalize H1 = H at hP hS ⊢
  have hP := hP.sub (ws' := [(h, .inr (6, [.ref ph, .ref fh, .int u])), (fh, .inr (2, [.ref ap, .ref ag, .ref av, .int (nI 0)])), (ap, .inl (cI, 6, .inl fp)), (ag, .inl (cI, 6, .inl fg)), (av, .inl (cJ, 6, .inr (.inl fv)))]) [0, 1, 2, 3, 4] rfl
  have hD := hD.sub (ws' := [(h, .inr (6, [.ref ph, .ref fh, .int u])), (fh, .inr (2, [.ref ap, .ref ag, .ref av, .int (nI 0)])), (ap, .inl (cI, 6, .inl fp)), (ag, .inl (cI, 6, .inl fg)), (av, .inl (cJ, 6, .inr (.inl fv)))]) [0, 1, 2, 3, 4] (by decide) rfl
  refine lv_aload_n hx hb dX5_forget_7 rfl (lv_at hl 0 rfl) ?_
  refine lv_iconst (v := (-1)) hx hb dX5_forget_8 (by decide) ?_
  refine va_put (D := (dC, dI)) (ci := 6) (v := .int (-1)) (ty := .int) (C := RX5) (T := TX5) (N := 3) hx hb hts hinX5 tyX5 tyX5_ok nmX5 hown hK hP hD hS 0 rfl rfl 2 (by decide) (hts (.fieldLink RX5 22 "ScanCodes$Taker" "unknown" "I") (by decide +kernel)) (fun _ h9 => h9) rfl (by decide +kernel) rfl rfl (Nat.le_of_ble_eq_true rfl) dX5_forget_9 (fun H locs hP hD hS => ?_)
  have hP : va_P (dC, dI) vwCl [(h, .inr (6, [.ref ph, .ref fh, .int (-1)])), (fh, .inr (2, [.ref ap, .ref ag, .ref av, .int (nI 0)])), (ap, .inl (cI, 6, .inl fp)), (ag, .inl (cI, 6, .inl fg)), (av, .inl (cJ, 6, .inr (.inl fv)))] H := hP
  have hD : va_D A [(h, .inr (6, [.ref ph, .ref fh, .int (-1)])), (fh, .inr (2, [.ref ap, .ref ag, .ref av, .int (nI 0)])), (ap, .inl (cI, 6, .inl fp)), (ag, .inl (cI, 6, .inl fg)), (av, .inl (cJ, 6, .inr (.inl fv)))] := hD
  have hP9 : va_P (dC, dI) vwCl [(h, .inr (6, [.ref ph, .ref fh, .int (-1)])), (fh, .inr (2, [.ref ap, .ref ag, .ref av, .int (nI 0)])), (ap, .inl (cI, 6, .inl fp)), (ag, .inl (cI, 6, .inl fg)), (av, .inl (cJ, 6, .inr (.inl fv)))] H := hP
  have hD9 : va_D A [(h, .inr (6, [.ref ph, .ref fh, .int (-1)])), (fh, .inr (2, [.ref ap, .ref ag, .ref av, .int (nI 0)])), (ap, .inl (cI, 6, .inl fp)), (ag, .inl (cI, 6, .inl fg)), (av, .inl (cJ, 6, .inr (.inl fv)))] := hD
  exact W.vret hx hb hr (fun t ht hW => ⟨⟨(), rfl, trivial, by rw [ht]; exact hP9, va_K.moved hW.alike hK, hD9⟩, hS.F ht⟩) hS.2.2 dX5_forget_12
set_option maxHeartbeats 4000000 in
set_option maxRecDepth 100000 in
theorem c_X5_takeFixed (l : Launch) (dC : Nat → ClassId) (dI : Nat → Nat → Nat) (cI cZ cJ : ClassId) (h : Nat) (u : Int32) (ph : Nat) (aL : Nat) (aF : Nat) (aS : Nat) (aN : Nat) (z : Int32) (L : Nat → Int32) (F : Nat → Int32) (S : Nat → Int32) (N : Nat → Int32) (fh : Nat) (ap : Nat) (ag : Nat) (av : Nat) (fc : Nat) (fp : Nat → Int32) (fg : Nat → Int32) (fv : Nat → Int64) (rh : Nat) (ra : Nat) (rc : Nat) (rn : Nat) (g : Nat → Int32) (k : Nat) (fr : Nat) (en : Nat) (len : Nat) (h1 : 10 ≤ k) (h2 : k ≤ 99) (h3 : ¬ L k ≤ 0) (hrn : rn ≤ rc) (hrc : rc < 2 ^ 30) (hfc : fc < 6) (hfe : fr ≤ en) (hen : en ≤ rn) (hlen : L k = nI len) (hl12 : len ≤ 12) (sz : Nat) : Met l yX5_takeFixed wsX5_takeFixed ({ frames := 2, cells := 0, slots := 0, locals := 46 }) (zc_PW [.ref h, .ref rh, .int (nI k), .int (nI fr), .int (nI en)] (dC, dI) (zc_T cI cZ cJ) [(h, .inr (6, [.ref ph, .ref fh, .int u])), (ph, .inr (3, [.ref aL, .ref aF, .ref aS, .ref aN, .int z])), (aL, .inl (cI, 100, .inl L)), (aF, .inl (cZ, 100, .inl F)), (aS, .inl (cI, 100, .inl S)), (aN, .inl (cI, 100, .inl N)), (fh, .inr (2, [.ref ap, .ref ag, .ref av, .int (nI fc)])), (ap, .inl (cI, 6, .inl fp)), (ag, .inl (cI, 6, .inl fg)), (av, .inl (cJ, 6, .inr (.inl fv))), (rh, .inr (4, [.ref ra, .int (nI rn)])), (ra, .inl (cI, rc, .inl g))] sz) (va_Qi (fun (r : Int32) (_ : Unit) => r = zi (zt_okF g en len fr) (nI (fr + len)) (zt_errF en len fr)) (fun _ t => zc_B (dC, dI) (zc_T cI cZ cJ) (va_A [(h, .inr (6, [.ref ph, .ref fh, .int u])), (ph, .inr (3, [.ref aL, .ref aF, .ref aS, .ref aN, .int z])), (aL, .inl (cI, 100, .inl L)), (aF, .inl (cZ, 100, .inl F)), (aS, .inl (cI, 100, .inl S)), (aN, .inl (cI, 100, .inl N)), (fh, .inr (2, [.ref ap, .ref ag, .ref av, .int (nI fc)])), (ap, .inl (cI, 6, .inl fp)), (ag, .inl (cI, 6, .inl fg)), (av, .inl (cJ, 6, .inr (.inl fv))), (rh, .inr (4, [.ref ra, .int (nI rn)])), (ra, .inl (cI, rc, .inl g))] sz) [(h, .inr (6, [.ref ph, .ref fh, .int u])), (ph, .inr (3, [.ref aL, .ref aF, .ref aS, .ref aN, .int z])), (aL, .inl (cI, 100, .inl L)), (aF, .inl (cZ, 100, .inl F)), (aS, .inl (cI, 100, .inl S)), (aN, .inl (cI, 100, .inl N)), (fh, .inr (2, [.ref ap, .ref ag, .ref av, .int (nI (zi (zt_okF g en len fr) (fc + 1) fc))])), (ap, .inl (cI, 6, .inl (zi (zt_okF g en len fr) (upd fp fc (nI k)) fp))), (ag, .inl (cI, 6, .inl (zi (zt_okF g en len fr) (upd fg fc (nI len)) fg))), (av, .inl (cJ, 6, .inr (.inl (zi (zt_okF g en len fr) (vp_updL fv fc (zr_num g fr (fr + len) 0)) fv)))), (rh, .inr (4, [.ref ra, .int (nI rn)])), (ra, .inl (cI, rc, .inl g))] t) (va_A [(h, .inr (6, [.ref ph, .ref fh, .int u])), (ph, .inr (3, [.ref aL, .ref aF, .ref aS, .ref aN, .int z])), (aL, .inl (cI, 100, .inl L)), (aF, .inl (cZ, 100, .inl F)), (aS, .inl (cI, 100, .inl S)), (aN, .inl (cI, 100, .inl N)), (fh, .inr (2, [.ref ap, .ref ag, .ref av, .int (nI fc)])), (ap, .inl (cI, 6, .inl fp)), (ag, .inl (cI, 6, .inl fg)), (av, .inl (cJ, 6, .inr (.inl fv))), (rh, .inr (4, [.ref ra, .int (nI rn)])), (ra, .inl (cI, rc, .inl g))] sz)) 0 0 (va_A [(h, .inr (6, [.ref ph, .ref fh, .int u])), (ph, .inr (3, [.ref aL, .ref aF, .ref aS, .ref aN, .int z])), (aL, .inl (cI, 100, .inl L)), (aF, .inl (cZ, 100, .inl F)), (aS, .inl (cI, 100, .inl S)), (aN, .inl (cI, 100, .inl N)), (fh, .inr (2, [.ref ap, .ref ag, .ref av, .int (nI fc)])), (ap, .inl (cI, 6, .inl fp)), (ag, .inl (cI, 6, .inl fg)), (av, .inl (cJ, 6, .inr (.inl fv))), (rh, .inr (4, [.ref ra, .int (nI rn)])), (ra, .inl (cI, rc, .inl g))] sz) := by
  refine Met.ofW (cc := cX5_takeFixed) (maxL := 7) (ret := (some .int)) (by decide) rfl ?_
  intro p e s m args below meth c s₁ B hml hv
  obtain ⟨rfl, hsz, hP, hK, hD0⟩ := hv
  have hx := B.exec
  have hb := B.bytes
  have hr := B.returns
  have hts := atoms_spec (ws := wsX5_takeFixed) B.pre
  have hown : s.vm.findClass RX5 = some m.cls := findClass_of_methodNamed B.named
  have hlocks := B.notSynchronized
  subst hsz
  have hD := hD0.self (sz := s.heap.size)
  generalize hAe : va_A [(h, .inr (6, [.ref ph, .ref fh, .int u])), (ph, .inr (3, [.ref aL, .ref aF, .ref aS, .ref aN, .int z])), (aL, .inl (cI, 100, .inl L)), (aF, .inl (cZ, 100, .inl F)), (aS, .inl (cI, 100, .inl S)), (aN, .inl (cI, 100, .inl N)), (fh, .inr (2, [.ref ap, .ref ag, .ref av, .int (nI fc)])), (ap, .inl (cI, 6, .inl fp)), (ag, .inl (cI, 6, .inl fg)), (av, .inl (cJ, 6, .inr (.inl fv))), (rh, .inr (4, [.ref ra, .int (nI rn)])), (ra, .inl (cI, rc, .inl g))] s.heap.size = A at hD ⊢
  have hA : ∀ q : Nat, s.heap.size ≤ q → A q := fun q h => by rw [← hAe]; exact Or.inr h
  have hS : va_S A s.heap s.heap [] := va_S.rf
  have hinX5 : ∀ w ∈ wsX50, w ∈ wsX5_takeFixed := by decide +kernel
  have hl := lv_entry ([.ref h, .ref rh, .int (nI k), .int (nI fr), .int (nI en)]) (n := 7) (Nat.le_of_ble_eq_true rfl)
  rw [lg_entry_eq]
  generalize (lg_sl ([.ref h, .ref rh, .int (nI k), .int (nI fr), .int (nI en)]) ++ List.replicate (7 - (lg_sl ([.ref h, .ref rh, .int (nI k), .int (nI fr), .int (nI en)])).length) Slot.unset).toArray = ls at hl ⊢
  have hl : lv_has ls 7 [(0, .ref h), (1, .ref rh), (2, .int (nI k)), (3, .int (nI fr)), (4, .int (nI en))] := hl
  refine lv_aload_n hx hb dX5_takeFixed_0 rfl (lv_at hl 0 rfl) ?_
  refine va_get (D := (dC, dI)) (ci := 6) (v := .ref ph) (C := RX5) (T := TX5) (N := 3) hx hb hts hinX5 hown hK hP 0 rfl rfl 0 (by decide) (hts (.fieldLink RX5 9 "ScanCodes$Taker" "prefixes" "LScanCodes$Prefixes;") (by decide +kernel)) (fun _ h9 => h9) rfl dX5_takeFixed_1 ?_
  refine lv_iload_n hx hb dX5_takeFixed_4 rfl (lv_at hl 2 rfl) ?_
  refine zc_callR (va_runV (As := [.int (nI k)]) (rest := []) ⟨hx, hb, hml, hown, hts⟩ (c_X2_lengthOf l dC dI cI cZ cJ ph aL aF aS aN z L F S N k (by first | assumption | omega) (by first | assumption | omega) (by first | assumption | omega)) (zc_V 1 hts ggX5_takeFixed_X2_lengthOf rfl rfl rfl (by decide +kernel) (by decide +kernel) ⟨Nat.le_of_ble_eq_true rfl, Nat.le_of_ble_eq_true rfl⟩) ⟨zc_blind, va_recv hK hP (ci := 3) (q0 := 1) rfl rfl, zc_pay (hP.sub (ws' := [(ph, .inr (3, [.ref aL, .ref aF, .ref aS, .ref aN, .int z])), (aL, .inl (cI, 100, .inl L)), (aF, .inl (cZ, 100, .inl F)), (aS, .inl (cI, 100, .inl S)), (aN, .inl (cI, 100, .inl N))]) [1, 2, 3, 4, 5] rfl) hK⟩ rfl rfl hl.1 rfl (lv_room (Nat.le_of_ble_eq_true rfl)) dX5_takeFixed_5 ⟨Nat.le_of_ble_eq_true rfl, Nat.le_of_ble_eq_true rfl⟩) ?_
  refine zc_ti (y := nI len) hlen ?_
  refine lv_istore (lv' := [(5, .int (nI len)), (0, .ref h), (1, .ref rh), (2, .int (nI k)), (3, .int (nI fr)), (4, .int (nI en))]) hx hb dX5_takeFixed_8 hl (by decide) rfl (fun ls hl => ?_)
  refine lv_iload hx hb dX5_takeFixed_10 (lv_at hl 5 rfl) ?_
  refine lv_iload_n hx hb dX5_takeFixed_12 rfl (lv_at hl 4 rfl) ?_
  refine lv_isub hx hb dX5_takeFixed_13 ?_
  refine zc_ti (y := nI (en - fr)) (pk_sub hfe) ?_
  refine lv_iload hx hb dX5_takeFixed_14 (lv_at hl 0 rfl) ?_
  refine lv_icmp_ge (tgt := 22) hx hb dX5_takeFixed_16 (by decide) (fun c16 => ?_) (fun c16 => ?_)
  · have hge := zn_le c16 (by omega) (by omega)
    refine lv_iload_n hx hb dX5_takeFixed_22 rfl (lv_at hl 4 rfl) ?_
    refine lv_iload hx hb dX5_takeFixed_23 (lv_at hl 0 rfl) ?_
    refine lv_iadd hx hb dX5_takeFixed_25 ?_
    refine zc_ti (y := nI (fr + len)) (nI_add _ _) ?_
    refine lv_istore (lv' := [(6, .int (nI (fr + len))), (5, .int (nI len)), (0, .ref h), (1, .ref rh), (2, .int (nI k)), (3, .int (nI fr)), (4, .int (nI en))]) hx hb dX5_takeFixed_26 hl (by decide) rfl (fun ls hl => ?_)
    refine lv_aload_n hx hb dX5_takeFixed_28 rfl (lv_at hl 3 rfl) ?_
    refine lv_iload_n hx hb dX5_takeFixed_29 rfl (lv_at hl 5 rfl) ?_
    refine lv_iload hx hb dX5_takeFixed_30 (lv_at hl 0 rfl) ?_
    refine zc_callR (va_runV (As := [.int (nI fr), .int (nI (fr + len))]) (rest := []) ⟨hx, hb, hml, hown, hts⟩ (c_X3_nextSeparator l dC dI cI cZ cJ rh ra rc rn g fr (fr + len) (by first | assumption | omega) (by first | assumption | omega) (by first | assumption | omega) (by first | assumption | omega)) (zc_V 2 hts ggX5_takeFixed_X3_nextSeparator rfl rfl rfl (by decide +kernel) (by decide +kernel) ⟨Nat.le_of_ble_eq_true rfl, Nat.le_of_ble_eq_true rfl⟩) ⟨zc_blind, va_recv hK hP (ci := 4) (q0 := 10) rfl rfl, zc_pay (hP.sub (ws' := [(rh, .inr (4, [.ref ra, .int (nI rn)])), (ra, .inl (cI, rc, .inl g))]) [10, 11] rfl) hK⟩ rfl rfl hl.1 rfl (lv_room (Nat.le_of_ble_eq_true rfl)) dX5_takeFixed_32 ⟨Nat.le_of_ble_eq_true rfl, Nat.le_of_ble_eq_true rfl⟩) ?_
    refine lv_iload hx hb dX5_takeFixed_35 (lv_at hl 0 rfl) ?_
    refine lv_icmp_ge (tgt := 43) hx hb dX5_takeFixed_37 (by decide) (fun c37 => ?_) (fun c37 => ?_)
    · have hge2 := zn_le c37 (by omega) (by have := zr_ns_in g (Nat.le_add_right fr len); omega)
      have hok : zt_okF g en len fr := ⟨by omega, by omega⟩
      refine lv_aload_n hx hb dX5_takeFixed_43 rfl (lv_at hl 2 rfl) ?_
      refine va_get (D := (dC, dI)) (ci := 6) (v := .ref fh) (C := RX5) (T := TX5) (N := 3) hx hb hts hinX5 hown hK hP 0 rfl rfl 1 (by decide) (hts (.fieldLink RX5 18 "ScanCodes$Taker" "fields" "LScanCodes$Fields;") (by decide +kernel)) (fun _ h9 => h9) rfl dX5_takeFixed_44 ?_
      refine lv_iload_n hx hb dX5_takeFixed_47 rfl (lv_at hl 4 rfl) ?_
      refine lv_iload hx hb dX5_takeFixed_48 (lv_at hl 1 rfl) ?_
      refine lv_aload_n hx hb dX5_takeFixed_50 rfl (lv_at hl 3 rfl) ?_
      refine lv_iload_n hx hb dX5_takeFixed_51 rfl (lv_at hl 5 rfl) ?_
      refine lv_iload hx hb dX5_takeFixed_52 (lv_at hl 0 rfl) ?_
      refine zc_callR (va_runV (As := [.int (nI fr), .int (nI (fr + len))]) (rest := [.int (nI len), .int (nI k), .ref fh]) ⟨hx, hb, hml, hown, hts⟩ (c_X3_numberAt l dC dI cI cZ cJ rh ra rc rn g fr (fr + len) (by first | assumption | omega) (by first | assumption | omega) (by first | assumption | omega) (by first | assumption | omega)) (zc_V 2 hts ggX5_takeFixed_X3_numberAt rfl rfl rfl (by decide +kernel) (by decide +kernel) ⟨Nat.le_of_ble_eq_true rfl, Nat.le_of_ble_eq_true rfl⟩) ⟨zc_blind, va_recv hK hP (ci := 4) (q0 := 10) rfl rfl, zc_pay (hP.sub (ws' := [(rh, .inr (4, [.ref ra, .int (nI rn)])), (ra, .inl (cI, rc, .inl g))]) [10, 11] rfl) hK⟩ rfl rfl hl.1 rfl (lv_room (Nat.le_of_ble_eq_true rfl)) dX5_takeFixed_54 ⟨Nat.le_of_ble_eq_true rfl, Nat.le_of_ble_eq_true rfl⟩) ?_
      have hPc := hP.sub (ws' := [(fh, .inr (2, [.ref ap, .ref ag, .ref av, .int (nI fc)])), (ap, .inl (cI, 6, .inl fp)), (ag, .inl (cI, 6, .inl fg)), (av, .inl (cJ, 6, .inr (.inl fv)))]) [6, 7, 8, 9] rfl
      have hDc := hD.sub (ws' := [(fh, .inr (2, [.ref ap, .ref ag, .ref av, .int (nI fc)])), (ap, .inl (cI, 6, .inl fp)), (ag, .inl (cI, 6, .inl fg)), (av, .inl (cJ, 6, .inr (.inl fv)))]) [6, 7, 8, 9] (by decide) rfl
      have hFc := va_free (wc := [(fh, .inr (2, [.ref ap, .ref ag, .ref av, .int (nI fc)])), (ap, .inl (cI, 6, .inl fp)), (ag, .inl (cI, 6, .inl fg)), (av, .inl (cJ, 6, .inr (.inl fv)))]) hD hS hA [6, 7, 8, 9] rfl
      refine va_callv (va_runV (As := [.int (nI k), .int (nI len), .long (zr_num g fr (fr + len) 0)]) (rest := []) ⟨hx, hb, hml, hown, hts⟩ (c_X1_add l dC dI cI cZ cJ fh ap ag av fc fp fg fv (nI k) (nI len) (zr_num g fr (fr + len) 0) (by first | assumption | omega) s.heap.size) (zc_V 3 hts ggX5_takeFixed_X1_add rfl rfl rfl (by decide +kernel) (by decide +kernel) ⟨Nat.le_of_ble_eq_true rfl, Nat.le_of_ble_eq_true rfl⟩) ⟨zc_blindW, va_recv hK hP (ci := 2) (q0 := 6) rfl rfl, zc_payW hPc hK hDc⟩ rfl rfl hl.1 rfl (lv_room (Nat.le_of_ble_eq_true rfl)) dX5_takeFixed_57 ⟨Nat.le_of_ble_eq_true rfl, Nat.le_of_ble_eq_true rfl⟩) hS (fun q _ h => hFc q h) hFc (fun uu t H1 locs ht hvm hw hB hz1 hk1 hS => ?_)
      obtain ⟨hP1, hK1, hD1⟩ := hB
      rw [ht] at hP1
      obtain ⟨hP, hD⟩ := va_join (wr := [(h, .inr (6, [.ref ph, .ref fh, .int u])), (ph, .inr (3, [.ref aL, .ref aF, .ref aS, .ref aN, .int z])), (aL, .inl (cI, 100, .inl L)), (aF, .inl (cZ, 100, .inl F)), (aS, .inl (cI, 100, .inl S)), (aN, .inl (cI, 100, .inl N)), (rh, .inr (4, [.ref ra, .int (nI rn)])), (ra, .inl (cI, rc, .inl g))]) (w1 := [(fh, .inr (2, [.ref ap, .ref ag, .ref av, .int (nI (fc + 1))])), (ap, .inl (cI, 6, .inl (upd fp fc (nI k)))), (ag, .inl (cI, 6, .inl (upd fg fc (nI len)))), (av, .inl (cJ, 6, .inr (.inl (vp_updL fv fc (zr_num g fr (fr + len) 0)))))]) hP hD [6, 7, 8, 9] [0, 1, 2, 3, 4, 5, 10, 11] rfl rfl (by decide) (by decide) hk1 hFc hP1 hD1
      generalize H1 = H at hP hS ⊢
      have hP := hP.sub (ws' := [(h, .inr (6, [.ref ph, .ref fh, .int u])), (ph, .inr (3, [.ref aL, .ref aF, .ref aS, .ref aN, .int z])), (aL, .inl (cI, 100, .inl L)), (aF, .inl (cZ, 100, .inl F)), (aS, .inl (cI, 100, .inl S)), (aN, .inl (cI, 100, .inl N)), (fh, .inr (2, [.ref ap, .ref ag, .ref av, .int (nI (fc + 1))])), (ap, .inl (cI, 6, .inl (upd fp fc (nI k)))), (ag, .inl (cI, 6, .inl (upd fg fc (nI len)))), (av, .inl (cJ, 6, .inr (.inl (vp_updL fv fc (zr_num g fr (fr + len) 0))))), (rh, .inr (4, [.ref ra, .int (nI rn)])), (ra, .inl (cI, rc, .inl g))]) [0, 1, 2, 3, 4, 5, 8, 9, 10, 11, 6, 7] rfl
      have hD := hD.sub (ws' := [(h, .inr (6, [.ref ph, .ref fh, .int u])), (ph, .inr (3, [.ref aL, .ref aF, .ref aS, .ref aN, .int z])), (aL, .inl (cI, 100, .inl L)), (aF, .inl (cZ, 100, .inl F)), (aS, .inl (cI, 100, .inl S)), (aN, .inl (cI, 100, .inl N)), (fh, .inr (2, [.ref ap, .ref ag, .ref av, .int (nI (fc + 1))])), (ap, .inl (cI, 6, .inl (upd fp fc (nI k)))), (ag, .inl (cI, 6, .inl (upd fg fc (nI len)))), (av, .inl (cJ, 6, .inr (.inl (vp_updL fv fc (zr_num g fr (fr + len) 0))))), (rh, .inr (4, [.ref ra, .int (nI rn)])), (ra, .inl (cI, rc, .inl g))]) [0, 1, 2, 3, 4, 5, 8, 9, 10, 11, 6, 7] (by decide) rfl
      refine lv_iload hx hb dX5_takeFixed_60 (lv_at hl 0 rfl) ?_
      have hP9 : va_P (dC, dI) vwCl [(h, .inr (6, [.ref ph, .ref fh, .int u])), (ph, .inr (3, [.ref aL, .ref aF, .ref aS, .ref aN, .int z])), (aL, .inl (cI, 100, .inl L)), (aF, .inl (cZ, 100, .inl F)), (aS, .inl (cI, 100, .inl S)), (aN, .inl (cI, 100, .inl N)), (fh, .inr (2, [.ref ap, .ref ag, .ref av, .int (nI (zi (zt_okF g en len fr) (fc + 1) fc))])), (ap, .inl (cI, 6, .inl (zi (zt_okF g en len fr) (upd fp fc (nI k)) fp))), (ag, .inl (cI, 6, .inl (zi (zt_okF g en len fr) (upd fg fc (nI len)) fg))), (av, .inl (cJ, 6, .inr (.inl (zi (zt_okF g en len fr) (vp_updL fv fc (zr_num g fr (fr + len) 0)) fv)))), (rh, .inr (4, [.ref ra, .int (nI rn)])), (ra, .inl (cI, rc, .inl g))] H := by simp only [zi_t hok]; exact hP
      have hD9 : va_D A [(h, .inr (6, [.ref ph, .ref fh, .int u])), (ph, .inr (3, [.ref aL, .ref aF, .ref aS, .ref aN, .int z])), (aL, .inl (cI, 100, .inl L)), (aF, .inl (cZ, 100, .inl F)), (aS, .inl (cI, 100, .inl S)), (aN, .inl (cI, 100, .inl N)), (fh, .inr (2, [.ref ap, .ref ag, .ref av, .int (nI (zi (zt_okF g en len fr) (fc + 1) fc))])), (ap, .inl (cI, 6, .inl (zi (zt_okF g en len fr) (upd fp fc (nI k)) fp))), (ag, .inl (cI, 6, .inl (zi (zt_okF g en len fr) (upd fg fc (nI len)) fg))), (av, .inl (cJ, 6, .inr (.inl (zi (zt_okF g en len fr) (vp_updL fv fc (zr_num g fr (fr + len) 0)) fv)))), (rh, .inr (4, [.ref ra, .int (nI rn)])), (ra, .inl (cI, rc, .inl g))] := by simp only [zi_t hok]; exact hD
      have hres : (nI (fr + len)) = zi (zt_okF g en len fr) (nI (fr + len)) (zt_errF en len fr) := by rw [zi_t hok]
      exact W.iret (v := nI (fr + len)) hx hb hr (fun t ht hW => ⟨⟨_, (), rfl, hres, by rw [ht]; exact hP9, va_K.moved hW.alike hK, hD9⟩, hS.F ht⟩) hS.2.2 dX5_takeFixed_62
    · have hlt2 := zn_nle c37 (by omega) (by have := zr_ns_in g (Nat.le_add_right fr len); omega)
      have hok : ¬ zt_okF g en len fr := fun q => q.2 hlt2
      have hE : zt_errF en len fr = -6 := zi_f (by omega)
      refine lv_bipush (v := (-6)) hx hb dX5_takeFixed_40 (by decide) ?_
      have hP9 : va_P (dC, dI) vwCl [(h, .inr (6, [.ref ph, .ref fh, .int u])), (ph, .inr (3, [.ref aL, .ref aF, .ref aS, .ref aN, .int z])), (aL, .inl (cI, 100, .inl L)), (aF, .inl (cZ, 100, .inl F)), (aS, .inl (cI, 100, .inl S)), (aN, .inl (cI, 100, .inl N)), (fh, .inr (2, [.ref ap, .ref ag, .ref av, .int (nI (zi (zt_okF g en len fr) (fc + 1) fc))])), (ap, .inl (cI, 6, .inl (zi (zt_okF g en len fr) (upd fp fc (nI k)) fp))), (ag, .inl (cI, 6, .inl (zi (zt_okF g en len fr) (upd fg fc (nI len)) fg))), (av, .inl (cJ, 6, .inr (.inl (zi (zt_okF g en len fr) (vp_updL fv fc (zr_num g fr (fr + len) 0)) fv)))), (rh, .inr (4, [.ref ra, .int (nI rn)])), (ra, .inl (cI, rc, .inl g))] s.heap := by simp only [zi_f hok]; exact hP
      have hD9 : va_D A [(h, .inr (6, [.ref ph, .ref fh, .int u])), (ph, .inr (3, [.ref aL, .ref aF, .ref aS, .ref aN, .int z])), (aL, .inl (cI, 100, .inl L)), (aF, .inl (cZ, 100, .inl F)), (aS, .inl (cI, 100, .inl S)), (aN, .inl (cI, 100, .inl N)), (fh, .inr (2, [.ref ap, .ref ag, .ref av, .int (nI (zi (zt_okF g en len fr) (fc + 1) fc))])), (ap, .inl (cI, 6, .inl (zi (zt_okF g en len fr) (upd fp fc (nI k)) fp))), (ag, .inl (cI, 6, .inl (zi (zt_okF g en len fr) (upd fg fc (nI len)) fg))), (av, .inl (cJ, 6, .inr (.inl (zi (zt_okF g en len fr) (vp_updL fv fc (zr_num g fr (fr + len) 0)) fv)))), (rh, .inr (4, [.ref ra, .int (nI rn)])), (ra, .inl (cI, rc, .inl g))] := by simp only [zi_f hok]; exact hD
      have hres : ((-6) : Int32) = zi (zt_okF g en len fr) (nI (fr + len)) (zt_errF en len fr) := by rw [zi_f hok, hE]
      exact W.iret (v := (-6)) hx hb hr (fun t ht hW => ⟨⟨_, (), rfl, hres, by rw [ht]; exact hP9, va_K.moved hW.alike hK, hD9⟩, hS.F ht⟩) hS.2.2 dX5_takeFixed_42
  · have hlt := zn_nle c16 (by omega) (by omega)
    have hok : ¬ zt_okF g en len fr := fun q => q.1 (by omega)
    have hE : zt_errF en len fr = -5 := zi_t (by omega)
    refine lv_bipush (v := (-5)) hx hb dX5_takeFixed_19 (by decide) ?_
    have hP9 : va_P (dC, dI) vwCl [(h, .inr (6, [.ref ph, .ref fh, .int u])), (ph, .inr (3, [.ref aL, .ref aF, .ref aS, .ref aN, .int z])), (aL, .inl (cI, 100, .inl L)), (aF, .inl (cZ, 100, .inl F)), (aS, .inl (cI, 100, .inl S)), (aN, .inl (cI, 100, .inl N)), (fh, .inr (2, [.ref ap, .ref ag, .ref av, .int (nI (zi (zt_okF g en len fr) (fc + 1) fc))])), (ap, .inl (cI, 6, .inl (zi (zt_okF g en len fr) (upd fp fc (nI k)) fp))), (ag, .inl (cI, 6, .inl (zi (zt_okF g en len fr) (upd fg fc (nI len)) fg))), (av, .inl (cJ, 6, .inr (.inl (zi (zt_okF g en len fr) (vp_updL fv fc (zr_num g fr (fr + len) 0)) fv)))), (rh, .inr (4, [.ref ra, .int (nI rn)])), (ra, .inl (cI, rc, .inl g))] s.heap := by simp only [zi_f hok]; exact hP
    have hD9 : va_D A [(h, .inr (6, [.ref ph, .ref fh, .int u])), (ph, .inr (3, [.ref aL, .ref aF, .ref aS, .ref aN, .int z])), (aL, .inl (cI, 100, .inl L)), (aF, .inl (cZ, 100, .inl F)), (aS, .inl (cI, 100, .inl S)), (aN, .inl (cI, 100, .inl N)), (fh, .inr (2, [.ref ap, .ref ag, .ref av, .int (nI (zi (zt_okF g en len fr) (fc + 1) fc))])), (ap, .inl (cI, 6, .inl (zi (zt_okF g en len fr) (upd fp fc (nI k)) fp))), (ag, .inl (cI, 6, .inl (zi (zt_okF g en len fr) (upd fg fc (nI len)) fg))), (av, .inl (cJ, 6, .inr (.inl (zi (zt_okF g en len fr) (vp_updL fv fc (zr_num g fr (fr + len) 0)) fv)))), (rh, .inr (4, [.ref ra, .int (nI rn)])), (ra, .inl (cI, rc, .inl g))] := by simp only [zi_f hok]; exact hD
    have hres : ((-5) : Int32) = zi (zt_okF g en len fr) (nI (fr + len)) (zt_errF en len fr) := by rw [zi_f hok, hE]
    exact W.iret (v := (-5)) hx hb hr (fun t ht hW => ⟨⟨_, (), rfl, hres, by rw [ht]; exact hP9, va_K.moved hW.alike hK, hD9⟩, hS.F ht⟩) hS.2.2 dX5_takeFixed_21
set_option maxHeartbeats 4000000 in
set_option maxRecDepth 100000 in
theorem c_X5_takeLoose (l : Launch) (dC : Nat → ClassId) (dI : Nat → Nat → Nat) (cI cZ cJ : ClassId) (h : Nat) (u : Int32) (ph : Nat) (aL : Nat) (aF : Nat) (aS : Nat) (aN : Nat) (z : Int32) (L : Nat → Int32) (F : Nat → Int32) (S : Nat → Int32) (N : Nat → Int32) (fh : Nat) (ap : Nat) (ag : Nat) (av : Nat) (fc : Nat) (fp : Nat → Int32) (fg : Nat → Int32) (fv : Nat → Int64) (rh : Nat) (ra : Nat) (rc : Nat) (rn : Nat) (g : Nat → Int32) (k : Nat) (fr : Nat) (en : Nat) (len : Nat) (h1 : 10 ≤ k) (h2 : k ≤ 99) (h3 : ¬ L k ≤ 0) (hrn : rn ≤ rc) (hrc : rc < 2 ^ 30) (hfc : fc < 6) (hfe : fr ≤ en) (hen : en ≤ rn) (hlen : L k = nI len) (hl12 : len ≤ 12) (sz : Nat) : Met l yX5_takeLoose wsX5_takeLoose ({ frames := 2, cells := 0, slots := 0, locals := 46 }) (zc_PW [.ref h, .ref rh, .int (nI k), .int (nI fr), .int (nI en)] (dC, dI) (zc_T cI cZ cJ) [(h, .inr (6, [.ref ph, .ref fh, .int u])), (ph, .inr (3, [.ref aL, .ref aF, .ref aS, .ref aN, .int z])), (aL, .inl (cI, 100, .inl L)), (aF, .inl (cZ, 100, .inl F)), (aS, .inl (cI, 100, .inl S)), (aN, .inl (cI, 100, .inl N)), (fh, .inr (2, [.ref ap, .ref ag, .ref av, .int (nI fc)])), (ap, .inl (cI, 6, .inl fp)), (ag, .inl (cI, 6, .inl fg)), (av, .inl (cJ, 6, .inr (.inl fv))), (rh, .inr (4, [.ref ra, .int (nI rn)])), (ra, .inl (cI, rc, .inl g))] sz) (va_Qi (fun (r : Int32) (_ : Unit) => r = zi (zt_okL g en len fr) (nI (zt_npL g en fr)) (zt_errL g en len fr)) (fun _ t => zc_B (dC, dI) (zc_T cI cZ cJ) (va_A [(h, .inr (6, [.ref ph, .ref fh, .int u])), (ph, .inr (3, [.ref aL, .ref aF, .ref aS, .ref aN, .int z])), (aL, .inl (cI, 100, .inl L)), (aF, .inl (cZ, 100, .inl F)), (aS, .inl (cI, 100, .inl S)), (aN, .inl (cI, 100, .inl N)), (fh, .inr (2, [.ref ap, .ref ag, .ref av, .int (nI fc)])), (ap, .inl (cI, 6, .inl fp)), (ag, .inl (cI, 6, .inl fg)), (av, .inl (cJ, 6, .inr (.inl fv))), (rh, .inr (4, [.ref ra, .int (nI rn)])), (ra, .inl (cI, rc, .inl g))] sz) [(h, .inr (6, [.ref ph, .ref fh, .int u])), (ph, .inr (3, [.ref aL, .ref aF, .ref aS, .ref aN, .int z])), (aL, .inl (cI, 100, .inl L)), (aF, .inl (cZ, 100, .inl F)), (aS, .inl (cI, 100, .inl S)), (aN, .inl (cI, 100, .inl N)), (fh, .inr (2, [.ref ap, .ref ag, .ref av, .int (nI (zi (zt_okL g en len fr) (fc + 1) fc))])), (ap, .inl (cI, 6, .inl (zi (zt_okL g en len fr) (upd fp fc (nI k)) fp))), (ag, .inl (cI, 6, .inl (zi (zt_okL g en len fr) (upd fg fc (nI (zr_ns g fr en - fr))) fg))), (av, .inl (cJ, 6, .inr (.inl (zi (zt_okL g en len fr) (vp_updL fv fc (zr_num g fr (zr_ns g fr en) 0)) fv)))), (rh, .inr (4, [.ref ra, .int (nI rn)])), (ra, .inl (cI, rc, .inl g))] t) (va_A [(h, .inr (6, [.ref ph, .ref fh, .int u])), (ph, .inr (3, [.ref aL, .ref aF, .ref aS, .ref aN, .int z])), (aL, .inl (cI, 100, .inl L)), (aF, .inl (cZ, 100, .inl F)), (aS, .inl (cI, 100, .inl S)), (aN, .inl (cI, 100, .inl N)), (fh, .inr (2, [.ref ap, .ref ag, .ref av, .int (nI fc)])), (ap, .inl (cI, 6, .inl fp)), (ag, .inl (cI, 6, .inl fg)), (av, .inl (cJ, 6, .inr (.inl fv))), (rh, .inr (4, [.ref ra, .int (nI rn)])), (ra, .inl (cI, rc, .inl g))] sz)) 0 0 (va_A [(h, .inr (6, [.ref ph, .ref fh, .int u])), (ph, .inr (3, [.ref aL, .ref aF, .ref aS, .ref aN, .int z])), (aL, .inl (cI, 100, .inl L)), (aF, .inl (cZ, 100, .inl F)), (aS, .inl (cI, 100, .inl S)), (aN, .inl (cI, 100, .inl N)), (fh, .inr (2, [.ref ap, .ref ag, .ref av, .int (nI fc)])), (ap, .inl (cI, 6, .inl fp)), (ag, .inl (cI, 6, .inl fg)), (av, .inl (cJ, 6, .inr (.inl fv))), (rh, .inr (4, [.ref ra, .int (nI rn)])), (ra, .inl (cI, rc, .inl g))] sz) := by
  refine Met.ofW (cc := cX5_takeLoose) (maxL := 7) (ret := (some .int)) (by decide) rfl ?_
  intro p e s m args below meth c s₁ B hml hv
  obtain ⟨rfl, hsz, hP, hK, hD0⟩ := hv
  have hx := B.exec
  have hb := B.bytes
  have hr := B.returns
  have hts := atoms_spec (ws := wsX5_takeLoose) B.pre
  have hown : s.vm.findClass RX5 = some m.cls := findClass_of_methodNamed B.named
  have hlocks := B.notSynchronized
  subst hsz
  have hD := hD0.self (sz := s.heap.size)
  generalize hAe : va_A [(h, .inr (6, [.ref ph, .ref fh, .int u])), (ph, .inr (3, [.ref aL, .ref aF, .ref aS, .ref aN, .int z])), (aL, .inl (cI, 100, .inl L)), (aF, .inl (cZ, 100, .inl F)), (aS, .inl (cI, 100, .inl S)), (aN, .inl (cI, 100, .inl N)), (fh, .inr (2, [.ref ap, .ref ag, .ref av, .int (nI fc)])), (ap, .inl (cI, 6, .inl fp)), (ag, .inl (cI, 6, .inl fg)), (av, .inl (cJ, 6, .inr (.inl fv))), (rh, .inr (4, [.ref ra, .int (nI rn)])), (ra, .inl (cI, rc, .inl g))] s.heap.size = A at hD ⊢
  have hA : ∀ q : Nat, s.heap.size ≤ q → A q := fun q h => by rw [← hAe]; exact Or.inr h
  have hS : va_S A s.heap s.heap [] := va_S.rf
  have hinX5 : ∀ w ∈ wsX50, w ∈ wsX5_takeLoose := by decide +kernel
  have hl := lv_entry ([.ref h, .ref rh, .int (nI k), .int (nI fr), .int (nI en)]) (n := 7) (Nat.le_of_ble_eq_true rfl)
  rw [lg_entry_eq]
  generalize (lg_sl ([.ref h, .ref rh, .int (nI k), .int (nI fr), .int (nI en)]) ++ List.replicate (7 - (lg_sl ([.ref h, .ref rh, .int (nI k), .int (nI fr), .int (nI en)])).length) Slot.unset).toArray = ls at hl ⊢
  have hl : lv_has ls 7 [(0, .ref h), (1, .ref rh), (2, .int (nI k)), (3, .int (nI fr)), (4, .int (nI en))] := hl
  have hns := zr_ns_in g hfe
  refine lv_aload_n hx hb dX5_takeLoose_0 rfl (lv_at hl 1 rfl) ?_
  refine lv_iload_n hx hb dX5_takeLoose_1 rfl (lv_at hl 3 rfl) ?_
  refine lv_iload hx hb dX5_takeLoose_2 (lv_at hl 4 rfl) ?_
  refine zc_callR (va_runV (As := [.int (nI fr), .int (nI en)]) (rest := []) ⟨hx, hb, hml, hown, hts⟩ (c_X3_nextSeparator l dC dI cI cZ cJ rh ra rc rn g fr en (by first | assumption | omega) (by first | assumption | omega) (by first | assumption | omega) (by first | assumption | omega)) (zc_V 2 hts ggX5_takeLoose_X3_nextSeparator rfl rfl rfl (by decide +kernel) (by decide +kernel) ⟨Nat.le_of_ble_eq_true rfl, Nat.le_of_ble_eq_true rfl⟩) ⟨zc_blind, va_recv hK hP (ci := 4) (q0 := 10) rfl rfl, zc_pay (hP.sub (ws' := [(rh, .inr (4, [.ref ra, .int (nI rn)])), (ra, .inl (cI, rc, .inl g))]) [10, 11] rfl) hK⟩ rfl rfl hl.1 rfl (lv_room (Nat.le_of_ble_eq_true rfl)) dX5_takeLoose_4 ⟨Nat.le_of_ble_eq_true rfl, Nat.le_of_ble_eq_true rfl⟩) ?_
  refine lv_istore (lv' := [(5, .int (nI (zr_ns g fr en))), (0, .ref h), (1, .ref rh), (2, .int (nI k)), (3, .int (nI fr)), (4, .int (nI en))]) hx hb dX5_takeLoose_7 hl (by decide) rfl (fun ls hl => ?_)
  refine lv_iload hx hb dX5_takeLoose_9 (lv_at hl 0 rfl) ?_
  refine lv_iload_n hx hb dX5_takeLoose_11 rfl (lv_at hl 4 rfl) ?_
  refine lv_isub hx hb dX5_takeLoose_12 ?_
  refine zc_ti (y := nI (zr_ns g fr en - fr)) (pk_sub hns.1) ?_
  refine lv_istore (lv' := [(6, .int (nI (zr_ns g fr en - fr))), (5, .int (nI (zr_ns g fr en))), (0, .ref h), (1, .ref rh), (2, .int (nI k)), (3, .int (nI fr)), (4, .int (nI en))]) hx hb dX5_takeLoose_13 hl (by decide) rfl (fun ls hl => ?_)
  refine lv_iload hx hb dX5_takeLoose_15 (lv_at hl 0 rfl) ?_
  refine lv_iconst (v := 1) hx hb dX5_takeLoose_17 (by decide) ?_
  refine lv_icmp_lt (tgt := 34) hx hb dX5_takeLoose_18 (by decide) (fun c18 => ?_) (fun c18 => ?_)
  · have hlt := zn_lt (b := 1) c18 (by omega) (by decide)
    have hok : ¬ zt_okL g en len fr := fun q => by have := q.1; omega
    have hE : zt_errL g en len fr = -5 := zi_f (by omega)
    refine lv_bipush (v := (-5)) hx hb dX5_takeLoose_34 (by decide) ?_
    have hP9 : va_P (dC, dI) vwCl [(h, .inr (6, [.ref ph, .ref fh, .int u])), (ph, .inr (3, [.ref aL, .ref aF, .ref aS, .ref aN, .int z])), (aL, .inl (cI, 100, .inl L)), (aF, .inl (cZ, 100, .inl F)), (aS, .inl (cI, 100, .inl S)), (aN, .inl (cI, 100, .inl N)), (fh, .inr (2, [.ref ap, .ref ag, .ref av, .int (nI (zi (zt_okL g en len fr) (fc + 1) fc))])), (ap, .inl (cI, 6, .inl (zi (zt_okL g en len fr) (upd fp fc (nI k)) fp))), (ag, .inl (cI, 6, .inl (zi (zt_okL g en len fr) (upd fg fc (nI (zr_ns g fr en - fr))) fg))), (av, .inl (cJ, 6, .inr (.inl (zi (zt_okL g en len fr) (vp_updL fv fc (zr_num g fr (zr_ns g fr en) 0)) fv)))), (rh, .inr (4, [.ref ra, .int (nI rn)])), (ra, .inl (cI, rc, .inl g))] s.heap := by simp only [zi_f hok]; exact hP
    have hD9 : va_D A [(h, .inr (6, [.ref ph, .ref fh, .int u])), (ph, .inr (3, [.ref aL, .ref aF, .ref aS, .ref aN, .int z])), (aL, .inl (cI, 100, .inl L)), (aF, .inl (cZ, 100, .inl F)), (aS, .inl (cI, 100, .inl S)), (aN, .inl (cI, 100, .inl N)), (fh, .inr (2, [.ref ap, .ref ag, .ref av, .int (nI (zi (zt_okL g en len fr) (fc + 1) fc))])), (ap, .inl (cI, 6, .inl (zi (zt_okL g en len fr) (upd fp fc (nI k)) fp))), (ag, .inl (cI, 6, .inl (zi (zt_okL g en len fr) (upd fg fc (nI (zr_ns g fr en - fr))) fg))), (av, .inl (cJ, 6, .inr (.inl (zi (zt_okL g en len fr) (vp_updL fv fc (zr_num g fr (zr_ns g fr en) 0)) fv)))), (rh, .inr (4, [.ref ra, .int (nI rn)])), (ra, .inl (cI, rc, .inl g))] := by simp only [zi_f hok]; exact hD
    have hres : ((-5) : Int32) = zi (zt_okL g en len fr) (nI (zt_npL g en fr)) (zt_errL g en len fr) := by rw [zi_f hok, hE]
    exact W.iret (v := (-5)) hx hb hr (fun t ht hW => ⟨⟨_, (), rfl, hres, by rw [ht]; exact hP9, va_K.moved hW.alike hK, hD9⟩, hS.F ht⟩) hS.2.2 dX5_takeLoose_36
  · have hge := zn_nlt (b := 1) c18 (by omega) (by decide)
    refine lv_iload hx hb dX5_takeLoose_21 (lv_at hl 0 rfl) ?_
    refine lv_aload_n hx hb dX5_takeLoose_23 rfl (lv_at hl 2 rfl) ?_
    refine va_get (D := (dC, dI)) (ci := 6) (v := .ref ph) (C := RX5) (T := TX5) (N := 3) hx hb hts hinX5 hown hK hP 0 rfl rfl 0 (by decide) (hts (.fieldLink RX5 9 "ScanCodes$Taker" "prefixes" "LScanCodes$Prefixes;") (by decide +kernel)) (fun _ h9 => h9) rfl dX5_takeLoose_24 ?_
    refine lv_iload_n hx hb dX5_takeLoose_27 rfl (lv_at hl 4 rfl) ?_
    refine zc_callR (va_runV (As := [.int (nI k)]) (rest := [.int (nI (zr_ns g fr en - fr))]) ⟨hx, hb, hml, hown, hts⟩ (c_X2_lengthOf l dC dI cI cZ cJ ph aL aF aS aN z L F S N k (by first | assumption | omega) (by first | assumption | omega) (by first | assumption | omega)) (zc_V 1 hts ggX5_takeLoose_X2_lengthOf rfl rfl rfl (by decide +kernel) (by decide +kernel) ⟨Nat.le_of_ble_eq_true rfl, Nat.le_of_ble_eq_true rfl⟩) ⟨zc_blind, va_recv hK hP (ci := 3) (q0 := 1) rfl rfl, zc_pay (hP.sub (ws' := [(ph, .inr (3, [.ref aL, .ref aF, .ref aS, .ref aN, .int z])), (aL, .inl (cI, 100, .inl L)), (aF, .inl (cZ, 100, .inl F)), (aS, .inl (cI, 100, .inl S)), (aN, .inl (cI, 100, .inl N))]) [1, 2, 3, 4, 5] rfl) hK⟩ rfl rfl hl.1 rfl (lv_room (Nat.le_of_ble_eq_true rfl)) dX5_takeLoose_28 ⟨Nat.le_of_ble_eq_true rfl, Nat.le_of_ble_eq_true rfl⟩) ?_
    refine zc_ti (y := nI len) hlen ?_
    refine lv_icmp_le (tgt := 37) hx hb dX5_takeLoose_31 (by decide) (fun c31 => ?_) (fun c31 => ?_)
    · have hle := zn_le c31 (by omega) (by omega)
      refine lv_iload hx hb dX5_takeLoose_37 (lv_at hl 1 rfl) ?_
      refine lv_iload hx hb dX5_takeLoose_39 (lv_at hl 6 rfl) ?_
      refine lv_iconst (v := 1) hx hb dX5_takeLoose_41 (by decide) ?_
      refine lv_isub hx hb dX5_takeLoose_42 ?_
      refine zc_ti (y := nI (en - 1)) (zn_pred (by omega)) ?_
      refine lv_icmp_ne (tgt := 49) hx hb dX5_takeLoose_43 (by decide) (fun c43 => ?_) (fun c43 => ?_)
      · have hne := zn_ne c43 (by omega) (by omega)
        have hok : zt_okL g en len fr := ⟨⟨hge, hle⟩, by omega⟩
        refine lv_aload_n hx hb dX5_takeLoose_49 rfl (lv_at hl 2 rfl) ?_
        refine va_get (D := (dC, dI)) (ci := 6) (v := .ref fh) (C := RX5) (T := TX5) (N := 3) hx hb hts hinX5 hown hK hP 0 rfl rfl 1 (by decide) (hts (.fieldLink RX5 18 "ScanCodes$Taker" "fields" "LScanCodes$Fields;") (by decide +kernel)) (fun _ h9 => h9) rfl dX5_takeLoose_50 ?_
        refine lv_iload_n hx hb dX5_takeLoose_53 rfl (lv_at hl 4 rfl) ?_
        refine lv_iload hx hb dX5_takeLoose_54 (lv_at hl 0 rfl) ?_
        refine lv_aload_n hx hb dX5_takeLoose_56 rfl (lv_at hl 3 rfl) ?_
        refine lv_iload_n hx hb dX5_takeLoose_57 rfl (lv_at hl 5 rfl) ?_
        refine lv_iload hx hb dX5_takeLoose_58 (lv_at hl 1 rfl) ?_
        refine zc_callR (va_runV (As := [.int (nI fr), .int (nI (zr_ns g fr en))]) (rest := [.int (nI (zr_ns g fr en - fr)), .int (nI k), .ref fh]) ⟨hx, hb, hml, hown, hts⟩ (c_X3_numberAt l dC dI cI cZ cJ rh ra rc rn g fr (zr_ns g fr en) (by first | assumption | omega) (by first | assumption | omega) (by first | assumption | omega) (by first | assumption | omega)) (zc_V 2 hts ggX5_takeLoose_X3_numberAt rfl rfl rfl (by decide +kernel) (by decide +kernel) ⟨Nat.le_of_ble_eq_true rfl, Nat.le_of_ble_eq_true rfl⟩) ⟨zc_blind, va_recv hK hP (ci := 4) (q0 := 10) rfl rfl, zc_pay (hP.sub (ws' := [(rh, .inr (4, [.ref ra, .int (nI rn)])), (ra, .inl (cI, rc, .inl g))]) [10, 11] rfl) hK⟩ rfl rfl hl.1 rfl (lv_room (Nat.le_of_ble_eq_true rfl)) dX5_takeLoose_60 ⟨Nat.le_of_ble_eq_true rfl, Nat.le_of_ble_eq_true rfl⟩) ?_
        have hPc := hP.sub (ws' := [(fh, .inr (2, [.ref ap, .ref ag, .ref av, .int (nI fc)])), (ap, .inl (cI, 6, .inl fp)), (ag, .inl (cI, 6, .inl fg)), (av, .inl (cJ, 6, .inr (.inl fv)))]) [6, 7, 8, 9] rfl
        have hDc := hD.sub (ws' := [(fh, .inr (2, [.ref ap, .ref ag, .ref av, .int (nI fc)])), (ap, .inl (cI, 6, .inl fp)), (ag, .inl (cI, 6, .inl fg)), (av, .inl (cJ, 6, .inr (.inl fv)))]) [6, 7, 8, 9] (by decide) rfl
        have hFc := va_free (wc := [(fh, .inr (2, [.ref ap, .ref ag, .ref av, .int (nI fc)])), (ap, .inl (cI, 6, .inl fp)), (ag, .inl (cI, 6, .inl fg)), (av, .inl (cJ, 6, .inr (.inl fv)))]) hD hS hA [6, 7, 8, 9] rfl
        refine va_callv (va_runV (As := [.int (nI k), .int (nI (zr_ns g fr en - fr)), .long (zr_num g fr (zr_ns g fr en) 0)]) (rest := []) ⟨hx, hb, hml, hown, hts⟩ (c_X1_add l dC dI cI cZ cJ fh ap ag av fc fp fg fv (nI k) (nI (zr_ns g fr en - fr)) (zr_num g fr (zr_ns g fr en) 0) (by first | assumption | omega) s.heap.size) (zc_V 3 hts ggX5_takeLoose_X1_add rfl rfl rfl (by decide +kernel) (by decide +kernel) ⟨Nat.le_of_ble_eq_true rfl, Nat.le_of_ble_eq_true rfl⟩) ⟨zc_blindW, va_recv hK hP (ci := 2) (q0 := 6) rfl rfl, zc_payW hPc hK hDc⟩ rfl rfl hl.1 rfl (lv_room (Nat.le_of_ble_eq_true rfl)) dX5_takeLoose_63 ⟨Nat.le_of_ble_eq_true rfl, Nat.le_of_ble_eq_true rfl⟩) hS (fun q _ h => hFc q h) hFc (fun uu t H1 locs ht hvm hw hB hz1 hk1 hS => ?_)
        obtain ⟨hP1, hK1, hD1⟩ := hB
        rw [ht] at hP1
        obtain ⟨hP, hD⟩ := va_join (wr := [(h, .inr (6, [.ref ph, .ref fh, .int u])), (ph, .inr (3, [.ref aL, .ref aF, .ref aS, .ref aN, .int z])), (aL, .inl (cI, 100, .inl L)), (aF, .inl (cZ, 100, .inl F)), (aS, .inl (cI, 100, .inl S)), (aN, .inl (cI, 100, .inl N)), (rh, .inr (4, [.ref ra, .int (nI rn)])), (ra, .inl (cI, rc, .inl g))]) (w1 := [(fh, .inr (2, [.ref ap, .ref ag, .ref av, .int (nI (fc + 1))])), (ap, .inl (cI, 6, .inl (upd fp fc (nI k)))), (ag, .inl (cI, 6, .inl (upd fg fc (nI (zr_ns g fr en - fr))))), (av, .inl (cJ, 6, .inr (.inl (vp_updL fv fc (zr_num g fr (zr_ns g fr en) 0)))))]) hP hD [6, 7, 8, 9] [0, 1, 2, 3, 4, 5, 10, 11] rfl rfl (by decide) (by decide) hk1 hFc hP1 hD1
        generalize H1 = H at hP hS ⊢
        have hP := hP.sub (ws' := [(h, .inr (6, [.ref ph, .ref fh, .int u])), (ph, .inr (3, [.ref aL, .ref aF, .ref aS, .ref aN, .int z])), (aL, .inl (cI, 100, .inl L)), (aF, .inl (cZ, 100, .inl F)), (aS, .inl (cI, 100, .inl S)), (aN, .inl (cI, 100, .inl N)), (fh, .inr (2, [.ref ap, .ref ag, .ref av, .int (nI (fc + 1))])), (ap, .inl (cI, 6, .inl (upd fp fc (nI k)))), (ag, .inl (cI, 6, .inl (upd fg fc (nI (zr_ns g fr en - fr))))), (av, .inl (cJ, 6, .inr (.inl (vp_updL fv fc (zr_num g fr (zr_ns g fr en) 0))))), (rh, .inr (4, [.ref ra, .int (nI rn)])), (ra, .inl (cI, rc, .inl g))]) [0, 1, 2, 3, 4, 5, 8, 9, 10, 11, 6, 7] rfl
        have hD := hD.sub (ws' := [(h, .inr (6, [.ref ph, .ref fh, .int u])), (ph, .inr (3, [.ref aL, .ref aF, .ref aS, .ref aN, .int z])), (aL, .inl (cI, 100, .inl L)), (aF, .inl (cZ, 100, .inl F)), (aS, .inl (cI, 100, .inl S)), (aN, .inl (cI, 100, .inl N)), (fh, .inr (2, [.ref ap, .ref ag, .ref av, .int (nI (fc + 1))])), (ap, .inl (cI, 6, .inl (upd fp fc (nI k)))), (ag, .inl (cI, 6, .inl (upd fg fc (nI (zr_ns g fr en - fr))))), (av, .inl (cJ, 6, .inr (.inl (vp_updL fv fc (zr_num g fr (zr_ns g fr en) 0))))), (rh, .inr (4, [.ref ra, .int (nI rn)])), (ra, .inl (cI, rc, .inl g))]) [0, 1, 2, 3, 4, 5, 8, 9, 10, 11, 6, 7] (by decide) rfl
        refine lv_iload hx hb dX5_takeLoose_66 (lv_at hl 1 rfl) ?_
        refine lv_iload hx hb dX5_takeLoose_68 (lv_at hl 6 rfl) ?_
        refine lv_icmp_ge (tgt := 80) hx hb dX5_takeLoose_70 (by decide) (fun c70 => ?_) (fun c70 => ?_)
        · have hge3 := zn_le c70 (by omega) (by omega)
          refine lv_iload hx hb dX5_takeLoose_80 (lv_at hl 6 rfl) ?_
          have hP9 : va_P (dC, dI) vwCl [(h, .inr (6, [.ref ph, .ref fh, .int u])), (ph, .inr (3, [.ref aL, .ref aF, .ref aS, .ref aN, .int z])), (aL, .inl (cI, 100, .inl L)), (aF, .inl (cZ, 100, .inl F)), (aS, .inl (cI, 100, .inl S)), (aN, .inl (cI, 100, .inl N)), (fh, .inr (2, [.ref ap, .ref ag, .ref av, .int (nI (zi (zt_okL g en len fr) (fc + 1) fc))])), (ap, .inl (cI, 6, .inl (zi (zt_okL g en len fr) (upd fp fc (nI k)) fp))), (ag, .inl (cI, 6, .inl (zi (zt_okL g en len fr) (upd fg fc (nI (zr_ns g fr en - fr))) fg))), (av, .inl (cJ, 6, .inr (.inl (zi (zt_okL g en len fr) (vp_updL fv fc (zr_num g fr (zr_ns g fr en) 0)) fv)))), (rh, .inr (4, [.ref ra, .int (nI rn)])), (ra, .inl (cI, rc, .inl g))] H := by simp only [zi_t hok]; exact hP
          have hD9 : va_D A [(h, .inr (6, [.ref ph, .ref fh, .int u])), (ph, .inr (3, [.ref aL, .ref aF, .ref aS, .ref aN, .int z])), (aL, .inl (cI, 100, .inl L)), (aF, .inl (cZ, 100, .inl F)), (aS, .inl (cI, 100, .inl S)), (aN, .inl (cI, 100, .inl N)), (fh, .inr (2, [.ref ap, .ref ag, .ref av, .int (nI (zi (zt_okL g en len fr) (fc + 1) fc))])), (ap, .inl (cI, 6, .inl (zi (zt_okL g en len fr) (upd fp fc (nI k)) fp))), (ag, .inl (cI, 6, .inl (zi (zt_okL g en len fr) (upd fg fc (nI (zr_ns g fr en - fr))) fg))), (av, .inl (cJ, 6, .inr (.inl (zi (zt_okL g en len fr) (vp_updL fv fc (zr_num g fr (zr_ns g fr en) 0)) fv)))), (rh, .inr (4, [.ref ra, .int (nI rn)])), (ra, .inl (cI, rc, .inl g))] := by simp only [zi_t hok]; exact hD
          have hres : (nI en) = zi (zt_okL g en len fr) (nI (zt_npL g en fr)) (zt_errL g en len fr) := by rw [zi_t hok, zt_npL, zi_f (by omega)]
          exact W.iret (v := nI en) hx hb hr (fun t ht hW => ⟨⟨_, (), rfl, hres, by rw [ht]; exact hP9, va_K.moved hW.alike hK, hD9⟩, hS.F ht⟩) hS.2.2 dX5_takeLoose_82
        · have hlt3 := zn_nle c70 (by omega) (by omega)
          refine lv_iload hx hb dX5_takeLoose_73 (lv_at hl 1 rfl) ?_
          refine lv_iconst (v := 1) hx hb dX5_takeLoose_75 (by decide) ?_
          refine lv_iadd hx hb dX5_takeLoose_76 ?_
          refine zc_ti (y := nI (zr_ns g fr en + 1)) (nI_1 _) ?_
          refine lv_goto (tgt := 82) hx hb dX5_takeLoose_77 (by decide) ?_
          have hP9 : va_P (dC, dI) vwCl [(h, .inr (6, [.ref ph, .ref fh, .int u])), (ph, .inr (3, [.ref aL, .ref aF, .ref aS, .ref aN, .int z])), (aL, .inl (cI, 100, .inl L)), (aF, .inl (cZ, 100, .inl F)), (aS, .inl (cI, 100, .inl S)), (aN, .inl (cI, 100, .inl N)), (fh, .inr (2, [.ref ap, .ref ag, .ref av, .int (nI (zi (zt_okL g en len fr) (fc + 1) fc))])), (ap, .inl (cI, 6, .inl (zi (zt_okL g en len fr) (upd fp fc (nI k)) fp))), (ag, .inl (cI, 6, .inl (zi (zt_okL g en len fr) (upd fg fc (nI (zr_ns g fr en - fr))) fg))), (av, .inl (cJ, 6, .inr (.inl (zi (zt_okL g en len fr) (vp_updL fv fc (zr_num g fr (zr_ns g fr en) 0)) fv)))), (rh, .inr (4, [.ref ra, .int (nI rn)])), (ra, .inl (cI, rc, .inl g))] H := by simp only [zi_t hok]; exact hP
          have hD9 : va_D A [(h, .inr (6, [.ref ph, .ref fh, .int u])), (ph, .inr (3, [.ref aL, .ref aF, .ref aS, .ref aN, .int z])), (aL, .inl (cI, 100, .inl L)), (aF, .inl (cZ, 100, .inl F)), (aS, .inl (cI, 100, .inl S)), (aN, .inl (cI, 100, .inl N)), (fh, .inr (2, [.ref ap, .ref ag, .ref av, .int (nI (zi (zt_okL g en len fr) (fc + 1) fc))])), (ap, .inl (cI, 6, .inl (zi (zt_okL g en len fr) (upd fp fc (nI k)) fp))), (ag, .inl (cI, 6, .inl (zi (zt_okL g en len fr) (upd fg fc (nI (zr_ns g fr en - fr))) fg))), (av, .inl (cJ, 6, .inr (.inl (zi (zt_okL g en len fr) (vp_updL fv fc (zr_num g fr (zr_ns g fr en) 0)) fv)))), (rh, .inr (4, [.ref ra, .int (nI rn)])), (ra, .inl (cI, rc, .inl g))] := by simp only [zi_t hok]; exact hD
          have hres : (nI (zr_ns g fr en + 1)) = zi (zt_okL g en len fr) (nI (zt_npL g en fr)) (zt_errL g en len fr) := by rw [zi_t hok, zt_npL, zi_t hlt3]
          exact W.iret (v := nI (zr_ns g fr en + 1)) hx hb hr (fun t ht hW => ⟨⟨_, (), rfl, hres, by rw [ht]; exact hP9, va_K.moved hW.alike hK, hD9⟩, hS.F ht⟩) hS.2.2 dX5_takeLoose_82
      · have heq := zn_eq c43 (by omega) (by omega)
        have hok : ¬ zt_okL g en len fr := fun q => q.2 (by omega)
        have hE : zt_errL g en len fr = -6 := zi_t ⟨hge, hle⟩
        refine lv_bipush (v := (-6)) hx hb dX5_takeLoose_46 (by decide) ?_
        have hP9 : va_P (dC, dI) vwCl [(h, .inr (6, [.ref ph, .ref fh, .int u])), (ph, .inr (3, [.ref aL, .ref aF, .ref aS, .ref aN, .int z])), (aL, .inl (cI, 100, .inl L)), (aF, .inl (cZ, 100, .inl F)), (aS, .inl (cI, 100, .inl S)), (aN, .inl (cI, 100, .inl N)), (fh, .inr (2, [.ref ap, .ref ag, .ref av, .int (nI (zi (zt_okL g en len fr) (fc + 1) fc))])), (ap, .inl (cI, 6, .inl (zi (zt_okL g en len fr) (upd fp fc (nI k)) fp))), (ag, .inl (cI, 6, .inl (zi (zt_okL g en len fr) (upd fg fc (nI (zr_ns g fr en - fr))) fg))), (av, .inl (cJ, 6, .inr (.inl (zi (zt_okL g en len fr) (vp_updL fv fc (zr_num g fr (zr_ns g fr en) 0)) fv)))), (rh, .inr (4, [.ref ra, .int (nI rn)])), (ra, .inl (cI, rc, .inl g))] s.heap := by simp only [zi_f hok]; exact hP
        have hD9 : va_D A [(h, .inr (6, [.ref ph, .ref fh, .int u])), (ph, .inr (3, [.ref aL, .ref aF, .ref aS, .ref aN, .int z])), (aL, .inl (cI, 100, .inl L)), (aF, .inl (cZ, 100, .inl F)), (aS, .inl (cI, 100, .inl S)), (aN, .inl (cI, 100, .inl N)), (fh, .inr (2, [.ref ap, .ref ag, .ref av, .int (nI (zi (zt_okL g en len fr) (fc + 1) fc))])), (ap, .inl (cI, 6, .inl (zi (zt_okL g en len fr) (upd fp fc (nI k)) fp))), (ag, .inl (cI, 6, .inl (zi (zt_okL g en len fr) (upd fg fc (nI (zr_ns g fr en - fr))) fg))), (av, .inl (cJ, 6, .inr (.inl (zi (zt_okL g en len fr) (vp_updL fv fc (zr_num g fr (zr_ns g fr en) 0)) fv)))), (rh, .inr (4, [.ref ra, .int (nI rn)])), (ra, .inl (cI, rc, .inl g))] := by simp only [zi_f hok]; exact hD
        have hres : ((-6) : Int32) = zi (zt_okL g en len fr) (nI (zt_npL g en fr)) (zt_errL g en len fr) := by rw [zi_f hok, hE]
        exact W.iret (v := (-6)) hx hb hr (fun t ht hW => ⟨⟨_, (), rfl, hres, by rw [ht]; exact hP9, va_K.moved hW.alike hK, hD9⟩, hS.F ht⟩) hS.2.2 dX5_takeLoose_48
    · have hgt := zn_nle c31 (by omega) (by omega)
      have hok : ¬ zt_okL g en len fr := fun q => by have := q.1; omega
      have hE : zt_errL g en len fr = -5 := zi_f (by omega)
      refine lv_bipush (v := (-5)) hx hb dX5_takeLoose_34 (by decide) ?_
      have hP9 : va_P (dC, dI) vwCl [(h, .inr (6, [.ref ph, .ref fh, .int u])), (ph, .inr (3, [.ref aL, .ref aF, .ref aS, .ref aN, .int z])), (aL, .inl (cI, 100, .inl L)), (aF, .inl (cZ, 100, .inl F)), (aS, .inl (cI, 100, .inl S)), (aN, .inl (cI, 100, .inl N)), (fh, .inr (2, [.ref ap, .ref ag, .ref av, .int (nI (zi (zt_okL g en len fr) (fc + 1) fc))])), (ap, .inl (cI, 6, .inl (zi (zt_okL g en len fr) (upd fp fc (nI k)) fp))), (ag, .inl (cI, 6, .inl (zi (zt_okL g en len fr) (upd fg fc (nI (zr_ns g fr en - fr))) fg))), (av, .inl (cJ, 6, .inr (.inl (zi (zt_okL g en len fr) (vp_updL fv fc (zr_num g fr (zr_ns g fr en) 0)) fv)))), (rh, .inr (4, [.ref ra, .int (nI rn)])), (ra, .inl (cI, rc, .inl g))] s.heap := by simp only [zi_f hok]; exact hP
      have hD9 : va_D A [(h, .inr (6, [.ref ph, .ref fh, .int u])), (ph, .inr (3, [.ref aL, .ref aF, .ref aS, .ref aN, .int z])), (aL, .inl (cI, 100, .inl L)), (aF, .inl (cZ, 100, .inl F)), (aS, .inl (cI, 100, .inl S)), (aN, .inl (cI, 100, .inl N)), (fh, .inr (2, [.ref ap, .ref ag, .ref av, .int (nI (zi (zt_okL g en len fr) (fc + 1) fc))])), (ap, .inl (cI, 6, .inl (zi (zt_okL g en len fr) (upd fp fc (nI k)) fp))), (ag, .inl (cI, 6, .inl (zi (zt_okL g en len fr) (upd fg fc (nI (zr_ns g fr en - fr))) fg))), (av, .inl (cJ, 6, .inr (.inl (zi (zt_okL g en len fr) (vp_updL fv fc (zr_num g fr (zr_ns g fr en) 0)) fv)))), (rh, .inr (4, [.ref ra, .int (nI rn)])), (ra, .inl (cI, rc, .inl g))] := by simp only [zi_f hok]; exact hD
      have hres : ((-5) : Int32) = zi (zt_okL g en len fr) (nI (zt_npL g en fr)) (zt_errL g en len fr) := by rw [zi_f hok, hE]
      exact W.iret (v := (-5)) hx hb hr (fun t ht hW => ⟨⟨_, (), rfl, hres, by rw [ht]; exact hP9, va_K.moved hW.alike hK, hD9⟩, hS.F ht⟩) hS.2.2 dX5_takeLoose_36
set_option maxHeartbeats 4000000 in
set_option maxRecDepth 100000 in
theorem c_X5_takeField (l : Launch) (dC : Nat → ClassId) (dI : Nat → Nat → Nat) (cI cZ cJ : ClassId) (h : Nat) (u : Int32) (ph : Nat) (aL : Nat) (aF : Nat) (aS : Nat) (aN : Nat) (z : Int32) (L : Nat → Int32) (F : Nat → Int32) (S : Nat → Int32) (N : Nat → Int32) (fh : Nat) (ap : Nat) (ag : Nat) (av : Nat) (fc : Nat) (fp : Nat → Int32) (fg : Nat → Int32) (fv : Nat → Int64) (rh : Nat) (ra : Nat) (rc : Nat) (rn : Nat) (g : Nat → Int32) (pp : Nat) (en : Nat) (hrn : rn ≤ rc) (hrc : rc < 2 ^ 30) (hfc : fc < 6) (hpe : pp ≤ en) (hen : en ≤ rn) (hLT : zt_LT L) (sz : Nat) : Met l yX5_takeField wsX5_takeField ({ frames := 3, cells := 0, slots := 0, locals := 72 }) (zc_PW [.ref h, .ref rh, .int (nI pp), .int (nI en)] (dC, dI) (zc_T cI cZ cJ) [(h, .inr (6, [.ref ph, .ref fh, .int u])), (ph, .inr (3, [.ref aL, .ref aF, .ref aS, .ref aN, .int z])), (aL, .inl (cI, 100, .inl L)), (aF, .inl (cZ, 100, .inl F)), (aS, .inl (cI, 100, .inl S)), (aN, .inl (cI, 100, .inl N)), (fh, .inr (2, [.ref ap, .ref ag, .ref av, .int (nI fc)])), (ap, .inl (cI, 6, .inl fp)), (ag, .inl (cI, 6, .inl fg)), (av, .inl (cJ, 6, .inr (.inl fv))), (rh, .inr (4, [.ref ra, .int (nI rn)])), (ra, .inl (cI, rc, .inl g))] sz) (va_Qi (fun (r : Int32) (_ : Unit) => r = zt_res g en L F fp fc pp) (fun _ t => zc_B (dC, dI) (zc_T cI cZ cJ) (va_A [(h, .inr (6, [.ref ph, .ref fh, .int u])), (ph, .inr (3, [.ref aL, .ref aF, .ref aS, .ref aN, .int z])), (aL, .inl (cI, 100, .inl L)), (aF, .inl (cZ, 100, .inl F)), (aS, .inl (cI, 100, .inl S)), (aN, .inl (cI, 100, .inl N)), (fh, .inr (2, [.ref ap, .ref ag, .ref av, .int (nI fc)])), (ap, .inl (cI, 6, .inl fp)), (ag, .inl (cI, 6, .inl fg)), (av, .inl (cJ, 6, .inr (.inl fv))), (rh, .inr (4, [.ref ra, .int (nI rn)])), (ra, .inl (cI, rc, .inl g))] sz) [(h, .inr (6, [.ref ph, .ref fh, .int (zi (zt_new g en L pp) (zt_x g pp) u)])), (ph, .inr (3, [.ref aL, .ref aF, .ref aS, .ref aN, .int z])), (aL, .inl (cI, 100, .inl L)), (aF, .inl (cZ, 100, .inl F)), (aS, .inl (cI, 100, .inl S)), (aN, .inl (cI, 100, .inl N)), (fh, .inr (2, [.ref ap, .ref ag, .ref av, .int (nI (zi (zt_ok g en L F fp fc pp) (fc + 1) fc))])), (ap, .inl (cI, 6, .inl (zi (zt_ok g en L F fp fc pp) (upd fp fc (zt_x g pp)) fp))), (ag, .inl (cI, 6, .inl (zi (zt_ok g en L F fp fc pp) (upd fg fc (nI (zt_d g en L F pp))) fg))), (av, .inl (cJ, 6, .inr (.inl (zi (zt_ok g en L F fp fc pp) (vp_updL fv fc (zt_v g en L F pp)) fv)))), (rh, .inr (4, [.ref ra, .int (nI rn)])), (ra, .inl (cI, rc, .inl g))] t) (va_A [(h, .inr (6, [.ref ph, .ref fh, .int u])), (ph, .inr (3, [.ref aL, .ref aF, .ref aS, .ref aN, .int z])), (aL, .inl (cI, 100, .inl L)), (aF, .inl (cZ, 100, .inl F)), (aS, .inl (cI, 100, .inl S)), (aN, .inl (cI, 100, .inl N)), (fh, .inr (2, [.ref ap, .ref ag, .ref av, .int (nI fc)])), (ap, .inl (cI, 6, .inl fp)), (ag, .inl (cI, 6, .inl fg)), (av, .inl (cJ, 6, .inr (.inl fv))), (rh, .inr (4, [.ref ra, .int (nI rn)])), (ra, .inl (cI, rc, .inl g))] sz)) 0 0 (va_A [(h, .inr (6, [.ref ph, .ref fh, .int u])), (ph, .inr (3, [.ref aL, .ref aF, .ref aS, .ref aN, .int z])), (aL, .inl (cI, 100, .inl L)), (aF, .inl (cZ, 100, .inl F)), (aS, .inl (cI, 100, .inl S)), (aN, .inl (cI, 100, .inl N)), (fh, .inr (2, [.ref ap, .ref ag, .ref av, .int (nI fc)])), (ap, .inl (cI, 6, .inl fp)), (ag, .inl (cI, 6, .inl fg)), (av, .inl (cJ, 6, .inr (.inl fv))), (rh, .inr (4, [.ref ra, .int (nI rn)])), (ra, .inl (cI, rc, .inl g))] sz) := by
  refine Met.ofW (cc := cX5_takeField) (maxL := 6) (ret := (some .int)) (by decide) rfl ?_
  intro p e s m args below meth c s₁ B hml hv
  obtain ⟨rfl, hsz, hP, hK, hD0⟩ := hv
  have hx := B.exec
  have hb := B.bytes
  have hr := B.returns
  have hts := atoms_spec (ws := wsX5_takeField) B.pre
  have hown : s.vm.findClass RX5 = some m.cls := findClass_of_methodNamed B.named
  have hlocks := B.notSynchronized
  subst hsz
  have hD := hD0.self (sz := s.heap.size)
  generalize hAe : va_A [(h, .inr (6, [.ref ph, .ref fh, .int u])), (ph, .inr (3, [.ref aL, .ref aF, .ref aS, .ref aN, .int z])), (aL, .inl (cI, 100, .inl L)), (aF, .inl (cZ, 100, .inl F)), (aS, .inl (cI, 100, .inl S)), (aN, .inl (cI, 100, .inl N)), (fh, .inr (2, [.ref ap, .ref ag, .ref av, .int (nI fc)])), (ap, .inl (cI, 6, .inl fp)), (ag, .inl (cI, 6, .inl fg)), (av, .inl (cJ, 6, .inr (.inl fv))), (rh, .inr (4, [.ref ra, .int (nI rn)])), (ra, .inl (cI, rc, .inl g))] s.heap.size = A at hD ⊢
  have hA : ∀ q : Nat, s.heap.size ≤ q → A q := fun q h => by rw [← hAe]; exact Or.inr h
  have hS : va_S A s.heap s.heap [] := va_S.rf
  have hinX5 : ∀ w ∈ wsX50, w ∈ wsX5_takeField := by decide +kernel
  have hl := lv_entry ([.ref h, .ref rh, .int (nI pp), .int (nI en)]) (n := 6) (Nat.le_of_ble_eq_true rfl)
  rw [lg_entry_eq]
  generalize (lg_sl ([.ref h, .ref rh, .int (nI pp), .int (nI en)]) ++ List.replicate (6 - (lg_sl ([.ref h, .ref rh, .int (nI pp), .int (nI en)])).length) Slot.unset).toArray = ls at hl ⊢
  have hl : lv_has ls 6 [(0, .ref h), (1, .ref rh), (2, .int (nI pp)), (3, .int (nI en))] := hl
  refine lv_iload_n hx hb dX5_takeField_0 rfl (lv_at hl 2 rfl) ?_
  refine lv_iconst (v := 2) hx hb dX5_takeField_1 (by decide) ?_
  refine lv_iadd hx hb dX5_takeField_2 ?_
  refine zc_ti (y := nI (pp + 2)) (nI_add pp 2) ?_
  refine lv_istore (lv' := [(4, .int (nI (pp + 2))), (0, .ref h), (1, .ref rh), (2, .int (nI pp)), (3, .int (nI en))]) hx hb dX5_takeField_3 hl (by decide) rfl (fun ls hl => ?_)
  refine lv_iload hx hb dX5_takeField_5 (lv_at hl 0 rfl) ?_
  refine lv_iload_n hx hb dX5_takeField_7 rfl (lv_at hl 4 rfl) ?_
  refine lv_icmp_gt (tgt := 23) hx hb dX5_takeField_8 (by decide) (fun c8 => ?_) (fun c8 => ?_)
  · have hgt := zn_lt c8 (by omega) (by omega)
    have hno : ¬ zt_two g en pp := fun q => by have := q.1; omega
    have hok : ¬ zt_ok g en L F fp fc pp := fun q => hno q.1
    have hnw : ¬ zt_new g en L pp := fun q => hno q.1
    have hE : zt_err g en L F fp fc pp = -4 := zi_f (fun q => hno q.1)
    refine lv_bipush (v := (-4)) hx hb dX5_takeField_23 (by decide) ?_
    have hP9 : va_P (dC, dI) vwCl [(h, .inr (6, [.ref ph, .ref fh, .int (zi (zt_new g en L pp) (zt_x g pp) u)])), (ph, .inr (3, [.ref aL, .ref aF, .ref aS, .ref aN, .int z])), (aL, .inl (cI, 100, .inl L)), (aF, .inl (cZ, 100, .inl F)), (aS, .inl (cI, 100, .inl S)), (aN, .inl (cI, 100, .inl N)), (fh, .inr (2, [.ref ap, .ref ag, .ref av, .int (nI (zi (zt_ok g en L F fp fc pp) (fc + 1) fc))])), (ap, .inl (cI, 6, .inl (zi (zt_ok g en L F fp fc pp) (upd fp fc (zt_x g pp)) fp))), (ag, .inl (cI, 6, .inl (zi (zt_ok g en L F fp fc pp) (upd fg fc (nI (zt_d g en L F pp))) fg))), (av, .inl (cJ, 6, .inr (.inl (zi (zt_ok g en L F fp fc pp) (vp_updL fv fc (zt_v g en L F pp)) fv)))), (rh, .inr (4, [.ref ra, .int (nI rn)])), (ra, .inl (cI, rc, .inl g))] s.heap := by simp only [zi_f hok, zi_f hnw]; exact hP
    have hD9 : va_D A [(h, .inr (6, [.ref ph, .ref fh, .int (zi (zt_new g en L pp) (zt_x g pp) u)])), (ph, .inr (3, [.ref aL, .ref aF, .ref aS, .ref aN, .int z])), (aL, .inl (cI, 100, .inl L)), (aF, .inl (cZ, 100, .inl F)), (aS, .inl (cI, 100, .inl S)), (aN, .inl (cI, 100, .inl N)), (fh, .inr (2, [.ref ap, .ref ag, .ref av, .int (nI (zi (zt_ok g en L F fp fc pp) (fc + 1) fc))])), (ap, .inl (cI, 6, .inl (zi (zt_ok g en L F fp fc pp) (upd fp fc (zt_x g pp)) fp))), (ag, .inl (cI, 6, .inl (zi (zt_ok g en L F fp fc pp) (upd fg fc (nI (zt_d g en L F pp))) fg))), (av, .inl (cJ, 6, .inr (.inl (zi (zt_ok g en L F fp fc pp) (vp_updL fv fc (zt_v g en L F pp)) fv)))), (rh, .inr (4, [.ref ra, .int (nI rn)])), (ra, .inl (cI, rc, .inl g))] := by simp only [zi_f hok, zi_f hnw]; exact hD
    have hres : ((-4) : Int32) = zt_res g en L F fp fc pp := by rw [zt_res, zi_f hok, hE]
    exact W.iret (v := (-4)) hx hb hr (fun t ht hW => ⟨⟨_, (), rfl, hres, by rw [ht]; exact hP9, va_K.moved hW.alike hK, hD9⟩, hS.F ht⟩) hS.2.2 dX5_takeField_25
  · have hle := zn_nlt c8 (by omega) (by omega)
    have hns := zr_ns_in g (Nat.le_add_right pp 2)
    refine lv_aload_n hx hb dX5_takeField_11 rfl (lv_at hl 2 rfl) ?_
    refine lv_iload_n hx hb dX5_takeField_12 rfl (lv_at hl 3 rfl) ?_
    refine lv_iload hx hb dX5_takeField_13 (lv_at hl 0 rfl) ?_
    refine zc_callR (va_runV (As := [.int (nI pp), .int (nI (pp + 2))]) (rest := []) ⟨hx, hb, hml, hown, hts⟩ (c_X3_nextSeparator l dC dI cI cZ cJ rh ra rc rn g pp (pp + 2) (by first | assumption | omega) (by first | assumption | omega) (by first | assumption | omega) (by first | assumption | omega)) (zc_V 2 hts ggX5_takeField_X3_nextSeparator rfl rfl rfl (by decide +kernel) (by decide +kernel) ⟨Nat.le_of_ble_eq_true rfl, Nat.le_of_ble_eq_true rfl⟩) ⟨zc_blind, va_recv hK hP (ci := 4) (q0 := 10) rfl rfl, zc_pay (hP.sub (ws' := [(rh, .inr (4, [.ref ra, .int (nI rn)])), (ra, .inl (cI, rc, .inl g))]) [10, 11] rfl) hK⟩ rfl rfl hl.1 rfl (lv_room (Nat.le_of_ble_eq_true rfl)) dX5_takeField_15 ⟨Nat.le_of_ble_eq_true rfl, Nat.le_of_ble_eq_true rfl⟩) ?_
    refine lv_iload hx hb dX5_takeField_18 (lv_at hl 0 rfl) ?_
    refine lv_icmp_ge (tgt := 26) hx hb dX5_takeField_20 (by decide) (fun c20 => ?_) (fun c20 => ?_)
    · have hge := zn_le c20 (by omega) (by omega)
      have htw : zt_two g en pp := ⟨hle, by omega⟩
      refine lv_aload_n hx hb dX5_takeField_26 rfl (lv_at hl 2 rfl) ?_
      refine lv_iload_n hx hb dX5_takeField_27 rfl (lv_at hl 3 rfl) ?_
      refine lv_iload hx hb dX5_takeField_28 (lv_at hl 0 rfl) ?_
      refine zc_callR (va_runV (As := [.int (nI pp), .int (nI (pp + 2))]) (rest := []) ⟨hx, hb, hml, hown, hts⟩ (c_X3_numberAt l dC dI cI cZ cJ rh ra rc rn g pp (pp + 2) (by first | assumption | omega) (by first | assumption | omega) (by first | assumption | omega) (by first | assumption | omega)) (zc_V 2 hts ggX5_takeField_X3_numberAt rfl rfl rfl (by decide +kernel) (by decide +kernel) ⟨Nat.le_of_ble_eq_true rfl, Nat.le_of_ble_eq_true rfl⟩) ⟨zc_blind, va_recv hK hP (ci := 4) (q0 := 10) rfl rfl, zc_pay (hP.sub (ws' := [(rh, .inr (4, [.ref ra, .int (nI rn)])), (ra, .inl (cI, rc, .inl g))]) [10, 11] rfl) hK⟩ rfl rfl hl.1 rfl (lv_room (Nat.le_of_ble_eq_true rfl)) dX5_takeField_30 ⟨Nat.le_of_ble_eq_true rfl, Nat.le_of_ble_eq_true rfl⟩) ?_
      refine lv_l2i hx hb dX5_takeField_33 rfl ?_
      refine zc_ti (y := zt_x g pp) rfl ?_
      refine lv_istore (lv' := [(5, .int (zt_x g pp)), (4, .int (nI (pp + 2))), (0, .ref h), (1, .ref rh), (2, .int (nI pp)), (3, .int (nI en))]) hx hb dX5_takeField_34 hl (by decide) rfl (fun ls hl => ?_)
      refine lv_aload_n hx hb dX5_takeField_36 rfl (lv_at hl 2 rfl) ?_
      refine va_get (D := (dC, dI)) (ci := 6) (v := .ref ph) (C := RX5) (T := TX5) (N := 3) hx hb hts hinX5 hown hK hP 0 rfl rfl 0 (by decide) (hts (.fieldLink RX5 9 "ScanCodes$Taker" "prefixes" "LScanCodes$Prefixes;") (by decide +kernel)) (fun _ h9 => h9) rfl dX5_takeField_37 ?_
      refine lv_iload hx hb dX5_takeField_40 (lv_at hl 0 rfl) ?_
      refine zc_callR (va_runV (As := [.int (zt_x g pp)]) (rest := []) ⟨hx, hb, hml, hown, hts⟩ (c_X2_has l dC dI cI cZ cJ ph aL aF aS aN z L F S N (zt_x g pp)) (zc_V 1 hts ggX5_takeField_X2_has rfl rfl rfl (by decide +kernel) (by decide +kernel) ⟨Nat.le_of_ble_eq_true rfl, Nat.le_of_ble_eq_true rfl⟩) ⟨zc_blind, va_recv hK hP (ci := 3) (q0 := 1) rfl rfl, zc_pay (hP.sub (ws' := [(ph, .inr (3, [.ref aL, .ref aF, .ref aS, .ref aN, .int z])), (aL, .inl (cI, 100, .inl L)), (aF, .inl (cZ, 100, .inl F)), (aS, .inl (cI, 100, .inl S)), (aN, .inl (cI, 100, .inl N))]) [1, 2, 3, 4, 5] rfl) hK⟩ rfl rfl hl.1 rfl (lv_room (Nat.le_of_ble_eq_true rfl)) dX5_takeField_42 ⟨Nat.le_of_ble_eq_true rfl, Nat.le_of_ble_eq_true rfl⟩) ?_
      refine lv_if_ne (tgt := 57) hx hb dX5_takeField_45 (by decide) (fun c45 => ?_) (fun c45 => ?_)
      · have hh := zb_1 c45
        have hix := zt_kix hh
        have hnw : ¬ zt_new g en L pp := fun q => q.2 hh
        have hLk := hLT _ hix.2.1
        refine lv_aload_n hx hb dX5_takeField_57 rfl (lv_at hl 2 rfl) ?_
        refine va_get (D := (dC, dI)) (ci := 6) (v := .ref fh) (C := RX5) (T := TX5) (N := 3) hx hb hts hinX5 hown hK hP 0 rfl rfl 1 (by decide) (hts (.fieldLink RX5 18 "ScanCodes$Taker" "fields" "LScanCodes$Fields;") (by decide +kernel)) (fun _ h9 => h9) rfl dX5_takeField_58 ?_
        refine lv_iload hx hb dX5_takeField_61 (lv_at hl 0 rfl) ?_
        refine zc_callR (va_runV (As := [.int (zt_x g pp)]) (rest := []) ⟨hx, hb, hml, hown, hts⟩ (c_X1_has l dC dI cI cZ cJ fh ap ag av fc fp fg fv (zt_x g pp) (by first | assumption | omega)) (zc_V 1 hts ggX5_takeField_X1_has rfl rfl rfl (by decide +kernel) (by decide +kernel) ⟨Nat.le_of_ble_eq_true rfl, Nat.le_of_ble_eq_true rfl⟩) ⟨zc_blind, va_recv hK hP (ci := 2) (q0 := 6) rfl rfl, zc_pay (hP.sub (ws' := [(fh, .inr (2, [.ref ap, .ref ag, .ref av, .int (nI fc)])), (ap, .inl (cI, 6, .inl fp)), (ag, .inl (cI, 6, .inl fg)), (av, .inl (cJ, 6, .inr (.inl fv)))]) [6, 7, 8, 9] rfl) hK⟩ rfl rfl hl.1 rfl (lv_room (Nat.le_of_ble_eq_true rfl)) dX5_takeField_63 ⟨Nat.le_of_ble_eq_true rfl, Nat.le_of_ble_eq_true rfl⟩) ?_
        refine lv_if_eq (tgt := 72) hx hb dX5_takeField_66 (by decide) (fun c66 => ?_) (fun c66 => ?_)
        · have hnf := zb_0 c66
          refine lv_aload_n hx hb dX5_takeField_72 rfl (lv_at hl 2 rfl) ?_
          refine va_get (D := (dC, dI)) (ci := 6) (v := .ref ph) (C := RX5) (T := TX5) (N := 3) hx hb hts hinX5 hown hK hP 0 rfl rfl 0 (by decide) (hts (.fieldLink RX5 9 "ScanCodes$Taker" "prefixes" "LScanCodes$Prefixes;") (by decide +kernel)) (fun _ h9 => h9) rfl dX5_takeField_73 ?_
          refine lv_iload hx hb dX5_takeField_76 (lv_at hl 0 rfl) ?_
          refine zc_ti (y := nI (zt_k g pp)) (hix.1) ?_
          refine zc_callR (va_runV (As := [.int (nI (zt_k g pp))]) (rest := []) ⟨hx, hb, hml, hown, hts⟩ (c_X2_isFixed l dC dI cI cZ cJ ph aL aF aS aN z L F S N (zt_k g pp) hix.2.2.1 (by omega) hix.2.2.2) (zc_V 1 hts ggX5_takeField_X2_isFixed rfl rfl rfl (by decide +kernel) (by decide +kernel) ⟨Nat.le_of_ble_eq_true rfl, Nat.le_of_ble_eq_true rfl⟩) ⟨zc_blind, va_recv hK hP (ci := 3) (q0 := 1) rfl rfl, zc_pay (hP.sub (ws' := [(ph, .inr (3, [.ref aL, .ref aF, .ref aS, .ref aN, .int z])), (aL, .inl (cI, 100, .inl L)), (aF, .inl (cZ, 100, .inl F)), (aS, .inl (cI, 100, .inl S)), (aN, .inl (cI, 100, .inl N))]) [1, 2, 3, 4, 5] rfl) hK⟩ rfl rfl hl.1 rfl (lv_room (Nat.le_of_ble_eq_true rfl)) dX5_takeField_78 ⟨Nat.le_of_ble_eq_true rfl, Nat.le_of_ble_eq_true rfl⟩) ?_
          refine lv_if_eq (tgt := 97) hx hb dX5_takeField_81 (by decide) (fun c81 => ?_) (fun c81 => ?_)
          · have hf : F (zt_k g pp) = 0 := Classical.byContradiction (zb_0 c81)
            have hd : zt_d g en L F pp = zr_ns g (pp + 2) en - (pp + 2) := zi_t hf
            have hn3 := zr_ns_in g hle
            refine lv_aload_n hx hb dX5_takeField_97 rfl (lv_at hl 2 rfl) ?_
            refine lv_aload_n hx hb dX5_takeField_98 rfl (lv_at hl 3 rfl) ?_
            refine lv_iload hx hb dX5_takeField_99 (lv_at hl 0 rfl) ?_
            refine zc_ti (y := nI (zt_k g pp)) (hix.1) ?_
            refine lv_iload hx hb dX5_takeField_101 (lv_at hl 1 rfl) ?_
            refine lv_iload_n hx hb dX5_takeField_103 rfl (lv_at hl 5 rfl) ?_
            have hPc := hP.sub (ws' := [(h, .inr (6, [.ref ph, .ref fh, .int u])), (ph, .inr (3, [.ref aL, .ref aF, .ref aS, .ref aN, .int z])), (aL, .inl (cI, 100, .inl L)), (aF, .inl (cZ, 100, .inl F)), (aS, .inl (cI, 100, .inl S)), (aN, .inl (cI, 100, .inl N)), (fh, .inr (2, [.ref ap, .ref ag, .ref av, .int (nI fc)])), (ap, .inl (cI, 6, .inl fp)), (ag, .inl (cI, 6, .inl fg)), (av, .inl (cJ, 6, .inr (.inl fv))), (rh, .inr (4, [.ref ra, .int (nI rn)])), (ra, .inl (cI, rc, .inl g))]) [0, 1, 2, 3, 4, 5, 6, 7, 8, 9, 10, 11] rfl
            have hDc := hD.sub (ws' := [(h, .inr (6, [.ref ph, .ref fh, .int u])), (ph, .inr (3, [.ref aL, .ref aF, .ref aS, .ref aN, .int z])), (aL, .inl (cI, 100, .inl L)), (aF, .inl (cZ, 100, .inl F)), (aS, .inl (cI, 100, .inl S)), (aN, .inl (cI, 100, .inl N)), (fh, .inr (2, [.ref ap, .ref ag, .ref av, .int (nI fc)])), (ap, .inl (cI, 6, .inl fp)), (ag, .inl (cI, 6, .inl fg)), (av, .inl (cJ, 6, .inr (.inl fv))), (rh, .inr (4, [.ref ra, .int (nI rn)])), (ra, .inl (cI, rc, .inl g))]) [0, 1, 2, 3, 4, 5, 6, 7, 8, 9, 10, 11] (by decide) rfl
            have hFc := va_free (wc := [(h, .inr (6, [.ref ph, .ref fh, .int u])), (ph, .inr (3, [.ref aL, .ref aF, .ref aS, .ref aN, .int z])), (aL, .inl (cI, 100, .inl L)), (aF, .inl (cZ, 100, .inl F)), (aS, .inl (cI, 100, .inl S)), (aN, .inl (cI, 100, .inl N)), (fh, .inr (2, [.ref ap, .ref ag, .ref av, .int (nI fc)])), (ap, .inl (cI, 6, .inl fp)), (ag, .inl (cI, 6, .inl fg)), (av, .inl (cJ, 6, .inr (.inl fv))), (rh, .inr (4, [.ref ra, .int (nI rn)])), (ra, .inl (cI, rc, .inl g))]) hD hS hA [0, 1, 2, 3, 4, 5, 6, 7, 8, 9, 10, 11] rfl
            refine va_calli (va_runV (As := [.ref rh, .int (nI (zt_k g pp)), .int (nI (pp + 2)), .int (nI en)]) (rest := []) ⟨hx, hb, hml, hown, hts⟩ (c_X5_takeLoose l dC dI cI cZ cJ h u ph aL aF aS aN z L F S N fh ap ag av fc fp fg fv rh ra rc rn g (zt_k g pp) (pp + 2) en (zt_len L (zt_k g pp)) hix.2.2.1 (by omega) hix.2.2.2 hrn hrc hfc hle hen hLk.1 hLk.2 s.heap.size) (zc_V 4 hts ggX5_takeField_X5_takeLoose rfl rfl rfl (by decide +kernel) (by decide +kernel) ⟨Nat.le_of_ble_eq_true rfl, Nat.le_of_ble_eq_true rfl⟩) ⟨zc_blindW, va_recv hK hP (ci := 6) (q0 := 0) rfl rfl, zc_payW hPc hK hDc⟩ rfl rfl hl.1 rfl (lv_room (Nat.le_of_ble_eq_true rfl)) dX5_takeField_104 ⟨Nat.le_of_ble_eq_true rfl, Nat.le_of_ble_eq_true rfl⟩) hS (fun q _ h => hFc q h) hFc (fun r104 uu t H1 locs ht hvm hw hB hz1 hk1 hS => ?_)
            obtain ⟨hP1, hK1, hD1⟩ := hB
            rw [ht] at hP1
            try dsimp only at hw
            subst hw
            obtain ⟨hP, hD⟩ := va_join (wr := []) (w1 := [(h, .inr (6, [.ref ph, .ref fh, .int u])), (ph, .inr (3, [.ref aL, .ref aF, .ref aS, .ref aN, .int z])), (aL, .inl (cI, 100, .inl L)), (aF, .inl (cZ, 100, .inl F)), (aS, .inl (cI, 100, .inl S)), (aN, .inl (cI, 100, .inl N)), (fh, .inr (2, [.ref ap, .ref ag, .ref av, .int (nI (zi (zt_okL g en (zt_len L (zt_k g pp)) (pp + 2)) (fc + 1) fc))])), (ap, .inl (cI, 6, .inl (zi (zt_okL g en (zt_len L (zt_k g pp)) (pp + 2)) (upd fp fc (nI (zt_k g pp))) fp))), (ag, .inl (cI, 6, .inl (zi (zt_okL g en (zt_len L (zt_k g pp)) (pp + 2)) (upd fg fc (nI (zr_ns g (pp + 2) en - (pp + 2)))) fg))), (av, .inl (cJ, 6, .inr (.inl (zi (zt_okL g en (zt_len L (zt_k g pp)) (pp + 2)) (vp_updL fv fc (zr_num g (pp + 2) (zr_ns g (pp + 2) en) 0)) fv)))), (rh, .inr (4, [.ref ra, .int (nI rn)])), (ra, .inl (cI, rc, .inl g))]) hP hD [0, 1, 2, 3, 4, 5, 6, 7, 8, 9, 10, 11] [] rfl rfl (by decide) (by decide) hk1 hFc hP1 hD1
            generalize H1 = H at hP hS ⊢
            have hP := hP.sub (ws' := [(h, .inr (6, [.ref ph, .ref fh, .int u])), (ph, .inr (3, [.ref aL, .ref aF, .ref aS, .ref aN, .int z])), (aL, .inl (cI, 100, .inl L)), (aF, .inl (cZ, 100, .inl F)), (aS, .inl (cI, 100, .inl S)), (aN, .inl (cI, 100, .inl N)), (fh, .inr (2, [.ref ap, .ref ag, .ref av, .int (nI (zi (zt_okL g en (zt_len L (zt_k g pp)) (pp + 2)) (fc + 1) fc))])), (ap, .inl (cI, 6, .inl (zi (zt_okL g en (zt_len L (zt_k g pp)) (pp + 2)) (upd fp fc (nI (zt_k g pp))) fp))), (ag, .inl (cI, 6, .inl (zi (zt_okL g en (zt_len L (zt_k g pp)) (pp + 2)) (upd fg fc (nI (zr_ns g (pp + 2) en - (pp + 2)))) fg))), (av, .inl (cJ, 6, .inr (.inl (zi (zt_okL g en (zt_len L (zt_k g pp)) (pp + 2)) (vp_updL fv fc (zr_num g (pp + 2) (zr_ns g (pp + 2) en) 0)) fv)))), (rh, .inr (4, [.ref ra, .int (nI rn)])), (ra, .inl (cI, rc, .inl g))]) [0, 1, 2, 3, 4, 5, 6, 7, 8, 9, 10, 11] rfl
            have hD := hD.sub (ws' := [(h, .inr (6, [.ref ph, .ref fh, .int u])), (ph, .inr (3, [.ref aL, .ref aF, .ref aS, .ref aN, .int z])), (aL, .inl (cI, 100, .inl L)), (aF, .inl (cZ, 100, .inl F)), (aS, .inl (cI, 100, .inl S)), (aN, .inl (cI, 100, .inl N)), (fh, .inr (2, [.ref ap, .ref ag, .ref av, .int (nI (zi (zt_okL g en (zt_len L (zt_k g pp)) (pp + 2)) (fc + 1) fc))])), (ap, .inl (cI, 6, .inl (zi (zt_okL g en (zt_len L (zt_k g pp)) (pp + 2)) (upd fp fc (nI (zt_k g pp))) fp))), (ag, .inl (cI, 6, .inl (zi (zt_okL g en (zt_len L (zt_k g pp)) (pp + 2)) (upd fg fc (nI (zr_ns g (pp + 2) en - (pp + 2)))) fg))), (av, .inl (cJ, 6, .inr (.inl (zi (zt_okL g en (zt_len L (zt_k g pp)) (pp + 2)) (vp_updL fv fc (zr_num g (pp + 2) (zr_ns g (pp + 2) en) 0)) fv)))), (rh, .inr (4, [.ref ra, .int (nI rn)])), (ra, .inl (cI, rc, .inl g))]) [0, 1, 2, 3, 4, 5, 6, 7, 8, 9, 10, 11] (by decide) rfl
            have hiff : zt_ok g en L F fp fc pp = zt_okL g en (zt_len L (zt_k g pp)) (pp + 2) := propext ⟨fun q => q.2.2.2.elim (fun z => absurd hf z.1) (fun z => z.2), fun q => ⟨htw, hh, hnf, Or.inr ⟨hf, q⟩⟩⟩
            have hv : zt_v g en L F pp = zr_num g (pp + 2) (zr_ns g (pp + 2) en) 0 := by rw [zt_v, hd, show pp + 2 + (zr_ns g (pp + 2) en - (pp + 2)) = zr_ns g (pp + 2) en by omega]
            have hE : zt_err g en L F fp fc pp = zt_errL g en (zt_len L (zt_k g pp)) (pp + 2) := by unfold zt_err; rw [zi_t (P := zt_two g en pp ∧ zp_has L (zt_x g pp) ∧ ¬ zf_has fp fc (zt_x g pp)) ⟨htw, hh, hnf⟩, zi_t hf]
            have hN : zt_np g en L F pp = zt_npL g en (pp + 2) := zi_t hf
            have hP9 : va_P (dC, dI) vwCl [(h, .inr (6, [.ref ph, .ref fh, .int (zi (zt_new g en L pp) (zt_x g pp) u)])), (ph, .inr (3, [.ref aL, .ref aF, .ref aS, .ref aN, .int z])), (aL, .inl (cI, 100, .inl L)), (aF, .inl (cZ, 100, .inl F)), (aS, .inl (cI, 100, .inl S)), (aN, .inl (cI, 100, .inl N)), (fh, .inr (2, [.ref ap, .ref ag, .ref av, .int (nI (zi (zt_ok g en L F fp fc pp) (fc + 1) fc))])), (ap, .inl (cI, 6, .inl (zi (zt_ok g en L F fp fc pp) (upd fp fc (zt_x g pp)) fp))), (ag, .inl (cI, 6, .inl (zi (zt_ok g en L F fp fc pp) (upd fg fc (nI (zt_d g en L F pp))) fg))), (av, .inl (cJ, 6, .inr (.inl (zi (zt_ok g en L F fp fc pp) (vp_updL fv fc (zt_v g en L F pp)) fv)))), (rh, .inr (4, [.ref ra, .int (nI rn)])), (ra, .inl (cI, rc, .inl g))] H := by rw [hiff, zi_f hnw, hd, hv, hix.1]; exact hP
            have hD9 : va_D A [(h, .inr (6, [.ref ph, .ref fh, .int (zi (zt_new g en L pp) (zt_x g pp) u)])), (ph, .inr (3, [.ref aL, .ref aF, .ref aS, .ref aN, .int z])), (aL, .inl (cI, 100, .inl L)), (aF, .inl (cZ, 100, .inl F)), (aS, .inl (cI, 100, .inl S)), (aN, .inl (cI, 100, .inl N)), (fh, .inr (2, [.ref ap, .ref ag, .ref av, .int (nI (zi (zt_ok g en L F fp fc pp) (fc + 1) fc))])), (ap, .inl (cI, 6, .inl (zi (zt_ok g en L F fp fc pp) (upd fp fc (zt_x g pp)) fp))), (ag, .inl (cI, 6, .inl (zi (zt_ok g en L F fp fc pp) (upd fg fc (nI (zt_d g en L F pp))) fg))), (av, .inl (cJ, 6, .inr (.inl (zi (zt_ok g en L F fp fc pp) (vp_updL fv fc (zt_v g en L F pp)) fv)))), (rh, .inr (4, [.ref ra, .int (nI rn)])), (ra, .inl (cI, rc, .inl g))] := by rw [hiff, zi_f hnw, hd, hv, hix.1]; exact hD
            have hres : (zi (zt_okL g en (zt_len L (zt_k g pp)) (pp + 2)) (nI (zt_npL g en (pp + 2))) (zt_errL g en (zt_len L (zt_k g pp)) (pp + 2))) = zt_res g en L F fp fc pp := by rw [zt_res, hE, hN, hiff]
            exact W.iret (v := zi (zt_okL g en (zt_len L (zt_k g pp)) (pp + 2)) (nI (zt_npL g en (pp + 2))) (zt_errL g en (zt_len L (zt_k g pp)) (pp + 2))) hx hb hr (fun t ht hW => ⟨⟨_, (), rfl, hres, by rw [ht]; exact hP9, va_K.moved hW.alike hK, hD9⟩, hS.F ht⟩) hS.2.2 dX5_takeField_107
          · have hf : ¬ F (zt_k g pp) = 0 := zb_1 c81
            have hd : zt_d g en L F pp = zt_len L (zt_k g pp) := zi_f hf
            refine lv_aload_n hx hb dX5_takeField_84 rfl (lv_at hl 2 rfl) ?_
            refine lv_aload_n hx hb dX5_takeField_85 rfl (lv_at hl 3 rfl) ?_
            refine lv_iload hx hb dX5_takeField_86 (lv_at hl 0 rfl) ?_
            refine zc_ti (y := nI (zt_k g pp)) (hix.1) ?_
            refine lv_iload hx hb dX5_takeField_88 (lv_at hl 1 rfl) ?_
            refine lv_iload_n hx hb dX5_takeField_90 rfl (lv_at hl 5 rfl) ?_
            have hPc := hP.sub (ws' := [(h, .inr (6, [.ref ph, .ref fh, .int u])), (ph, .inr (3, [.ref aL, .ref aF, .ref aS, .ref aN, .int z])), (aL, .inl (cI, 100, .inl L)), (aF, .inl (cZ, 100, .inl F)), (aS, .inl (cI, 100, .inl S)), (aN, .inl (cI, 100, .inl N)), (fh, .inr (2, [.ref ap, .ref ag, .ref av, .int (nI fc)])), (ap, .inl (cI, 6, .inl fp)), (ag, .inl (cI, 6, .inl fg)), (av, .inl (cJ, 6, .inr (.inl fv))), (rh, .inr (4, [.ref ra, .int (nI rn)])), (ra, .inl (cI, rc, .inl g))]) [0, 1, 2, 3, 4, 5, 6, 7, 8, 9, 10, 11] rfl
            have hDc := hD.sub (ws' := [(h, .inr (6, [.ref ph, .ref fh, .int u])), (ph, .inr (3, [.ref aL, .ref aF, .ref aS, .ref aN, .int z])), (aL, .inl (cI, 100, .inl L)), (aF, .inl (cZ, 100, .inl F)), (aS, .inl (cI, 100, .inl S)), (aN, .inl (cI, 100, .inl N)), (fh, .inr (2, [.ref ap, .ref ag, .ref av, .int (nI fc)])), (ap, .inl (cI, 6, .inl fp)), (ag, .inl (cI, 6, .inl fg)), (av, .inl (cJ, 6, .inr (.inl fv))), (rh, .inr (4, [.ref ra, .int (nI rn)])), (ra, .inl (cI, rc, .inl g))]) [0, 1, 2, 3, 4, 5, 6, 7, 8, 9, 10, 11] (by decide) rfl
            have hFc := va_free (wc := [(h, .inr (6, [.ref ph, .ref fh, .int u])), (ph, .inr (3, [.ref aL, .ref aF, .ref aS, .ref aN, .int z])), (aL, .inl (cI, 100, .inl L)), (aF, .inl (cZ, 100, .inl F)), (aS, .inl (cI, 100, .inl S)), (aN, .inl (cI, 100, .inl N)), (fh, .inr (2, [.ref ap, .ref ag, .ref av, .int (nI fc)])), (ap, .inl (cI, 6, .inl fp)), (ag, .inl (cI, 6, .inl fg)), (av, .inl (cJ, 6, .inr (.inl fv))), (rh, .inr (4, [.ref ra, .int (nI rn)])), (ra, .inl (cI, rc, .inl g))]) hD hS hA [0, 1, 2, 3, 4, 5, 6, 7, 8, 9, 10, 11] rfl
            refine va_calli (va_runV (As := [.ref rh, .int (nI (zt_k g pp)), .int (nI (pp + 2)), .int (nI en)]) (rest := []) ⟨hx, hb, hml, hown, hts⟩ (c_X5_takeFixed l dC dI cI cZ cJ h u ph aL aF aS aN z L F S N fh ap ag av fc fp fg fv rh ra rc rn g (zt_k g pp) (pp + 2) en (zt_len L (zt_k g pp)) hix.2.2.1 (by omega) hix.2.2.2 hrn hrc hfc hle hen hLk.1 hLk.2 s.heap.size) (zc_V 4 hts ggX5_takeField_X5_takeFixed rfl rfl rfl (by decide +kernel) (by decide +kernel) ⟨Nat.le_of_ble_eq_true rfl, Nat.le_of_ble_eq_true rfl⟩) ⟨zc_blindW, va_recv hK hP (ci := 6) (q0 := 0) rfl rfl, zc_payW hPc hK hDc⟩ rfl rfl hl.1 rfl (lv_room (Nat.le_of_ble_eq_true rfl)) dX5_takeField_91 ⟨Nat.le_of_ble_eq_true rfl, Nat.le_of_ble_eq_true rfl⟩) hS (fun q _ h => hFc q h) hFc (fun r91 uu t H1 locs ht hvm hw hB hz1 hk1 hS => ?_)
            obtain ⟨hP1, hK1, hD1⟩ := hB
            rw [ht] at hP1
            try dsimp only at hw
            subst hw
            obtain ⟨hP, hD⟩ := va_join (wr := []) (w1 := [(h, .inr (6, [.ref ph, .ref fh, .int u])), (ph, .inr (3, [.ref aL, .ref aF, .ref aS, .ref aN, .int z])), (aL, .inl (cI, 100, .inl L)), (aF, .inl (cZ, 100, .inl F)), (aS, .inl (cI, 100, .inl S)), (aN, .inl (cI, 100, .inl N)), (fh, .inr (2, [.ref ap, .ref ag, .ref av, .int (nI (zi (zt_okF g en (zt_len L (zt_k g pp)) (pp + 2)) (fc + 1) fc))])), (ap, .inl (cI, 6, .inl (zi (zt_okF g en (zt_len L (zt_k g pp)) (pp + 2)) (upd fp fc (nI (zt_k g pp))) fp))), (ag, .inl (cI, 6, .inl (zi (zt_okF g en (zt_len L (zt_k g pp)) (pp + 2)) (upd fg fc (nI (zt_len L (zt_k g pp)))) fg))), (av, .inl (cJ, 6, .inr (.inl (zi (zt_okF g en (zt_len L (zt_k g pp)) (pp + 2)) (vp_updL fv fc (zr_num g (pp + 2) ((pp + 2) + (zt_len L (zt_k g pp))) 0)) fv)))), (rh, .inr (4, [.ref ra, .int (nI rn)])), (ra, .inl (cI, rc, .inl g))]) hP hD [0, 1, 2, 3, 4, 5, 6, 7, 8, 9, 10, 11] [] rfl rfl (by decide) (by decide) hk1 hFc hP1 hD1
            generalize H1 = H at hP hS ⊢
            have hP := hP.sub (ws' := [(h, .inr (6, [.ref ph, .ref fh, .int u])), (ph, .inr (3, [.ref aL, .ref aF, .ref aS, .ref aN, .int z])), (aL, .inl (cI, 100, .inl L)), (aF, .inl (cZ, 100, .inl F)), (aS, .inl (cI, 100, .inl S)), (aN, .inl (cI, 100, .inl N)), (fh, .inr (2, [.ref ap, .ref ag, .ref av, .int (nI (zi (zt_okF g en (zt_len L (zt_k g pp)) (pp + 2)) (fc + 1) fc))])), (ap, .inl (cI, 6, .inl (zi (zt_okF g en (zt_len L (zt_k g pp)) (pp + 2)) (upd fp fc (nI (zt_k g pp))) fp))), (ag, .inl (cI, 6, .inl (zi (zt_okF g en (zt_len L (zt_k g pp)) (pp + 2)) (upd fg fc (nI (zt_len L (zt_k g pp)))) fg))), (av, .inl (cJ, 6, .inr (.inl (zi (zt_okF g en (zt_len L (zt_k g pp)) (pp + 2)) (vp_updL fv fc (zr_num g (pp + 2) ((pp + 2) + (zt_len L (zt_k g pp))) 0)) fv)))), (rh, .inr (4, [.ref ra, .int (nI rn)])), (ra, .inl (cI, rc, .inl g))]) [0, 1, 2, 3, 4, 5, 6, 7, 8, 9, 10, 11] rfl
            have hD := hD.sub (ws' := [(h, .inr (6, [.ref ph, .ref fh, .int u])), (ph, .inr (3, [.ref aL, .ref aF, .ref aS, .ref aN, .int z])), (aL, .inl (cI, 100, .inl L)), (aF, .inl (cZ, 100, .inl F)), (aS, .inl (cI, 100, .inl S)), (aN, .inl (cI, 100, .inl N)), (fh, .inr (2, [.ref ap, .ref ag, .ref av, .int (nI (zi (zt_okF g en (zt_len L (zt_k g pp)) (pp + 2)) (fc + 1) fc))])), (ap, .inl (cI, 6, .inl (zi (zt_okF g en (zt_len L (zt_k g pp)) (pp + 2)) (upd fp fc (nI (zt_k g pp))) fp))), (ag, .inl (cI, 6, .inl (zi (zt_okF g en (zt_len L (zt_k g pp)) (pp + 2)) (upd fg fc (nI (zt_len L (zt_k g pp)))) fg))), (av, .inl (cJ, 6, .inr (.inl (zi (zt_okF g en (zt_len L (zt_k g pp)) (pp + 2)) (vp_updL fv fc (zr_num g (pp + 2) ((pp + 2) + (zt_len L (zt_k g pp))) 0)) fv)))), (rh, .inr (4, [.ref ra, .int (nI rn)])), (ra, .inl (cI, rc, .inl g))]) [0, 1, 2, 3, 4, 5, 6, 7, 8, 9, 10, 11] (by decide) rfl
            refine lv_goto (tgt := 107) hx hb dX5_takeField_94 (by decide) ?_
            have hiff : zt_ok g en L F fp fc pp = zt_okF g en (zt_len L (zt_k g pp)) (pp + 2) := propext ⟨fun q => q.2.2.2.elim (fun z => z.2) (fun z => absurd z.1 hf), fun q => ⟨htw, hh, hnf, Or.inl ⟨hf, q⟩⟩⟩
            have hv : zt_v g en L F pp = zr_num g (pp + 2) (pp + 2 + zt_len L (zt_k g pp)) 0 := by rw [zt_v, hd]
            have hE : zt_err g en L F fp fc pp = zt_errF en (zt_len L (zt_k g pp)) (pp + 2) := by unfold zt_err; rw [zi_t (P := zt_two g en pp ∧ zp_has L (zt_x g pp) ∧ ¬ zf_has fp fc (zt_x g pp)) ⟨htw, hh, hnf⟩, zi_f hf]
            have hN : zt_np g en L F pp = pp + 2 + zt_len L (zt_k g pp) := zi_f hf
            have hP9 : va_P (dC, dI) vwCl [(h, .inr (6, [.ref ph, .ref fh, .int (zi (zt_new g en L pp) (zt_x g pp) u)])), (ph, .inr (3, [.ref aL, .ref aF, .ref aS, .ref aN, .int z])), (aL, .inl (cI, 100, .inl L)), (aF, .inl (cZ, 100, .inl F)), (aS, .inl (cI, 100, .inl S)), (aN, .inl (cI, 100, .inl N)), (fh, .inr (2, [.ref ap, .ref ag, .ref av, .int (nI (zi (zt_ok g en L F fp fc pp) (fc + 1) fc))])), (ap, .inl (cI, 6, .inl (zi (zt_ok g en L F fp fc pp) (upd fp fc (zt_x g pp)) fp))), (ag, .inl (cI, 6, .inl (zi (zt_ok g en L F fp fc pp) (upd fg fc (nI (zt_d g en L F pp))) fg))), (av, .inl (cJ, 6, .inr (.inl (zi (zt_ok g en L F fp fc pp) (vp_updL fv fc (zt_v g en L F pp)) fv)))), (rh, .inr (4, [.ref ra, .int (nI rn)])), (ra, .inl (cI, rc, .inl g))] H := by rw [hiff, zi_f hnw, hd, hv, hix.1]; exact hP
            have hD9 : va_D A [(h, .inr (6, [.ref ph, .ref fh, .int (zi (zt_new g en L pp) (zt_x g pp) u)])), (ph, .inr (3, [.ref aL, .ref aF, .ref aS, .ref aN, .int z])), (aL, .inl (cI, 100, .inl L)), (aF, .inl (cZ, 100, .inl F)), (aS, .inl (cI, 100, .inl S)), (aN, .inl (cI, 100, .inl N)), (fh, .inr (2, [.ref ap, .ref ag, .ref av, .int (nI (zi (zt_ok g en L F fp fc pp) (fc + 1) fc))])), (ap, .inl (cI, 6, .inl (zi (zt_ok g en L F fp fc pp) (upd fp fc (zt_x g pp)) fp))), (ag, .inl (cI, 6, .inl (zi (zt_ok g en L F fp fc pp) (upd fg fc (nI (zt_d g en L F pp))) fg))), (av, .inl (cJ, 6, .inr (.inl (zi (zt_ok g en L F fp fc pp) (vp_updL fv fc (zt_v g en L F pp)) fv)))), (rh, .inr (4, [.ref ra, .int (nI rn)])), (ra, .inl (cI, rc, .inl g))] := by rw [hiff, zi_f hnw, hd, hv, hix.1]; exact hD
            have hres : (zi (zt_okF g en (zt_len L (zt_k g pp)) (pp + 2)) (nI ((pp + 2) + (zt_len L (zt_k g pp)))) (zt_errF en (zt_len L (zt_k g pp)) (pp + 2))) = zt_res g en L F fp fc pp := by rw [zt_res, hE, hN, hiff]
            exact W.iret (v := zi (zt_okF g en (zt_len L (zt_k g pp)) (pp + 2)) (nI ((pp + 2) + (zt_len L (zt_k g pp)))) (zt_errF en (zt_len L (zt_k g pp)) (pp + 2))) hx hb hr (fun t ht hW => ⟨⟨_, (), rfl, hres, by rw [ht]; exact hP9, va_K.moved hW.alike hK, hD9⟩, hS.F ht⟩) hS.2.2 dX5_takeField_107
        · have hyf := zb_1 c66
          have hok : ¬ zt_ok g en L F fp fc pp := fun q => q.2.2.1 hyf
          have hE : zt_err g en L F fp fc pp = -4 := zi_f (fun q => q.2.2 hyf)
          refine lv_bipush (v := (-4)) hx hb dX5_takeField_69 (by decide) ?_
          have hP9 : va_P (dC, dI) vwCl [(h, .inr (6, [.ref ph, .ref fh, .int (zi (zt_new g en L pp) (zt_x g pp) u)])), (ph, .inr (3, [.ref aL, .ref aF, .ref aS, .ref aN, .int z])), (aL, .inl (cI, 100, .inl L)), (aF, .inl (cZ, 100, .inl F)), (aS, .inl (cI, 100, .inl S)), (aN, .inl (cI, 100, .inl N)), (fh, .inr (2, [.ref ap, .ref ag, .ref av, .int (nI (zi (zt_ok g en L F fp fc pp) (fc + 1) fc))])), (ap, .inl (cI, 6, .inl (zi (zt_ok g en L F fp fc pp) (upd fp fc (zt_x g pp)) fp))), (ag, .inl (cI, 6, .inl (zi (zt_ok g en L F fp fc pp) (upd fg fc (nI (zt_d g en L F pp))) fg))), (av, .inl (cJ, 6, .inr (.inl (zi (zt_ok g en L F fp fc pp) (vp_updL fv fc (zt_v g en L F pp)) fv)))), (rh, .inr (4, [.ref ra, .int (nI rn)])), (ra, .inl (cI, rc, .inl g))] s.heap := by simp only [zi_f hok, zi_f hnw]; exact hP
          have hD9 : va_D A [(h, .inr (6, [.ref ph, .ref fh, .int (zi (zt_new g en L pp) (zt_x g pp) u)])), (ph, .inr (3, [.ref aL, .ref aF, .ref aS, .ref aN, .int z])), (aL, .inl (cI, 100, .inl L)), (aF, .inl (cZ, 100, .inl F)), (aS, .inl (cI, 100, .inl S)), (aN, .inl (cI, 100, .inl N)), (fh, .inr (2, [.ref ap, .ref ag, .ref av, .int (nI (zi (zt_ok g en L F fp fc pp) (fc + 1) fc))])), (ap, .inl (cI, 6, .inl (zi (zt_ok g en L F fp fc pp) (upd fp fc (zt_x g pp)) fp))), (ag, .inl (cI, 6, .inl (zi (zt_ok g en L F fp fc pp) (upd fg fc (nI (zt_d g en L F pp))) fg))), (av, .inl (cJ, 6, .inr (.inl (zi (zt_ok g en L F fp fc pp) (vp_updL fv fc (zt_v g en L F pp)) fv)))), (rh, .inr (4, [.ref ra, .int (nI rn)])), (ra, .inl (cI, rc, .inl g))] := by simp only [zi_f hok, zi_f hnw]; exact hD
          have hres : ((-4) : Int32) = zt_res g en L F fp fc pp := by rw [zt_res, zi_f hok, hE]
          exact W.iret (v := (-4)) hx hb hr (fun t ht hW => ⟨⟨_, (), rfl, hres, by rw [ht]; exact hP9, va_K.moved hW.alike hK, hD9⟩, hS.F ht⟩) hS.2.2 dX5_takeField_71
      · have hh := zb_0 c45
        have hnw : zt_new g en L pp := ⟨htw, hh⟩
        have hok : ¬ zt_ok g en L F fp fc pp := fun q => hh q.2.1
        have hE : zt_err g en L F fp fc pp = -4 := zi_f (fun q => hh q.2.1)
        refine lv_aload_n hx hb dX5_takeField_48 rfl (lv_at hl 2 rfl) ?_
        refine lv_iload hx hb dX5_takeField_49 (lv_at hl 0 rfl) ?_
        refine va_put (D := (dC, dI)) (ci := 6) (v := .int (zt_x g pp)) (ty := .int) (C := RX5) (T := TX5) (N := 3) hx hb hts hinX5 tyX5 tyX5_ok nmX5 hown hK hP hD hS 0 rfl rfl 2 (by decide) (hts (.fieldLink RX5 22 "ScanCodes$Taker" "unknown" "I") (by decide +kernel)) (fun _ h9 => h9) rfl (by decide +kernel) rfl rfl (Nat.le_of_ble_eq_true rfl) dX5_takeField_51 (fun H locs hP hD hS => ?_)
        have hP : va_P (dC, dI) vwCl [(h, .inr (6, [.ref ph, .ref fh, .int (zt_x g pp)])), (ph, .inr (3, [.ref aL, .ref aF, .ref aS, .ref aN, .int z])), (aL, .inl (cI, 100, .inl L)), (aF, .inl (cZ, 100, .inl F)), (aS, .inl (cI, 100, .inl S)), (aN, .inl (cI, 100, .inl N)), (fh, .inr (2, [.ref ap, .ref ag, .ref av, .int (nI fc)])), (ap, .inl (cI, 6, .inl fp)), (ag, .inl (cI, 6, .inl fg)), (av, .inl (cJ, 6, .inr (.inl fv))), (rh, .inr (4, [.ref ra, .int (nI rn)])), (ra, .inl (cI, rc, .inl g))] H := hP
        have hD : va_D A [(h, .inr (6, [.ref ph, .ref fh, .int (zt_x g pp)])), (ph, .inr (3, [.ref aL, .ref aF, .ref aS, .ref aN, .int z])), (aL, .inl (cI, 100, .inl L)), (aF, .inl (cZ, 100, .inl F)), (aS, .inl (cI, 100, .inl S)), (aN, .inl (cI, 100, .inl N)), (fh, .inr (2, [.ref ap, .ref ag, .ref av, .int (nI fc)])), (ap, .inl (cI, 6, .inl fp)), (ag, .inl (cI, 6, .inl fg)), (av, .inl (cJ, 6, .inr (.inl fv))), (rh, .inr (4, [.ref ra, .int (nI rn)])), (ra, .inl (cI, rc, .inl g))] := hD
        refine lv_bipush (v := (-4)) hx hb dX5_takeField_54 (by decide) ?_
        have hP9 : va_P (dC, dI) vwCl [(h, .inr (6, [.ref ph, .ref fh, .int (zi (zt_new g en L pp) (zt_x g pp) u)])), (ph, .inr (3, [.ref aL, .ref aF, .ref aS, .ref aN, .int z])), (aL, .inl (cI, 100, .inl L)), (aF, .inl (cZ, 100, .inl F)), (aS, .inl (cI, 100, .inl S)), (aN, .inl (cI, 100, .inl N)), (fh, .inr (2, [.ref ap, .ref ag, .ref av, .int (nI (zi (zt_ok g en L F fp fc pp) (fc + 1) fc))])), (ap, .inl (cI, 6, .inl (zi (zt_ok g en L F fp fc pp) (upd fp fc (zt_x g pp)) fp))), (ag, .inl (cI, 6, .inl (zi (zt_ok g en L F fp fc pp) (upd fg fc (nI (zt_d g en L F pp))) fg))), (av, .inl (cJ, 6, .inr (.inl (zi (zt_ok g en L F fp fc pp) (vp_updL fv fc (zt_v g en L F pp)) fv)))), (rh, .inr (4, [.ref ra, .int (nI rn)])), (ra, .inl (cI, rc, .inl g))] H := by simp only [zi_f hok, zi_t hnw]; exact hP
        have hD9 : va_D A [(h, .inr (6, [.ref ph, .ref fh, .int (zi (zt_new g en L pp) (zt_x g pp) u)])), (ph, .inr (3, [.ref aL, .ref aF, .ref aS, .ref aN, .int z])), (aL, .inl (cI, 100, .inl L)), (aF, .inl (cZ, 100, .inl F)), (aS, .inl (cI, 100, .inl S)), (aN, .inl (cI, 100, .inl N)), (fh, .inr (2, [.ref ap, .ref ag, .ref av, .int (nI (zi (zt_ok g en L F fp fc pp) (fc + 1) fc))])), (ap, .inl (cI, 6, .inl (zi (zt_ok g en L F fp fc pp) (upd fp fc (zt_x g pp)) fp))), (ag, .inl (cI, 6, .inl (zi (zt_ok g en L F fp fc pp) (upd fg fc (nI (zt_d g en L F pp))) fg))), (av, .inl (cJ, 6, .inr (.inl (zi (zt_ok g en L F fp fc pp) (vp_updL fv fc (zt_v g en L F pp)) fv)))), (rh, .inr (4, [.ref ra, .int (nI rn)])), (ra, .inl (cI, rc, .inl g))] := by simp only [zi_f hok, zi_t hnw]; exact hD
        have hres : ((-4) : Int32) = zt_res g en L F fp fc pp := by rw [zt_res, zi_f hok, hE]
        exact W.iret (v := (-4)) hx hb hr (fun t ht hW => ⟨⟨_, (), rfl, hres, by rw [ht]; exact hP9, va_K.moved hW.alike hK, hD9⟩, hS.F ht⟩) hS.2.2 dX5_takeField_56
    · have hlt := zn_nle c20 (by omega) (by omega)
      have hno : ¬ zt_two g en pp := fun q => q.2 hlt
      have hok : ¬ zt_ok g en L F fp fc pp := fun q => hno q.1
      have hnw : ¬ zt_new g en L pp := fun q => hno q.1
      have hE : zt_err g en L F fp fc pp = -4 := zi_f (fun q => hno q.1)
      refine lv_bipush (v := (-4)) hx hb dX5_takeField_23 (by decide) ?_
      have hP9 : va_P (dC, dI) vwCl [(h, .inr (6, [.ref ph, .ref fh, .int (zi (zt_new g en L pp) (zt_x g pp) u)])), (ph, .inr (3, [.ref aL, .ref aF, .ref aS, .ref aN, .int z])), (aL, .inl (cI, 100, .inl L)), (aF, .inl (cZ, 100, .inl F)), (aS, .inl (cI, 100, .inl S)), (aN, .inl (cI, 100, .inl N)), (fh, .inr (2, [.ref ap, .ref ag, .ref av, .int (nI (zi (zt_ok g en L F fp fc pp) (fc + 1) fc))])), (ap, .inl (cI, 6, .inl (zi (zt_ok g en L F fp fc pp) (upd fp fc (zt_x g pp)) fp))), (ag, .inl (cI, 6, .inl (zi (zt_ok g en L F fp fc pp) (upd fg fc (nI (zt_d g en L F pp))) fg))), (av, .inl (cJ, 6, .inr (.inl (zi (zt_ok g en L F fp fc pp) (vp_updL fv fc (zt_v g en L F pp)) fv)))), (rh, .inr (4, [.ref ra, .int (nI rn)])), (ra, .inl (cI, rc, .inl g))] s.heap := by simp only [zi_f hok, zi_f hnw]; exact hP
      have hD9 : va_D A [(h, .inr (6, [.ref ph, .ref fh, .int (zi (zt_new g en L pp) (zt_x g pp) u)])), (ph, .inr (3, [.ref aL, .ref aF, .ref aS, .ref aN, .int z])), (aL, .inl (cI, 100, .inl L)), (aF, .inl (cZ, 100, .inl F)), (aS, .inl (cI, 100, .inl S)), (aN, .inl (cI, 100, .inl N)), (fh, .inr (2, [.ref ap, .ref ag, .ref av, .int (nI (zi (zt_ok g en L F fp fc pp) (fc + 1) fc))])), (ap, .inl (cI, 6, .inl (zi (zt_ok g en L F fp fc pp) (upd fp fc (zt_x g pp)) fp))), (ag, .inl (cI, 6, .inl (zi (zt_ok g en L F fp fc pp) (upd fg fc (nI (zt_d g en L F pp))) fg))), (av, .inl (cJ, 6, .inr (.inl (zi (zt_ok g en L F fp fc pp) (vp_updL fv fc (zt_v g en L F pp)) fv)))), (rh, .inr (4, [.ref ra, .int (nI rn)])), (ra, .inl (cI, rc, .inl g))] := by simp only [zi_f hok, zi_f hnw]; exact hD
      have hres : ((-4) : Int32) = zt_res g en L F fp fc pp := by rw [zt_res, zi_f hok, hE]
      exact W.iret (v := (-4)) hx hb hr (fun t ht hW => ⟨⟨_, (), rfl, hres, by rw [ht]; exact hP9, va_K.moved hW.alike hK, hD9⟩, hS.F ht⟩) hS.2.2 dX5_takeField_25
