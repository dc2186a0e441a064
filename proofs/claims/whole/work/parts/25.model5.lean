/-! The reference: taking apart, held against the class's words. -/
theorem zs_10 {g : Nat → Int32} {n j : Nat} (h : zsgn g n) (hj : j < n) : g j < 10 ↔ ¬ g j = 10 := by
  obtain ⟨v, hv, e⟩ := h j hj
  rw [e]
  constructor
  · intro q z; rw [z] at q; exact absurd q (by decide)
  · intro q
    refine nI_lt (b := 10) ?_ (by decide)
    rcases Nat.lt_or_ge v 10 with z | z
    · exact z
    · exact absurd (show nI v = 10 from by rw [show v = 10 by omega]; rfl) q
theorem zr_ns2 (g : Nat → Int32) (p : Nat) : ¬ zr_ns g p (p + 2) < p + 2 ↔ ¬ g p = 10 ∧ ¬ g (p + 1) = 10 := by
  rw [zr_ns_step (by omega)]
  by_cases h1 : g p = 10
  · rw [if_pos h1]; simp [h1]
  · rw [if_neg h1, zr_ns_step (by omega)]
    by_cases h2 : g (p + 1) = 10
    · rw [if_pos h2]; simp [h2]
    · rw [if_neg h2, zr_ns_end]; simp [h1, h2]
theorem zt_two_iff {g : Nat → Int32} {n e p : Nat} (h : zsgn g n) (he : e ≤ n) : zt_two g e p ↔ (p + 1 < e ∧ g p < 10 ∧ g (p + 1) < 10) := by
  unfold zt_two
  rw [zr_ns2]
  constructor
  · rintro ⟨h1, h2, h3⟩; exact ⟨by omega, (zs_10 h (by omega)).mpr h2, (zs_10 h (by omega)).mpr h3⟩
  · rintro ⟨h1, h2, h3⟩; exact ⟨by omega, (zs_10 h (by omega)).mp h2, (zs_10 h (by omega)).mp h3⟩
theorem zt_x_eq {g : Nat → Int32} {n p : Nat} (h : zsgn g n) (hp : p + 1 < n) : zt_x g p = 10 * g p + g (p + 1) := by
  obtain ⟨a, ha, ea⟩ := h p (by omega)
  obtain ⟨b, hb, eb⟩ := h (p + 1) hp
  unfold zt_x
  rw [zr_num_step (by omega), zr_num_step (by omega), zr_num_end, ea, eb, nI_l (by omega), nI_l (by omega), show (10 : Int64) = lN 10 from rfl, show (0 : Int64) = lN 0 from rfl, lN_mul, lN_add, lN_mul, lN_add, lN_i, show (10 : Int32) = nI 10 from rfl, pk_mul, nI_add]
  congr 1; omega
theorem zp_has_m1 (L : Nat → Int32) : ¬ zp_has L (-1) := fun q => q.1 (by decide)
theorem zr_ns_none {g : Nat → Int32} {j e : Nat} (hj : j ≤ e) (h : ∀ i, j ≤ i → i < e → ¬ g i = 10) : zr_ns g j e = e := by
  have key : ∀ k j, e = j + k → (∀ i, j ≤ i → i < e → ¬ g i = 10) → zr_ns g j e = e := by
    intro k
    induction k with
    | zero => intro j hj _; rw [hj, Nat.add_zero, zr_ns_end]
    | succ k ih => intro j hj h; rw [zr_ns_step (by omega), if_neg (h j (Nat.le_refl _) (by omega))]; exact ih (j + 1) (by omega) (fun i h1 h2 => h i (by omega) h2)
  exact key (e - j) j (by omega) h
theorem zr_ns_some {g : Nat → Int32} {j e i : Nat} (h1 : j ≤ i) (h2 : i < e) (h : g i = 10) : zr_ns g j e ≤ i := by
  have key : ∀ k j, i = j + k → zr_ns g j e ≤ i := by
    intro k
    induction k with
    | zero => intro j hj; rw [zr_ns_step (by omega), if_pos (by rw [show j = i by omega]; exact h)]; omega
    | succ k ih =>
      intro j hj
      rw [zr_ns_step (by omega)]
      by_cases q : g j = 10
      · rw [if_pos q]; omega
      · rw [if_neg q]; exact ih (j + 1) (by omega)
  exact key (i - j) j (by omega)
theorem zr_ns_before {g : Nat → Int32} {j e i : Nat} (h1 : j ≤ i) (h2 : i < zr_ns g j e) (he : j ≤ e) : ¬ g i = 10 := fun q => by
  have hb := zr_ns_in g he
  have := zr_ns_some (e := e) h1 (by omega) q
  omega
theorem zq0 {α : Type} {a b : α} : zi ((0 : Int32) ≤ 0) a b = a := zi_t (by decide)
theorem zq1 {α : Type} {a b : α} : zi ((0 : Int32) ≤ -1) a b = b := zi_f (by decide)
theorem zq2 {α : Type} {a b : α} : zi ((0 : Int32) ≤ -2) a b = b := zi_f (by decide)
theorem zq3 {α : Type} {a b : α} : zi ((0 : Int32) ≤ -3) a b = b := zi_f (by decide)
theorem zq4 {α : Type} {a b : α} : zi ((0 : Int32) ≤ -4) a b = b := zi_f (by decide)
theorem zq5 {α : Type} {a b : α} : zi ((0 : Int32) ≤ -5) a b = b := zi_f (by decide)
theorem zq6 {α : Type} {a b : α} : zi ((0 : Int32) ≤ -6) a b = b := zi_f (by decide)
theorem zq7 {α : Type} {a b : α} : zi ((0 : Int32) ≤ -7) a b = b := zi_f (by decide)
theorem zt_needs_s {N fp : Nat → Int32} {fc : Nat} : zt_needs N fp fc ↔ ∀ j, j < fc → (N (fp j).toNatClampNeg = 0 ∨ zf_has fp fc (N (fp j).toNatClampNeg)) := Iff.rfl

set_option maxHeartbeats 4000000 in
set_option maxRecDepth 100000 in
theorem c_X7_takeApart (l : Launch) (dC : Nat → ClassId) (dI : Nat → Nat → Nat) (cI cZ cJ : ClassId) (h : Nat) (thr : Int32) (fm : Nat) (bL : Nat) (bF : Nat) (bS : Nat) (bN : Nat) (wc : Nat) (bwp : Nat) (bwg : Nat) (bwv : Nat) (mn : Nat) (bmo : Nat) (rn : Nat) (brd : Nat) (tn : Nat) (bty : Nat) (mm : Int32) (sgn : Nat) (bsg : Nat) (fc : Nat) (bpf : Nat) (bpg : Nat) (bpv : Nat) (u : Int32) (lb : Nat) (blF : Nat) (blP : Nat) (blD : Nat) (blN : Nat) (bwn : Nat) (lat : Int32) (bla : Nat) (L : Nat → Int32) (F : Nat → Int32) (N : Nat → Int32) (sg : Nat → Int32) (pf : Nat → Int32) (pg : Nat → Int32) (pv : Nat → Int64) (hsc : sgn ≤ 105) (hsg : zsgn sg sgn) (hLT : zt_LT L) (sz : Nat) : Met l yX7_takeApart wsX7_takeApart ({ frames := 1, cells := 0, slots := 0, locals := 23 }) (zc_PW [.ref h] (dC, dI) (zc_T cI cZ cJ) [(h, .inr (8, [.int thr, .int (nI fm), .ref bL, .ref bF, .ref bS, .ref bN, .int (nI wc), .ref bwp, .ref bwg, .ref bwv, .int (nI mn), .ref bmo, .int (nI rn), .ref brd, .int (nI tn), .ref bty, .int mm, .int (nI sgn), .ref bsg, .int (nI fc), .ref bpf, .ref bpg, .ref bpv, .int u, .int (nI lb), .ref blF, .ref blP, .ref blD, .ref blN, .ref bwn, .int lat, .ref bla])), (bL, .inl (cI, 100, .inl L)), (bF, .inl (cZ, 100, .inl F)), (bN, .inl (cI, 100, .inl N)), (bsg, .inl (cI, 120, .inl sg)), (bpf, .inl (cI, 7, .inl pf)), (bpg, .inl (cI, 7, .inl pg)), (bpv, .inl (cJ, 7, .inr (.inl pv)))] sz) (va_Qi (fun (r : Int32) (w9 : (Nat → Int32) × (Nat → Int32) × (Nat → Int64)) => r = zi (0 ≤ (zt_fw sg sgn L F N pf pg pv).1) (nI (zt_fw sg sgn L F N pf pg pv).2.1) (zt_fw sg sgn L F N pf pg pv).1 ∧ (0 ≤ (zt_fw sg sgn L F N pf pg pv).1 → w9.1 = (zt_fw sg sgn L F N pf pg pv).2.2.1 ∧ w9.2.1 = (zt_fw sg sgn L F N pf pg pv).2.2.2.1 ∧ w9.2.2 = (zt_fw sg sgn L F N pf pg pv).2.2.2.2.1)) (fun w9 t => zc_B (dC, dI) (zc_T cI cZ cJ) (va_A [(h, .inr (8, [.int thr, .int (nI fm), .ref bL, .ref bF, .ref bS, .ref bN, .int (nI wc), .ref bwp, .ref bwg, .ref bwv, .int (nI mn), .ref bmo, .int (nI rn), .ref brd, .int (nI tn), .ref bty, .int mm, .int (nI sgn), .ref bsg, .int (nI fc), .ref bpf, .ref bpg, .ref bpv, .int u, .int (nI lb), .ref blF, .ref blP, .ref blD, .ref blN, .ref bwn, .int lat, .ref bla])), (bL, .inl (cI, 100, .inl L)), (bF, .inl (cZ, 100, .inl F)), (bN, .inl (cI, 100, .inl N)), (bsg, .inl (cI, 120, .inl sg)), (bpf, .inl (cI, 7, .inl pf)), (bpg, .inl (cI, 7, .inl pg)), (bpv, .inl (cJ, 7, .inr (.inl pv)))] sz) [(h, .inr (8, [.int thr, .int (nI fm), .ref bL, .ref bF, .ref bS, .ref bN, .int (nI wc), .ref bwp, .ref bwg, .ref bwv, .int (nI mn), .ref bmo, .int (nI rn), .ref brd, .int (nI tn), .ref bty, .int mm, .int (nI sgn), .ref bsg, .int (nI (zi (0 ≤ (zt_fw sg sgn L F N pf pg pv).1) (zt_fw sg sgn L F N pf pg pv).2.1 0)), .ref bpf, .ref bpg, .ref bpv, .int ((zt_fw sg sgn L F N pf pg pv).2.2.2.2.2), .int (nI lb), .ref blF, .ref blP, .ref blD, .ref blN, .ref bwn, .int lat, .ref bla])), (bL, .inl (cI, 100, .inl L)), (bF, .inl (cZ, 100, .inl F)), (bN, .inl (cI, 100, .inl N)), (bsg, .inl (cI, 120, .inl sg)), (bpf, .inl (cI, 7, .inl w9.1)), (bpg, .inl (cI, 7, .inl w9.2.1)), (bpv, .inl (cJ, 7, .inr (.inl w9.2.2)))] t) (va_A [(h, .inr (8, [.int thr, .int (nI fm), .ref bL, .ref bF, .ref bS, .ref bN, .int (nI wc), .ref bwp, .ref bwg, .ref bwv, .int (nI mn), .ref bmo, .int (nI rn), .ref brd, .int (nI tn), .ref bty, .int mm, .int (nI sgn), .ref bsg, .int (nI fc), .ref bpf, .ref bpg, .ref bpv, .int u, .int (nI lb), .ref blF, .ref blP, .ref blD, .ref blN, .ref bwn, .int lat, .ref bla])), (bL, .inl (cI, 100, .inl L)), (bF, .inl (cZ, 100, .inl F)), (bN, .inl (cI, 100, .inl N)), (bsg, .inl (cI, 120, .inl sg)), (bpf, .inl (cI, 7, .inl pf)), (bpg, .inl (cI, 7, .inl pg)), (bpv, .inl (cJ, 7, .inr (.inl pv)))] sz)) 0 0 (va_A [(h, .inr (8, [.int thr, .int (nI fm), .ref bL, .ref bF, .ref bS, .ref bN, .int (nI wc), .ref bwp, .ref bwg, .ref bwv, .int (nI mn), .ref bmo, .int (nI rn), .ref brd, .int (nI tn), .ref bty, .int mm, .int (nI sgn), .ref bsg, .int (nI fc), .ref bpf, .ref bpg, .ref bpv, .int u, .int (nI lb), .ref blF, .ref blP, .ref blD, .ref blN, .ref bwn, .int lat, .ref bla])), (bL, .inl (cI, 100, .inl L)), (bF, .inl (cZ, 100, .inl F)), (bN, .inl (cI, 100, .inl N)), (bsg, .inl (cI, 120, .inl sg)), (bpf, .inl (cI, 7, .inl pf)), (bpg, .inl (cI, 7, .inl pg)), (bpv, .inl (cJ, 7, .inr (.inl pv)))] sz) := by
  refine Met.ofW (cc := cX7_takeApart) (maxL := 10) (ret := (some .int)) (by decide) rfl ?_
  intro p e s m args below meth c s₁ B hml hv
  obtain ⟨rfl, hsz, hP, hK, hD0⟩ := hv
  have hx := B.exec
  have hb := B.bytes
  have hr := B.returns
  have hts := atoms_spec (ws := wsX7_takeApart) B.pre
  have hown : s.vm.findClass RX7 = some m.cls := findClass_of_methodNamed B.named
  have hlocks := B.notSynchronized
  subst hsz
  have hD := hD0.self (sz := s.heap.size)
  generalize hAe : va_A [(h, .inr (8, [.int thr, .int (nI fm), .ref bL, .ref bF, .ref bS, .ref bN, .int (nI wc), .ref bwp, .ref bwg, .ref bwv, .int (nI mn), .ref bmo, .int (nI rn), .ref brd, .int (nI tn), .ref bty, .int mm, .int (nI sgn), .ref bsg, .int (nI fc), .ref bpf, .ref bpg, .ref bpv, .int u, .int (nI lb), .ref blF, .ref blP, .ref blD, .ref blN, .ref bwn, .int lat, .ref bla])), (bL, .inl (cI, 100, .inl L)), (bF, .inl (cZ, 100, .inl F)), (bN, .inl (cI, 100, .inl N)), (bsg, .inl (cI, 120, .inl sg)), (bpf, .inl (cI, 7, .inl pf)), (bpg, .inl (cI, 7, .inl pg)), (bpv, .inl (cJ, 7, .inr (.inl pv)))] s.heap.size = A at hD ⊢
  have hA : ∀ q : Nat, s.heap.size ≤ q → A q := fun q h => by rw [← hAe]; exact Or.inr h
  have hS : va_S A s.heap s.heap [] := va_S.rf
  have hinX7 : ∀ w ∈ wsX70, w ∈ wsX7_takeApart := by decide +kernel
  have hl := lv_entry ([.ref h]) (n := 10) (Nat.le_of_ble_eq_true rfl)
  rw [lg_entry_eq]
  generalize (lg_sl ([.ref h]) ++ List.replicate (10 - (lg_sl ([.ref h])).length) Slot.unset).toArray = ls at hl ⊢
  have hl : lv_has ls 10 [(0, .ref h)] := hl
  refine lv_aload_n hx hb dX7_takeApart_0 rfl (lv_at hl 0 rfl) ?_
  have hPc := hP.sub (ws' := [(h, .inr (8, [.int thr, .int (nI fm), .ref bL, .ref bF, .ref bS, .ref bN, .int (nI wc), .ref bwp, .ref bwg, .ref bwv, .int (nI mn), .ref bmo, .int (nI rn), .ref brd, .int (nI tn), .ref bty, .int mm, .int (nI sgn), .ref bsg, .int (nI fc), .ref bpf, .ref bpg, .ref bpv, .int u, .int (nI lb), .ref blF, .ref blP, .ref blD, .ref blN, .ref bwn, .int lat, .ref bla]))]) [0] rfl
  have hDc := hD.sub (ws' := [(h, .inr (8, [.int thr, .int (nI fm), .ref bL, .ref bF, .ref bS, .ref bN, .int (nI wc), .ref bwp, .ref bwg, .ref bwv, .int (nI mn), .ref bmo, .int (nI rn), .ref brd, .int (nI tn), .ref bty, .int mm, .int (nI sgn), .ref bsg, .int (nI fc), .ref bpf, .ref bpg, .ref bpv, .int u, .int (nI lb), .ref blF, .ref blP, .ref blD, .ref blN, .ref bwn, .int lat, .ref bla]))]) [0] (by decide) rfl
  have hFc := va_free (wc := [(h, .inr (8, [.int thr, .int (nI fm), .ref bL, .ref bF, .ref bS, .ref bN, .int (nI wc), .ref bwp, .ref bwg, .ref bwv, .int (nI mn), .ref bmo, .int (nI rn), .ref brd, .int (nI tn), .ref bty, .int mm, .int (nI sgn), .ref bsg, .int (nI fc), .ref bpf, .ref bpg, .ref bpv, .int u, .int (nI lb), .ref blF, .ref blP, .ref blD, .ref blN, .ref bwn, .int lat, .ref bla]))]) hD hS hA [0] rfl
  refine va_callv (va_runV (As := []) (rest := []) ⟨hx, hb, hml, hown, hts⟩ (c_X7_forget l dC dI cI cZ cJ h thr fm bL bF bS bN wc bwp bwg bwv mn bmo rn brd tn bty mm sgn bsg fc bpf bpg bpv u lb blF blP blD blN bwn lat bla s.heap.size) (zc_V 0 hts ggX7_takeApart_X7_forget rfl rfl rfl (by decide +kernel) (by decide +kernel) ⟨Nat.le_of_ble_eq_true rfl, Nat.le_of_ble_eq_true rfl⟩) ⟨zc_blindW, va_recv hK hP (ci := 8) (q0 := 0) rfl rfl, zc_payW hPc hK hDc⟩ rfl rfl hl.1 rfl (lv_room (Nat.le_of_ble_eq_true rfl)) dX7_takeApart_1 ⟨Nat.le_of_ble_eq_true rfl, Nat.le_of_ble_eq_true rfl⟩) hS (fun q _ h => hFc q h) hFc (fun uu t H1 locs ht hvm hw hB hz1 hk1 hS => ?_)
  obtain ⟨hP1, hK1, hD1⟩ := hB
  rw [ht] at hP1
  obtain ⟨hP, hD⟩ := va_join (wr := [(bL, .inl (cI, 100, .inl L)), (bF, .inl (cZ, 100, .inl F)), (bN, .inl (cI, 100, .inl N)), (bsg, .inl (cI, 120, .inl sg)), (bpf, .inl (cI, 7, .inl pf)), (bpg, .inl (cI, 7, .inl pg)), (bpv, .inl (cJ, 7, .inr (.inl pv)))]) (w1 := [(h, .inr (8, [.int thr, .int (nI fm), .ref bL, .ref bF, .ref bS, .ref bN, .int (nI wc), .ref bwp, .ref bwg, .ref bwv, .int (nI mn), .ref bmo, .int (nI rn), .ref brd, .int (nI tn), .ref bty, .int mm, .int (nI sgn), .ref bsg, .int (nI 0), .ref bpf, .ref bpg, .ref bpv, .int (-1), .int (nI lb), .ref blF, .ref blP, .ref blD, .ref blN, .ref bwn, .int lat, .ref bla]))]) hP hD [0] [1, 2, 3, 4, 5, 6, 7] rfl rfl (by decide) (by decide) hk1 hFc hP1 hD1
  generalize H1 = H at hP hS ⊢
  have hP := hP.sub (ws' := [(h, .inr (8, [.int thr, .int (nI fm), .ref bL, .ref bF, .ref bS, .ref bN, .int (nI wc), .ref bwp, .ref bwg, .ref bwv, .int (nI mn), .ref bmo, .int (nI rn), .ref brd, .int (nI tn), .ref bty, .int mm, .int (nI sgn), .ref bsg, .int (nI 0), .ref bpf, .ref bpg, .ref bpv, .int (-1), .int (nI lb), .ref blF, .ref blP, .ref blD, .ref blN, .ref bwn, .int lat, .ref bla])), (bL, .inl (cI, 100, .inl L)), (bF, .inl (cZ, 100, .inl F)), (bN, .inl (cI, 100, .inl N)), (bsg, .inl (cI, 120, .inl sg)), (bpf, .inl (cI, 7, .inl pf)), (bpg, .inl (cI, 7, .inl pg)), (bpv, .inl (cJ, 7, .inr (.inl pv)))]) [7, 0, 1, 2, 3, 4, 5, 6] rfl
  have hD := hD.sub (ws' := [(h, .inr (8, [.int thr, .int (nI fm), .ref bL, .ref bF, .ref bS, .ref bN, .int (nI wc), .ref bwp, .ref bwg, .ref bwv, .int (nI mn), .ref bmo, .int (nI rn), .ref brd, .int (nI tn), .ref bty, .int mm, .int (nI sgn), .ref bsg, .int (nI 0), .ref bpf, .ref bpg, .ref bpv, .int (-1), .int (nI lb), .ref blF, .ref blP, .ref blD, .ref blN, .ref bwn, .int lat, .ref bla])), (bL, .inl (cI, 100, .inl L)), (bF, .inl (cZ, 100, .inl F)), (bN, .inl (cI, 100, .inl N)), (bsg, .inl (cI, 120, .inl sg)), (bpf, .inl (cI, 7, .inl pf)), (bpg, .inl (cI, 7, .inl pg)), (bpv, .inl (cJ, 7, .inr (.inl pv)))]) [7, 0, 1, 2, 3, 4, 5, 6] (by decide) rfl
  refine lv_aload_n hx hb dX7_takeApart_4 rfl (lv_at hl 0 rfl) ?_
  refine va_get (D := (dC, dI)) (ci := 8) (v := .int (nI sgn)) (C := RX7) (T := TX7) (N := 32) hx hb hts hinX7 hown hK hP 0 rfl rfl 17 (by decide) (hts (.fieldLink RX7 61 "ScanCodesModel" "signs" "I") (by decide +kernel)) (fun _ h9 => h9) rfl dX7_takeApart_5 ?_
  refine lv_iconst (v := 1) hx hb dX7_takeApart_8 (by decide) ?_
  refine lv_isub hx hb dX7_takeApart_9 ?_
  refine lv_istore_n (lv' := [(1, .int ((nI sgn) - 1)), (0, .ref h)]) hx hb dX7_takeApart_10 rfl hl (by decide) rfl (fun ls hl => ?_)
  refine lv_aload_n hx hb dX7_takeApart_11 rfl (lv_at hl 1 rfl) ?_
  refine va_get (D := (dC, dI)) (ci := 8) (v := .int (nI sgn)) (C := RX7) (T := TX7) (N := 32) hx hb hts hinX7 hown hK hP 0 rfl rfl 17 (by decide) (hts (.fieldLink RX7 61 "ScanCodesModel" "signs" "I") (by decide +kernel)) (fun _ h9 => h9) rfl dX7_takeApart_12 ?_
  refine lv_iconst (v := 4) hx hb dX7_takeApart_15 (by decide) ?_
  refine lv_icmp_lt (tgt := 30) hx hb dX7_takeApart_16 (by decide) (fun c16 => ?_) (fun c16 => ?_)
  · have hlt4 := zn_lt (b := 4) c16 (by omega) (by decide)
    have hFW : zt_fw sg sgn L F N pf pg pv = (-1, 0, pf, pg, pv, -1) := zi_t (Or.inl hlt4)
    refine lv_iconst (v := (-1)) hx hb dX7_takeApart_30 (by decide) ?_
    have hP9 : va_P (dC, dI) vwCl [(h, .inr (8, [.int thr, .int (nI fm), .ref bL, .ref bF, .ref bS, .ref bN, .int (nI wc), .ref bwp, .ref bwg, .ref bwv, .int (nI mn), .ref bmo, .int (nI rn), .ref brd, .int (nI tn), .ref bty, .int mm, .int (nI sgn), .ref bsg, .int (nI (zi (0 ≤ (zt_fw sg sgn L F N pf pg pv).1) (zt_fw sg sgn L F N pf pg pv).2.1 0)), .ref bpf, .ref bpg, .ref bpv, .int ((zt_fw sg sgn L F N pf pg pv).2.2.2.2.2), .int (nI lb), .ref blF, .ref blP, .ref blD, .ref blN, .ref bwn, .int lat, .ref bla])), (bL, .inl (cI, 100, .inl L)), (bF, .inl (cZ, 100, .inl F)), (bN, .inl (cI, 100, .inl N)), (bsg, .inl (cI, 120, .inl sg)), (bpf, .inl (cI, 7, .inl pf)), (bpg, .inl (cI, 7, .inl pg)), (bpv, .inl (cJ, 7, .inr (.inl pv)))] H := by rw [hFW]; dsimp only; (first | rw [zq1] | rw [zq2] | rw [zq3] | rw [zq4] | rw [zq5] | rw [zq6] | rw [zq7] | rw [zq0]); exact hP
    have hD9 : va_D A [(h, .inr (8, [.int thr, .int (nI fm), .ref bL, .ref bF, .ref bS, .ref bN, .int (nI wc), .ref bwp, .ref bwg, .ref bwv, .int (nI mn), .ref bmo, .int (nI rn), .ref brd, .int (nI tn), .ref bty, .int mm, .int (nI sgn), .ref bsg, .int (nI (zi (0 ≤ (zt_fw sg sgn L F N pf pg pv).1) (zt_fw sg sgn L F N pf pg pv).2.1 0)), .ref bpf, .ref bpg, .ref bpv, .int ((zt_fw sg sgn L F N pf pg pv).2.2.2.2.2), .int (nI lb), .ref blF, .ref blP, .ref blD, .ref blN, .ref bwn, .int lat, .ref bla])), (bL, .inl (cI, 100, .inl L)), (bF, .inl (cZ, 100, .inl F)), (bN, .inl (cI, 100, .inl N)), (bsg, .inl (cI, 120, .inl sg)), (bpf, .inl (cI, 7, .inl pf)), (bpg, .inl (cI, 7, .inl pg)), (bpv, .inl (cJ, 7, .inr (.inl pv)))] := by rw [hFW]; dsimp only; (first | rw [zq1] | rw [zq2] | rw [zq3] | rw [zq4] | rw [zq5] | rw [zq6] | rw [zq7] | rw [zq0]); exact hD
    have hpost : 0 ≤ (zt_fw sg sgn L F N pf pg pv).1 → pf = (zt_fw sg sgn L F N pf pg pv).2.2.1 ∧ pg = (zt_fw sg sgn L F N pf pg pv).2.2.2.1 ∧ pv = (zt_fw sg sgn L F N pf pg pv).2.2.2.2.1 := by rw [hFW]; intro h9; dsimp only at h9; first | exact ⟨rfl, rfl, rfl⟩ | exact absurd h9 (by decide)
    have hres : ((-1) : Int32) = zi (0 ≤ (zt_fw sg sgn L F N pf pg pv).1) (nI (zt_fw sg sgn L F N pf pg pv).2.1) (zt_fw sg sgn L F N pf pg pv).1 := by rw [hFW]; first | exact zq1.symm | exact zq2.symm | exact zq3.symm | exact zq4.symm | exact zq5.symm | exact zq6.symm | exact zq7.symm | exact zq0.symm
    exact W.iret (v := (-1)) hx hb hr (fun t ht hW => ⟨⟨_, (pf, pg, pv), rfl, ⟨hres, hpost⟩, by rw [ht]; exact hP9, va_K.moved hW.alike hK, hD9⟩, hS.F ht⟩) hS.2.2 dX7_takeApart_31
  · have hge4 := zn_nlt (b := 4) c16 (by omega) (by decide)
    rw [zn_pred (by omega)] at hl
    refine lv_aload_n hx hb dX7_takeApart_19 rfl (lv_at hl 1 rfl) ?_
    refine va_get (D := (dC, dI)) (ci := 8) (v := .ref bsg) (C := RX7) (T := TX7) (N := 32) hx hb hts hinX7 hown hK hP 0 rfl rfl 18 (by decide) (hts (.fieldLink RX7 64 "ScanCodesModel" "sign" "[I") (by decide +kernel)) (fun _ h9 => h9) rfl dX7_takeApart_20 ?_
    refine lv_iload_n hx hb dX7_takeApart_23 rfl (lv_at hl 0 rfl) ?_
    refine zc_iald hx hb hK hP 4 0 rfl rfl (sgn - 1) rfl (by first | assumption | omega) (by decide) dX7_takeApart_24 ?_
    refine lv_bipush (v := 10) hx hb dX7_takeApart_25 (by decide) ?_
    refine lv_icmp_ne (tgt := 32) hx hb dX7_takeApart_27 (by decide) (fun c27 => ?_) (fun c27 => ?_)
    · have hp1 : ¬ (sgn < 4 ∨ sg (sgn - 1) = 10) := fun q => q.elim (by omega) c27
      refine lv_aload_n hx hb dX7_takeApart_32 rfl (lv_at hl 1 rfl) ?_
      refine va_get (D := (dC, dI)) (ci := 8) (v := .ref bsg) (C := RX7) (T := TX7) (N := 32) hx hb hts hinX7 hown hK hP 0 rfl rfl 18 (by decide) (hts (.fieldLink RX7 64 "ScanCodesModel" "sign" "[I") (by decide +kernel)) (fun _ h9 => h9) rfl dX7_takeApart_33 ?_
      refine lv_iload_n hx hb dX7_takeApart_36 rfl (lv_at hl 0 rfl) ?_
      refine zc_callR (va_runS (As := [.ref bsg, .int (nI (sgn - 1))]) (rest := []) ⟨hx, hb, hml, hown, hts⟩ (c_X7_checkOf l dC dI cI cZ cJ bsg 120 sg (sgn - 1) (by omega) (by decide) (fun j hj => hsg j (by omega))) (zc_S 2 hts ggX7_takeApart_X7_checkOf rfl rfl rfl (by decide +kernel) (by decide +kernel) ⟨Nat.le_of_ble_eq_true rfl, Nat.le_of_ble_eq_true rfl⟩) ⟨zc_blind, zc_pay (hP.sub (ws' := [(bsg, .inl (cI, 120, .inl sg))]) [4] rfl) hK⟩ rfl rfl hl.1 rfl (lv_room (Nat.le_of_ble_eq_true rfl)) dX7_takeApart_37 ⟨Nat.le_of_ble_eq_true rfl, Nat.le_of_ble_eq_true rfl⟩) ?_
      refine lv_aload_n hx hb dX7_takeApart_40 rfl (lv_at hl 1 rfl) ?_
      refine va_get (D := (dC, dI)) (ci := 8) (v := .ref bsg) (C := RX7) (T := TX7) (N := 32) hx hb hts hinX7 hown hK hP 0 rfl rfl 18 (by decide) (hts (.fieldLink RX7 64 "ScanCodesModel" "sign" "[I") (by decide +kernel)) (fun _ h9 => h9) rfl dX7_takeApart_41 ?_
      refine lv_iload_n hx hb dX7_takeApart_44 rfl (lv_at hl 0 rfl) ?_
      refine zc_iald hx hb hK hP 4 0 rfl rfl (sgn - 1) rfl (by first | assumption | omega) (by decide) dX7_takeApart_45 ?_
      refine lv_icmp_eq (tgt := 52) hx hb dX7_takeApart_46 (by decide) (fun c46 => ?_) (fun c46 => ?_)
      · have hp2 : sg (sgn - 1) = zchk sg (sgn - 1) := c46.symm
        refine lv_iconst (v := 0) hx hb dX7_takeApart_52 (by decide) ?_
        refine lv_istore_n (lv' := [(2, .int 0), (1, .int (nI (sgn - 1))), (0, .ref h)]) hx hb dX7_takeApart_53 rfl hl (by decide) rfl (fun ls hl => ?_)
        refine lv_iconst (v := 0) hx hb dX7_takeApart_54 (by decide) ?_
        refine lv_istore_n (lv' := [(3, .int 0), (2, .int 0), (1, .int (nI (sgn - 1))), (0, .ref h)]) hx hb dX7_takeApart_55 rfl hl (by decide) rfl (fun ls hl => ?_)
        refine zc_loopH (α := Nat × Nat × (Nat → Int32) × (Nat → Int32) × (Nat → Int64)) (fun (⟨i, pp, qp, qg, qv⟩ : Nat × Nat × (Nat → Int32) × (Nat → Int32) × (Nat → Int64)) H locs ls => lv_has ls 10 [(3, .int (nI i)), (2, .int (nI pp)), (1, .int (nI (sgn - 1))), (0, .ref h)] ∧ va_P (dC, dI) vwCl [(h, .inr (8, [.int thr, .int (nI fm), .ref bL, .ref bF, .ref bS, .ref bN, .int (nI wc), .ref bwp, .ref bwg, .ref bwv, .int (nI mn), .ref bmo, .int (nI rn), .ref brd, .int (nI tn), .ref bty, .int mm, .int (nI sgn), .ref bsg, .int (nI 0), .ref bpf, .ref bpg, .ref bpv, .int (-1), .int (nI lb), .ref blF, .ref blP, .ref blD, .ref blN, .ref bwn, .int lat, .ref bla])), (bL, .inl (cI, 100, .inl L)), (bF, .inl (cZ, 100, .inl F)), (bN, .inl (cI, 100, .inl N)), (bsg, .inl (cI, 120, .inl sg)), (bpf, .inl (cI, 7, .inl qp)), (bpg, .inl (cI, 7, .inl qg)), (bpv, .inl (cJ, 7, .inr (.inl qv)))] H ∧ va_D A [(h, .inr (8, [.int thr, .int (nI fm), .ref bL, .ref bF, .ref bS, .ref bN, .int (nI wc), .ref bwp, .ref bwg, .ref bwv, .int (nI mn), .ref bmo, .int (nI rn), .ref brd, .int (nI tn), .ref bty, .int mm, .int (nI sgn), .ref bsg, .int (nI 0), .ref bpf, .ref bpg, .ref bpv, .int (-1), .int (nI lb), .ref blF, .ref blP, .ref blD, .ref blN, .ref bwn, .int lat, .ref bla])), (bL, .inl (cI, 100, .inl L)), (bF, .inl (cZ, 100, .inl F)), (bN, .inl (cI, 100, .inl N)), (bsg, .inl (cI, 120, .inl sg)), (bpf, .inl (cI, 7, .inl qp)), (bpg, .inl (cI, 7, .inl qg)), (bpv, .inl (cJ, 7, .inr (.inl qv)))] ∧ va_S A s.heap H locs ∧ (i ≤ 6) ∧ (pp ≤ sgn - 1) ∧ (∀ j, j < i → zp_has L (qp j)) ∧ (zt_run sg (sgn - 1) L F (6 - i) pp i qp qg qv = zt_run sg (sgn - 1) L F 6 0 0 pf pg pv)) (fun (⟨i, pp, qp, qg, qv⟩ : Nat × Nat × (Nat → Int32) × (Nat → Int32) × (Nat → Int64)) => 6 - i) ⟨0, 0, pf, pg, pv⟩ ⟨lv_sub hl [0, 1, 2, 3] rfl, by exact hP, by exact hD, hS, Nat.zero_le _, Nat.zero_le _, fun j h => absurd h (Nat.not_lt_zero _), rfl⟩ ?_
        intro x H locs ls hI ih56
        obtain ⟨i, pp, qp, qg, qv⟩ := x
        obtain ⟨hl, hP, hD, hS, hi1, hi2, hi3, hi4⟩ := hI
        have hl : lv_has ls 10 [(3, .int (nI i)), (2, .int (nI pp)), (1, .int (nI (sgn - 1))), (0, .ref h)] := hl
        have hP : va_P (dC, dI) vwCl [(h, .inr (8, [.int thr, .int (nI fm), .ref bL, .ref bF, .ref bS, .ref bN, .int (nI wc), .ref bwp, .ref bwg, .ref bwv, .int (nI mn), .ref bmo, .int (nI rn), .ref brd, .int (nI tn), .ref bty, .int mm, .int (nI sgn), .ref bsg, .int (nI 0), .ref bpf, .ref bpg, .ref bpv, .int (-1), .int (nI lb), .ref blF, .ref blP, .ref blD, .ref blN, .ref bwn, .int lat, .ref bla])), (bL, .inl (cI, 100, .inl L)), (bF, .inl (cZ, 100, .inl F)), (bN, .inl (cI, 100, .inl N)), (bsg, .inl (cI, 120, .inl sg)), (bpf, .inl (cI, 7, .inl qp)), (bpg, .inl (cI, 7, .inl qg)), (bpv, .inl (cJ, 7, .inr (.inl qv)))] H := hP
        have hD : va_D A [(h, .inr (8, [.int thr, .int (nI fm), .ref bL, .ref bF, .ref bS, .ref bN, .int (nI wc), .ref bwp, .ref bwg, .ref bwv, .int (nI mn), .ref bmo, .int (nI rn), .ref brd, .int (nI tn), .ref bty, .int mm, .int (nI sgn), .ref bsg, .int (nI 0), .ref bpf, .ref bpg, .ref bpv, .int (-1), .int (nI lb), .ref blF, .ref blP, .ref blD, .ref blN, .ref bwn, .int lat, .ref bla])), (bL, .inl (cI, 100, .inl L)), (bF, .inl (cZ, 100, .inl F)), (bN, .inl (cI, 100, .inl N)), (bsg, .inl (cI, 120, .inl sg)), (bpf, .inl (cI, 7, .inl qp)), (bpg, .inl (cI, 7, .inl qg)), (bpv, .inl (cJ, 7, .inr (.inl qv)))] := hD
        try dsimp only at ih56
        refine lv_iload_n hx hb dX7_takeApart_56 rfl (lv_at hl 1 rfl) ?_
        refine lv_iload_n hx hb dX7_takeApart_57 rfl (lv_at hl 2 rfl) ?_
        refine lv_icmp_ge (tgt := 380) hx hb dX7_takeApart_58 (by decide) (fun c58 => ?_) (fun c58 => ?_)
        · have hgp := zn_le c58 (by omega) (by omega)
          have hR : zt_run sg (sgn - 1) L F 6 0 0 pf pg pv = (0, pp, i, qp, qg, qv, -1) := by
            rw [← hi4]
            rcases Nat.lt_or_ge i 6 with q | q
            · obtain ⟨k2, hk2⟩ : ∃ k2, 6 - i = k2 + 1 := ⟨6 - i - 1, by omega⟩
              rw [hk2, zt_run, zi_f (by omega)]
            · rw [show 6 - i = 0 by omega]; rfl
          refine lv_iconst (v := 0) hx hb dX7_takeApart_380 (by decide) ?_
          refine lv_istore (lv' := [(4, .int 0), (3, .int (nI i)), (2, .int (nI pp)), (1, .int (nI (sgn - 1))), (0, .ref h)]) hx hb dX7_takeApart_381 hl (by decide) rfl (fun ls hl => ?_)
          refine zc_loop (α := Nat) (fun k ls => lv_has ls 10 [(4, .int (nI k)), (3, .int (nI i)), (2, .int (nI pp)), (1, .int (nI (sgn - 1))), (0, .ref h)] ∧ (k ≤ i) ∧ (∀ j, j < k → (N (qp j).toNatClampNeg = 0 ∨ zf_has qp i (N (qp j).toNatClampNeg)))) (fun k => i - k) 0 ⟨lv_sub hl [0, 1, 2, 3, 4] rfl, Nat.zero_le _, fun j h => absurd h (Nat.not_lt_zero _)⟩ ?_
          intro x ls hI ih383
          obtain ⟨k, rfl⟩ : ∃ z, z = x := ⟨_, rfl⟩
          obtain ⟨hl, hk1, hk2x⟩ := hI
          have hl : lv_has ls 10 [(4, .int (nI k)), (3, .int (nI i)), (2, .int (nI pp)), (1, .int (nI (sgn - 1))), (0, .ref h)] := hl
          try dsimp only at ih383
          refine lv_iload hx hb dX7_takeApart_383 (lv_at hl 0 rfl) ?_
          refine lv_iload_n hx hb dX7_takeApart_385 rfl (lv_at hl 1 rfl) ?_
          refine lv_icmp_ge (tgt := 474) hx hb dX7_takeApart_386 (by decide) (fun c386 => ?_) (fun c386 => ?_)
          · have hgek := zn_le c386 (by omega) (by omega)
            have hny : zt_needs N qp i := fun j hj => hk2x j (by omega)
            have hFW : zt_fw sg sgn L F N pf pg pv = (0, i, qp, qg, qv, -1) := by unfold zt_fw; rw [zi_f hp1, zi_t hp2]; rw [hR]; unfold zt_end; rw [zi_t rfl, zi_f (show ¬ (0, pp, i, qp, qg, qv, (-1 : Int32)).2.1 < sgn - 1 from by dsimp only; omega), zi_t hny]
            refine lv_aload_n hx hb dX7_takeApart_474 rfl (lv_at hl 4 rfl) ?_
            refine lv_iload_n hx hb dX7_takeApart_475 rfl (lv_at hl 1 rfl) ?_
            refine va_put (D := (dC, dI)) (ci := 8) (v := .int (nI i)) (ty := .int) (C := RX7) (T := TX7) (N := 32) hx hb hts hinX7 tyX7 tyX7_ok nmX7 hown hK hP hD hS 0 rfl rfl 19 (by decide) (hts (.fieldLink RX7 67 "ScanCodesModel" "fields" "I") (by decide +kernel)) (fun _ h9 => h9) rfl (by decide +kernel) rfl rfl (Nat.le_of_ble_eq_true rfl) dX7_takeApart_476 (fun H locs hP hD hS => ?_)
            have hP : va_P (dC, dI) vwCl [(h, .inr (8, [.int thr, .int (nI fm), .ref bL, .ref bF, .ref bS, .ref bN, .int (nI wc), .ref bwp, .ref bwg, .ref bwv, .int (nI mn), .ref bmo, .int (nI rn), .ref brd, .int (nI tn), .ref bty, .int mm, .int (nI sgn), .ref bsg, .int (nI i), .ref bpf, .ref bpg, .ref bpv, .int (-1), .int (nI lb), .ref blF, .ref blP, .ref blD, .ref blN, .ref bwn, .int lat, .ref bla])), (bL, .inl (cI, 100, .inl L)), (bF, .inl (cZ, 100, .inl F)), (bN, .inl (cI, 100, .inl N)), (bsg, .inl (cI, 120, .inl sg)), (bpf, .inl (cI, 7, .inl qp)), (bpg, .inl (cI, 7, .inl qg)), (bpv, .inl (cJ, 7, .inr (.inl qv)))] H := hP
            have hD : va_D A [(h, .inr (8, [.int thr, .int (nI fm), .ref bL, .ref bF, .ref bS, .ref bN, .int (nI wc), .ref bwp, .ref bwg, .ref bwv, .int (nI mn), .ref bmo, .int (nI rn), .ref brd, .int (nI tn), .ref bty, .int mm, .int (nI sgn), .ref bsg, .int (nI i), .ref bpf, .ref bpg, .ref bpv, .int (-1), .int (nI lb), .ref blF, .ref blP, .ref blD, .ref blN, .ref bwn, .int lat, .ref bla])), (bL, .inl (cI, 100, .inl L)), (bF, .inl (cZ, 100, .inl F)), (bN, .inl (cI, 100, .inl N)), (bsg, .inl (cI, 120, .inl sg)), (bpf, .inl (cI, 7, .inl qp)), (bpg, .inl (cI, 7, .inl qg)), (bpv, .inl (cJ, 7, .inr (.inl qv)))] := hD
            refine lv_iload_n hx hb dX7_takeApart_479 rfl (lv_at hl 1 rfl) ?_
            have hP9 : va_P (dC, dI) vwCl [(h, .inr (8, [.int thr, .int (nI fm), .ref bL, .ref bF, .ref bS, .ref bN, .int (nI wc), .ref bwp, .ref bwg, .ref bwv, .int (nI mn), .ref bmo, .int (nI rn), .ref brd, .int (nI tn), .ref bty, .int mm, .int (nI sgn), .ref bsg, .int (nI (zi (0 ≤ (zt_fw sg sgn L F N pf pg pv).1) (zt_fw sg sgn L F N pf pg pv).2.1 0)), .ref bpf, .ref bpg, .ref bpv, .int ((zt_fw sg sgn L F N pf pg pv).2.2.2.2.2), .int (nI lb), .ref blF, .ref blP, .ref blD, .ref blN, .ref bwn, .int lat, .ref bla])), (bL, .inl (cI, 100, .inl L)), (bF, .inl (cZ, 100, .inl F)), (bN, .inl (cI, 100, .inl N)), (bsg, .inl (cI, 120, .inl sg)), (bpf, .inl (cI, 7, .inl qp)), (bpg, .inl (cI, 7, .inl qg)), (bpv, .inl (cJ, 7, .inr (.inl qv)))] H := by rw [hFW]; dsimp only; (first | rw [zq1] | rw [zq2] | rw [zq3] | rw [zq4] | rw [zq5] | rw [zq6] | rw [zq7] | rw [zq0]); exact hP
            have hD9 : va_D A [(h, .inr (8, [.int thr, .int (nI fm), .ref bL, .ref bF, .ref bS, .ref bN, .int (nI wc), .ref bwp, .ref bwg, .ref bwv, .int (nI mn), .ref bmo, .int (nI rn), .ref brd, .int (nI tn), .ref bty, .int mm, .int (nI sgn), .ref bsg, .int (nI (zi (0 ≤ (zt_fw sg sgn L F N pf pg pv).1) (zt_fw sg sgn L F N pf pg pv).2.1 0)), .ref bpf, .ref bpg, .ref bpv, .int ((zt_fw sg sgn L F N pf pg pv).2.2.2.2.2), .int (nI lb), .ref blF, .ref blP, .ref blD, .ref blN, .ref bwn, .int lat, .ref bla])), (bL, .inl (cI, 100, .inl L)), (bF, .inl (cZ, 100, .inl F)), (bN, .inl (cI, 100, .inl N)), (bsg, .inl (cI, 120, .inl sg)), (bpf, .inl (cI, 7, .inl qp)), (bpg, .inl (cI, 7, .inl qg)), (bpv, .inl (cJ, 7, .inr (.inl qv)))] := by rw [hFW]; dsimp only; (first | rw [zq1] | rw [zq2] | rw [zq3] | rw [zq4] | rw [zq5] | rw [zq6] | rw [zq7] | rw [zq0]); exact hD
            have hpost : 0 ≤ (zt_fw sg sgn L F N pf pg pv).1 → qp = (zt_fw sg sgn L F N pf pg pv).2.2.1 ∧ qg = (zt_fw sg sgn L F N pf pg pv).2.2.2.1 ∧ qv = (zt_fw sg sgn L F N pf pg pv).2.2.2.2.1 := by rw [hFW]; intro h9; dsimp only at h9; first | exact ⟨rfl, rfl, rfl⟩ | exact absurd h9 (by decide)
            have hres : (nI i) = zi (0 ≤ (zt_fw sg sgn L F N pf pg pv).1) (nI (zt_fw sg sgn L F N pf pg pv).2.1) (zt_fw sg sgn L F N pf pg pv).1 := by rw [hFW]; first | exact zq1.symm | exact zq2.symm | exact zq3.symm | exact zq4.symm | exact zq5.symm | exact zq6.symm | exact zq7.symm | exact zq0.symm
            exact W.iret (v := nI i) hx hb hr (fun t ht hW => ⟨⟨_, (qp, qg, qv), rfl, ⟨hres, hpost⟩, by rw [ht]; exact hP9, va_K.moved hW.alike hK, hD9⟩, hS.F ht⟩) hS.2.2 dX7_takeApart_480
          · have hltk := zn_nle c386 (by omega) (by omega)
            have hhk := hi3 k hltk
            have hixk := zp_ix hhk.1 hhk.2.1
            refine zc_cut (g' := F0 m 409 ls [.int (zb (N (qp k).toNatClampNeg = 0 ∨ zf_has qp 0 (N (qp k).toNatClampNeg)))]) ?_ (fun J409 => ?_)
            · refine lv_istore (lv' := [(5, .int (zb (N (qp k).toNatClampNeg = 0 ∨ zf_has qp 0 (N (qp k).toNatClampNeg)))), (4, .int (nI k)), (3, .int (nI i)), (2, .int (nI pp)), (1, .int (nI (sgn - 1))), (0, .ref h)]) hx hb dX7_takeApart_409 hl (by decide) rfl (fun ls hl => ?_)
              refine lv_iconst (v := 0) hx hb dX7_takeApart_411 (by decide) ?_
              refine lv_istore (lv' := [(6, .int 0), (5, .int (zb (N (qp k).toNatClampNeg = 0 ∨ zf_has qp 0 (N (qp k).toNatClampNeg)))), (4, .int (nI k)), (3, .int (nI i)), (2, .int (nI pp)), (1, .int (nI (sgn - 1))), (0, .ref h)]) hx hb dX7_takeApart_412 hl (by decide) rfl (fun ls hl => ?_)
              refine zc_loop (α := Nat) (fun q ls => lv_has ls 10 [(6, .int (nI q)), (5, .int (zb (N (qp k).toNatClampNeg = 0 ∨ zf_has qp q (N (qp k).toNatClampNeg)))), (4, .int (nI k)), (3, .int (nI i)), (2, .int (nI pp)), (1, .int (nI (sgn - 1))), (0, .ref h)] ∧ (q ≤ i)) (fun q => i - q) 0 ⟨lv_sub hl [0, 1, 2, 3, 4, 5, 6] rfl, Nat.zero_le _⟩ ?_
              intro x ls hI ih414
              obtain ⟨q, rfl⟩ : ∃ z, z = x := ⟨_, rfl⟩
              obtain ⟨hl, hq1⟩ := hI
              have hl : lv_has ls 10 [(6, .int (nI q)), (5, .int (zb (N (qp k).toNatClampNeg = 0 ∨ zf_has qp q (N (qp k).toNatClampNeg)))), (4, .int (nI k)), (3, .int (nI i)), (2, .int (nI pp)), (1, .int (nI (sgn - 1))), (0, .ref h)] := hl
              try dsimp only at ih414
              refine lv_iload hx hb dX7_takeApart_414 (lv_at hl 0 rfl) ?_
              refine lv_iload_n hx hb dX7_takeApart_416 rfl (lv_at hl 3 rfl) ?_
              refine lv_icmp_ge (tgt := 460) hx hb dX7_takeApart_417 (by decide) (fun c417 => ?_) (fun c417 => ?_)
              · have hgeq := zn_le c417 (by omega) (by omega)
                have hqi : q = i := by omega
                rw [hqi] at hl
                refine lv_iload hx hb dX7_takeApart_460 (lv_at hl 1 rfl) ?_
                refine lv_if_ne (tgt := 468) hx hb dX7_takeApart_462 (by decide) (fun c462 => ?_) (fun c462 => ?_)
                · have hthere := zb_1 c462
                  refine lv_iinc (v := nI (k + 1)) (lv' := [(4, .int (nI (k + 1))), (6, .int (nI i)), (5, .int (zb (N (qp k).toNatClampNeg = 0 ∨ zf_has qp i (N (qp k).toNatClampNeg)))), (3, .int (nI i)), (2, .int (nI pp)), (1, .int (nI (sgn - 1))), (0, .ref h)]) hx hb dX7_takeApart_468 hl (k := 2) rfl (nI_1 k) (by decide) rfl (fun ls hl => ?_)
                  refine lv_goto (tgt := 383) hx hb dX7_takeApart_471 (by decide) ?_
                  exact ih383 (k + 1) _ (by omega) ⟨lv_sub hl [0, 3, 4, 5, 6] rfl, hltk, fun j hj => by by_cases q : j = k; rw [q]; exact hthere; exact hk2x j (by omega)⟩
                · have hnt := zb_0 c462
                  have hnn : ¬ zt_needs N qp i := fun z => hnt (z k hltk)
                  have hFW : zt_fw sg sgn L F N pf pg pv = (-7, i, qp, qg, qv, -1) := by unfold zt_fw; rw [zi_f hp1, zi_t hp2]; rw [hR]; unfold zt_end; rw [zi_t rfl, zi_f (show ¬ (0, pp, i, qp, qg, qv, (-1 : Int32)).2.1 < sgn - 1 from by dsimp only; omega), zi_f hnn]
                  refine lv_bipush (v := (-7)) hx hb dX7_takeApart_465 (by decide) ?_
                  have hP9 : va_P (dC, dI) vwCl [(h, .inr (8, [.int thr, .int (nI fm), .ref bL, .ref bF, .ref bS, .ref bN, .int (nI wc), .ref bwp, .ref bwg, .ref bwv, .int (nI mn), .ref bmo, .int (nI rn), .ref brd, .int (nI tn), .ref bty, .int mm, .int (nI sgn), .ref bsg, .int (nI (zi (0 ≤ (zt_fw sg sgn L F N pf pg pv).1) (zt_fw sg sgn L F N pf pg pv).2.1 0)), .ref bpf, .ref bpg, .ref bpv, .int ((zt_fw sg sgn L F N pf pg pv).2.2.2.2.2), .int (nI lb), .ref blF, .ref blP, .ref blD, .ref blN, .ref bwn, .int lat, .ref bla])), (bL, .inl (cI, 100, .inl L)), (bF, .inl (cZ, 100, .inl F)), (bN, .inl (cI, 100, .inl N)), (bsg, .inl (cI, 120, .inl sg)), (bpf, .inl (cI, 7, .inl qp)), (bpg, .inl (cI, 7, .inl qg)), (bpv, .inl (cJ, 7, .inr (.inl qv)))] H := by rw [hFW]; dsimp only; (first | rw [zq1] | rw [zq2] | rw [zq3] | rw [zq4] | rw [zq5] | rw [zq6] | rw [zq7] | rw [zq0]); exact hP
                  have hD9 : va_D A [(h, .inr (8, [.int thr, .int (nI fm), .ref bL, .ref bF, .ref bS, .ref bN, .int (nI wc), .ref bwp, .ref bwg, .ref bwv, .int (nI mn), .ref bmo, .int (nI rn), .ref brd, .int (nI tn), .ref bty, .int mm, .int (nI sgn), .ref bsg, .int (nI (zi (0 ≤ (zt_fw sg sgn L F N pf pg pv).1) (zt_fw sg sgn L F N pf pg pv).2.1 0)), .ref bpf, .ref bpg, .ref bpv, .int ((zt_fw sg sgn L F N pf pg pv).2.2.2.2.2), .int (nI lb), .ref blF, .ref blP, .ref blD, .ref blN, .ref bwn, .int lat, .ref bla])), (bL, .inl (cI, 100, .inl L)), (bF, .inl (cZ, 100, .inl F)), (bN, .inl (cI, 100, .inl N)), (bsg, .inl (cI, 120, .inl sg)), (bpf, .inl (cI, 7, .inl qp)), (bpg, .inl (cI, 7, .inl qg)), (bpv, .inl (cJ, 7, .inr (.inl qv)))] := by rw [hFW]; dsimp only; (first | rw [zq1] | rw [zq2] | rw [zq3] | rw [zq4] | rw [zq5] | rw [zq6] | rw [zq7] | rw [zq0]); exact hD
                  have hpost : 0 ≤ (zt_fw sg sgn L F N pf pg pv).1 → qp = (zt_fw sg sgn L F N pf pg pv).2.2.1 ∧ qg = (zt_fw sg sgn L F N pf pg pv).2.2.2.1 ∧ qv = (zt_fw sg sgn L F N pf pg pv).2.2.2.2.1 := by rw [hFW]; intro h9; dsimp only at h9; first | exact ⟨rfl, rfl, rfl⟩ | exact absurd h9 (by decide)
                  have hres : ((-7) : Int32) = zi (0 ≤ (zt_fw sg sgn L F N pf pg pv).1) (nI (zt_fw sg sgn L F N pf pg pv).2.1) (zt_fw sg sgn L F N pf pg pv).1 := by rw [hFW]; first | exact zq1.symm | exact zq2.symm | exact zq3.symm | exact zq4.symm | exact zq5.symm | exact zq6.symm | exact zq7.symm | exact zq0.symm
                  exact W.iret (v := (-7)) hx hb hr (fun t ht hW => ⟨⟨_, (qp, qg, qv), rfl, ⟨hres, hpost⟩, by rw [ht]; exact hP9, va_K.moved hW.alike hK, hD9⟩, hS.F ht⟩) hS.2.2 dX7_takeApart_467
              · have hltq := zn_nle c417 (by omega) (by omega)
                refine zc_cut (g' := F0 m 452 ls [.int (zb (N (qp k).toNatClampNeg = 0 ∨ zf_has qp (q + 1) (N (qp k).toNatClampNeg)))]) ?_ (fun J452 => ?_)
                · refine lv_istore (lv' := [(5, .int (zb (N (qp k).toNatClampNeg = 0 ∨ zf_has qp (q + 1) (N (qp k).toNatClampNeg)))), (6, .int (nI q)), (4, .int (nI k)), (3, .int (nI i)), (2, .int (nI pp)), (1, .int (nI (sgn - 1))), (0, .ref h)]) hx hb dX7_takeApart_452 hl (by decide) rfl (fun ls hl => ?_)
                  refine lv_iinc (v := nI (q + 1)) (lv' := [(6, .int (nI (q + 1))), (5, .int (zb (N (qp k).toNatClampNeg = 0 ∨ zf_has qp (q + 1) (N (qp k).toNatClampNeg)))), (4, .int (nI k)), (3, .int (nI i)), (2, .int (nI pp)), (1, .int (nI (sgn - 1))), (0, .ref h)]) hx hb dX7_takeApart_454 hl (k := 1) rfl (nI_1 q) (by decide) rfl (fun ls hl => ?_)
                  refine lv_goto (tgt := 414) hx hb dX7_takeApart_457 (by decide) ?_
                  exact ih414 (q + 1) _ (by omega) ⟨lv_sub hl [0, 1, 2, 3, 4, 5, 6] rfl, hltq⟩
                · refine lv_iload hx hb dX7_takeApart_420 (lv_at hl 1 rfl) ?_
                  refine lv_if_ne (tgt := 447) hx hb dX7_takeApart_422 (by decide) (fun c422 => ?_) (fun c422 => ?_)
                  · refine lv_iconst (v := 1) hx hb dX7_takeApart_447 (by decide) ?_
                    refine lv_goto (tgt := 452) hx hb dX7_takeApart_448 (by decide) ?_
                    refine zc_ti (y := zb (N (qp k).toNatClampNeg = 0 ∨ zf_has qp (q + 1) (N (qp k).toNatClampNeg))) ((zb_t ((zb_1 c422).elim Or.inl (fun z => Or.inr (zf_hasS.mpr (Or.inl z))))).symm) ?_
                    exact J452
                  · refine lv_aload_n hx hb dX7_takeApart_425 rfl (lv_at hl 6 rfl) ?_
                    refine va_get (D := (dC, dI)) (ci := 8) (v := .ref bpf) (C := RX7) (T := TX7) (N := 32) hx hb hts hinX7 hown hK hP 0 rfl rfl 20 (by decide) (hts (.fieldLink RX7 70 "ScanCodesModel" "prefixOf" "[I") (by decide +kernel)) (fun _ h9 => h9) rfl dX7_takeApart_426 ?_
                    refine lv_iload hx hb dX7_takeApart_429 (lv_at hl 0 rfl) ?_
                    refine zc_iald hx hb hK hP 5 0 rfl rfl q rfl (by first | assumption | omega) (by decide) dX7_takeApart_431 ?_
                    refine lv_aload_n hx hb dX7_takeApart_432 rfl (lv_at hl 6 rfl) ?_
                    refine va_get (D := (dC, dI)) (ci := 8) (v := .ref bN) (C := RX7) (T := TX7) (N := 32) hx hb hts hinX7 hown hK hP 0 rfl rfl 5 (by decide) (hts (.fieldLink RX7 24 "ScanCodesModel" "need" "[I") (by decide +kernel)) (fun _ h9 => h9) rfl dX7_takeApart_433 ?_
                    refine lv_aload_n hx hb dX7_takeApart_436 rfl (lv_at hl 6 rfl) ?_
                    refine va_get (D := (dC, dI)) (ci := 8) (v := .ref bpf) (C := RX7) (T := TX7) (N := 32) hx hb hts hinX7 hown hK hP 0 rfl rfl 20 (by decide) (hts (.fieldLink RX7 70 "ScanCodesModel" "prefixOf" "[I") (by decide +kernel)) (fun _ h9 => h9) rfl dX7_takeApart_437 ?_
                    refine lv_iload hx hb dX7_takeApart_440 (lv_at hl 2 rfl) ?_
                    refine zc_iald hx hb hK hP 5 0 rfl rfl k rfl (by first | assumption | omega) (by decide) dX7_takeApart_442 ?_
                    refine zc_iald hx hb hK hP 3 0 rfl rfl ((qp k).toNatClampNeg) hixk.1 hixk.2.1 (by decide) dX7_takeApart_443 ?_
                    refine lv_icmp_ne (tgt := 451) hx hb dX7_takeApart_444 (by decide) (fun c444 => ?_) (fun c444 => ?_)
                    · refine lv_iconst (v := 0) hx hb dX7_takeApart_451 (by decide) ?_
                      refine zc_ti (y := zb (N (qp k).toNatClampNeg = 0 ∨ zf_has qp (q + 1) (N (qp k).toNatClampNeg))) ((zb_f (fun q9 => q9.elim (fun z => zb_0 c422 (Or.inl z)) (fun z => (zf_hasS.mp z).elim (fun y => zb_0 c422 (Or.inr y)) c444))).symm) ?_
                      exact J452
                    · refine lv_iconst (v := 1) hx hb dX7_takeApart_447 (by decide) ?_
                      refine lv_goto (tgt := 452) hx hb dX7_takeApart_448 (by decide) ?_
                      refine zc_ti (y := zb (N (qp k).toNatClampNeg = 0 ∨ zf_has qp (q + 1) (N (qp k).toNatClampNeg))) ((zb_t (Or.inr (zf_hasS.mpr (Or.inr c444)))).symm) ?_
                      exact J452
            · refine lv_aload_n hx hb dX7_takeApart_389 rfl (lv_at hl 4 rfl) ?_
              refine va_get (D := (dC, dI)) (ci := 8) (v := .ref bN) (C := RX7) (T := TX7) (N := 32) hx hb hts hinX7 hown hK hP 0 rfl rfl 5 (by decide) (hts (.fieldLink RX7 24 "ScanCodesModel" "need" "[I") (by decide +kernel)) (fun _ h9 => h9) rfl dX7_takeApart_390 ?_
              refine lv_aload_n hx hb dX7_takeApart_393 rfl (lv_at hl 4 rfl) ?_
              refine va_get (D := (dC, dI)) (ci := 8) (v := .ref bpf) (C := RX7) (T := TX7) (N := 32) hx hb hts hinX7 hown hK hP 0 rfl rfl 20 (by decide) (hts (.fieldLink RX7 70 "ScanCodesModel" "prefixOf" "[I") (by decide +kernel)) (fun _ h9 => h9) rfl dX7_takeApart_394 ?_
              refine lv_iload hx hb dX7_takeApart_397 (lv_at hl 0 rfl) ?_
              refine zc_iald hx hb hK hP 5 0 rfl rfl k rfl (by first | assumption | omega) (by decide) dX7_takeApart_399 ?_
              refine zc_iald hx hb hK hP 3 0 rfl rfl ((qp k).toNatClampNeg) hixk.1 hixk.2.1 (by decide) dX7_takeApart_400 ?_
              refine lv_if_ne (tgt := 408) hx hb dX7_takeApart_401 (by decide) (fun c401 => ?_) (fun c401 => ?_)
              · refine lv_iconst (v := 0) hx hb dX7_takeApart_408 (by decide) ?_
                refine zc_ti (y := zb (N (qp k).toNatClampNeg = 0 ∨ zf_has qp 0 (N (qp k).toNatClampNeg))) ((zb_f (fun q => q.elim c401 zf_has0)).symm) ?_
                exact J409
              · refine lv_iconst (v := 1) hx hb dX7_takeApart_404 (by decide) ?_
                refine lv_goto (tgt := 409) hx hb dX7_takeApart_405 (by decide) ?_
                refine zc_ti (y := zb (N (qp k).toNatClampNeg = 0 ∨ zf_has qp 0 (N (qp k).toNatClampNeg))) ((zb_t (Or.inl c401)).symm) ?_
                exact J409
        · have hlp := zn_nle c58 (by omega) (by omega)
          refine lv_iload_n hx hb dX7_takeApart_61 rfl (lv_at hl 0 rfl) ?_
          refine lv_bipush (v := 6) hx hb dX7_takeApart_62 (by decide) ?_
          refine lv_icmp_ne (tgt := 70) hx hb dX7_takeApart_64 (by decide) (fun c64 => ?_) (fun c64 => ?_)
          · have hi6 : i < 6 := by have := zn_ne (b := 6) c64 (by omega) (by decide); omega
            obtain ⟨k2, hk2⟩ : ∃ k2, 6 - i = k2 + 1 := ⟨6 - i - 1, by omega⟩
            rw [hk2, zt_run, zi_t hlp] at hi4
            refine zc_cut (g' := F0 m 106 ls [.int (zb (zt_two sg (sgn - 1) pp))]) ?_ (fun J106 => ?_)
            · refine lv_istore (lv' := [(4, .int (zb (zt_two sg (sgn - 1) pp))), (3, .int (nI i)), (2, .int (nI pp)), (1, .int (nI (sgn - 1))), (0, .ref h)]) hx hb dX7_takeApart_106 hl (by decide) rfl (fun ls hl => ?_)
              refine zc_cut (g' := F0 m 135 ls [.int (zi (zt_two sg (sgn - 1) pp) (zt_x sg pp) (-1))]) ?_ (fun J135 => ?_)
              · refine lv_istore (lv' := [(5, .int (zi (zt_two sg (sgn - 1) pp) (zt_x sg pp) (-1))), (4, .int (zb (zt_two sg (sgn - 1) pp))), (3, .int (nI i)), (2, .int (nI pp)), (1, .int (nI (sgn - 1))), (0, .ref h)]) hx hb dX7_takeApart_135 hl (by decide) rfl (fun ls hl => ?_)
                refine lv_aload_n hx hb dX7_takeApart_137 rfl (lv_at hl 5 rfl) ?_
                refine lv_iload hx hb dX7_takeApart_138 (lv_at hl 0 rfl) ?_
                refine zc_callR (va_runV (As := [.int (zi (zt_two sg (sgn - 1) pp) (zt_x sg pp) (-1))]) (rest := []) ⟨hx, hb, hml, hown, hts⟩ (c_X7_isKnown l dC dI cI cZ cJ h thr fm bL bF bS bN wc bwp bwg bwv mn bmo rn brd tn bty mm sgn bsg 0 bpf bpg bpv (-1) lb blF blP blD blN bwn lat bla L (zi (zt_two sg (sgn - 1) pp) (zt_x sg pp) (-1))) (zc_V 1 hts ggX7_takeApart_X7_isKnown rfl rfl rfl (by decide +kernel) (by decide +kernel) ⟨Nat.le_of_ble_eq_true rfl, Nat.le_of_ble_eq_true rfl⟩) ⟨zc_blind, va_recv hK hP (ci := 8) (q0 := 0) rfl rfl, zc_pay (hP.sub (ws' := [(h, .inr (8, [.int thr, .int (nI fm), .ref bL, .ref bF, .ref bS, .ref bN, .int (nI wc), .ref bwp, .ref bwg, .ref bwv, .int (nI mn), .ref bmo, .int (nI rn), .ref brd, .int (nI tn), .ref bty, .int mm, .int (nI sgn), .ref bsg, .int (nI 0), .ref bpf, .ref bpg, .ref bpv, .int (-1), .int (nI lb), .ref blF, .ref blP, .ref blD, .ref blN, .ref bwn, .int lat, .ref bla])), (bL, .inl (cI, 100, .inl L))]) [0, 1] rfl) hK⟩ rfl rfl hl.1 rfl (lv_room (Nat.le_of_ble_eq_true rfl)) dX7_takeApart_140 ⟨Nat.le_of_ble_eq_true rfl, Nat.le_of_ble_eq_true rfl⟩) ?_
                refine lv_if_ne (tgt := 155) hx hb dX7_takeApart_143 (by decide) (fun c143 => ?_) (fun c143 => ?_)
                · have hh0 := zb_1 c143
                  have htw : zt_two sg (sgn - 1) pp := Classical.byContradiction (fun q => by rw [zi_f q] at hh0; exact zp_has_m1 L hh0)
                  rw [zi_t htw] at hl hh0
                  have hh := hh0
                  have hix := zt_kix hh
                  have hLk := hLT _ hix.2.1
                  have hp29 := htw.1
                  refine lv_iconst (v := 0) hx hb dX7_takeApart_155 (by decide) ?_
                  refine lv_istore (lv' := [(6, .int 0), (5, .int (zt_x sg pp)), (4, .int (zb (zt_two sg (sgn - 1) pp))), (3, .int (nI i)), (2, .int (nI pp)), (1, .int (nI (sgn - 1))), (0, .ref h)]) hx hb dX7_takeApart_156 hl (by decide) rfl (fun ls hl => ?_)
                  refine zc_loop (α := Nat) (fun k ls => lv_has ls 10 [(6, .int (nI k)), (5, .int (zt_x sg pp)), (4, .int (zb (zt_two sg (sgn - 1) pp))), (3, .int (nI i)), (2, .int (nI pp)), (1, .int (nI (sgn - 1))), (0, .ref h)] ∧ (k ≤ i) ∧ (∀ j, j < k → ¬ qp j = zt_x sg pp)) (fun k => i - k) 0 ⟨lv_sub hl [0, 1, 2, 3, 4, 5, 6] rfl, Nat.zero_le _, fun j h => absurd h (Nat.not_lt_zero _)⟩ ?_
                  intro x ls hI ih158
                  obtain ⟨k, rfl⟩ : ∃ z, z = x := ⟨_, rfl⟩
                  obtain ⟨hl, hk1, hk2x⟩ := hI
                  have hl : lv_has ls 10 [(6, .int (nI k)), (5, .int (zt_x sg pp)), (4, .int (zb (zt_two sg (sgn - 1) pp))), (3, .int (nI i)), (2, .int (nI pp)), (1, .int (nI (sgn - 1))), (0, .ref h)] := hl
                  try dsimp only at ih158
                  refine lv_iload hx hb dX7_takeApart_158 (lv_at hl 0 rfl) ?_
                  refine lv_iload_n hx hb dX7_takeApart_160 rfl (lv_at hl 3 rfl) ?_
                  refine lv_icmp_ge (tgt := 185) hx hb dX7_takeApart_161 (by decide) (fun c161 => ?_) (fun c161 => ?_)
                  · have hgek := zn_le c161 (by omega) (by omega)
                    have hnf : ¬ zf_has qp i (zt_x sg pp) := fun ⟨j, h1, h2⟩ => hk2x j (by omega) h2
                    refine lv_iinc (v := nI (pp + 2)) (lv' := [(2, .int (nI (pp + 2))), (6, .int (nI k)), (5, .int (zt_x sg pp)), (4, .int (zb (zt_two sg (sgn - 1) pp))), (3, .int (nI i)), (1, .int (nI (sgn - 1))), (0, .ref h)]) hx hb dX7_takeApart_185 hl (k := 4) rfl ((nI_add pp 2)) (by decide) rfl (fun ls hl => ?_)
                    refine lv_iload_n hx hb dX7_takeApart_188 rfl (lv_at hl 0 rfl) ?_
                    refine lv_istore (lv' := [(6, .int (nI (pp + 2))), (2, .int (nI (pp + 2))), (5, .int (zt_x sg pp)), (4, .int (zb (zt_two sg (sgn - 1) pp))), (3, .int (nI i)), (1, .int (nI (sgn - 1))), (0, .ref h)]) hx hb dX7_takeApart_189 hl (by decide) rfl (fun ls hl => ?_)
                    refine zc_cutL (fun ls => lv_has ls 10 [(6, .int (nI (pp + 2 + zt_d sg (sgn - 1) L F pp))), (2, .int (nI (pp + 2))), (5, .int (zt_x sg pp)), (4, .int (zb (zt_two sg (sgn - 1) pp))), (3, .int (nI i)), (1, .int (nI (sgn - 1))), (0, .ref h)] ∧ (pp + 2 + zt_d sg (sgn - 1) L F pp ≤ sgn - 1) ∧ (F (zt_k sg pp) = 0 → (1 ≤ zr_ns sg (pp + 2) (sgn - 1) - (pp + 2) ∧ zr_ns sg (pp + 2) (sgn - 1) - (pp + 2) ≤ zt_len L (zt_k sg pp))) ∧ (¬ F (zt_k sg pp) = 0 → ¬ sgn - 1 < pp + 2 + zt_len L (zt_k sg pp))) (pcJ := 268) ?_ (fun J268 => ?_)
                    · intro ls hJ
                      obtain ⟨hl, hde, hdl, hdf⟩ := hJ
                      have hl : lv_has ls 10 [(6, .int (nI (pp + 2 + zt_d sg (sgn - 1) L F pp))), (2, .int (nI (pp + 2))), (5, .int (zt_x sg pp)), (4, .int (zb (zt_two sg (sgn - 1) pp))), (3, .int (nI i)), (1, .int (nI (sgn - 1))), (0, .ref h)] := hl
                      refine lv_lconst (v := 0) hx hb dX7_takeApart_268 (by decide) ?_
                      refine lv_lstore (lv' := [(7, .long 0), (6, .int (nI (pp + 2 + zt_d sg (sgn - 1) L F pp))), (2, .int (nI (pp + 2))), (5, .int (zt_x sg pp)), (4, .int (zb (zt_two sg (sgn - 1) pp))), (3, .int (nI i)), (1, .int (nI (sgn - 1))), (0, .ref h)]) hx hb dX7_takeApart_269 hl (by decide) rfl (fun ls hl => ?_)
                      refine lv_iload_n hx hb dX7_takeApart_271 rfl (lv_at hl 2 rfl) ?_
                      refine lv_istore (lv' := [(9, .int (nI (pp + 2))), (7, .long 0), (6, .int (nI (pp + 2 + zt_d sg (sgn - 1) L F pp))), (2, .int (nI (pp + 2))), (5, .int (zt_x sg pp)), (4, .int (zb (zt_two sg (sgn - 1) pp))), (3, .int (nI i)), (1, .int (nI (sgn - 1))), (0, .ref h)]) hx hb dX7_takeApart_272 hl (by decide) rfl (fun ls hl => ?_)
                      refine zc_loop (α := Nat × Int64) (fun (⟨q, acc⟩ : Nat × Int64) ls => lv_has ls 10 [(9, .int (nI q)), (7, .long acc), (6, .int (nI (pp + 2 + zt_d sg (sgn - 1) L F pp))), (2, .int (nI (pp + 2))), (5, .int (zt_x sg pp)), (4, .int (zb (zt_two sg (sgn - 1) pp))), (3, .int (nI i)), (1, .int (nI (sgn - 1))), (0, .ref h)] ∧ (pp + 2 ≤ q) ∧ (q ≤ pp + 2 + zt_d sg (sgn - 1) L F pp) ∧ (zr_num sg q (pp + 2 + zt_d sg (sgn - 1) L F pp) acc = zt_v sg (sgn - 1) L F pp) ∧ (∀ j, pp + 2 ≤ j → j < q → ¬ sg j = 10)) (fun (⟨q, acc⟩ : Nat × Int64) => pp + 2 + zt_d sg (sgn - 1) L F pp - q) ⟨pp + 2, 0⟩ ⟨lv_sub hl [0, 1, 2, 3, 4, 5, 6, 7, 8] rfl, Nat.le_refl _, Nat.le_add_right _ _, rfl, fun j h1 h2 => absurd h2 (by omega)⟩ ?_
                      intro x ls hI ih274
                      obtain ⟨q, acc⟩ := x
                      obtain ⟨hl, hq0, hq1, hq2, hq3⟩ := hI
                      have hl : lv_has ls 10 [(9, .int (nI q)), (7, .long acc), (6, .int (nI (pp + 2 + zt_d sg (sgn - 1) L F pp))), (2, .int (nI (pp + 2))), (5, .int (zt_x sg pp)), (4, .int (zb (zt_two sg (sgn - 1) pp))), (3, .int (nI i)), (1, .int (nI (sgn - 1))), (0, .ref h)] := hl
                      try dsimp only at ih274
                      refine lv_iload hx hb dX7_takeApart_274 (lv_at hl 0 rfl) ?_
                      refine lv_iload hx hb dX7_takeApart_276 (lv_at hl 2 rfl) ?_
                      refine lv_icmp_ge (tgt := 319) hx hb dX7_takeApart_278 (by decide) (fun c278 => ?_) (fun c278 => ?_)
                      · have hgeq := zn_le c278 (by omega) (by omega)
                        have hqe : q = pp + 2 + zt_d sg (sgn - 1) L F pp := by omega
                        rw [hqe, zr_num_end] at hq2
                        have hokf : ¬ F (zt_k sg pp) = 0 → zt_okF sg (sgn - 1) (zt_len L (zt_k sg pp)) (pp + 2) := fun z => ⟨hdf z, by have e9 : zt_d sg (sgn - 1) L F pp = zt_len L (zt_k sg pp) := zi_f z; rw [← e9, zr_ns_none (by omega) (fun j h1 h2 => hq3 j h1 (by omega))]; omega⟩
                        rw [hq2] at hl
                        refine lv_aload_n hx hb dX7_takeApart_319 rfl (lv_at hl 8 rfl) ?_
                        refine va_get (D := (dC, dI)) (ci := 8) (v := .ref bpf) (C := RX7) (T := TX7) (N := 32) hx hb hts hinX7 hown hK hP 0 rfl rfl 20 (by decide) (hts (.fieldLink RX7 70 "ScanCodesModel" "prefixOf" "[I") (by decide +kernel)) (fun _ h9 => h9) rfl dX7_takeApart_320 ?_
                        refine lv_iload_n hx hb dX7_takeApart_323 rfl (lv_at hl 6 rfl) ?_
                        refine lv_iload hx hb dX7_takeApart_324 (lv_at hl 4 rfl) ?_
                        refine zc_iast hx hb hK hP hD hS 5 0 rfl rfl i rfl (by first | assumption | omega) (by decide) dX7_takeApart_326 (fun H locs hP hD hS => ?_)
                        have hP : va_P (dC, dI) vwCl [(h, .inr (8, [.int thr, .int (nI fm), .ref bL, .ref bF, .ref bS, .ref bN, .int (nI wc), .ref bwp, .ref bwg, .ref bwv, .int (nI mn), .ref bmo, .int (nI rn), .ref brd, .int (nI tn), .ref bty, .int mm, .int (nI sgn), .ref bsg, .int (nI 0), .ref bpf, .ref bpg, .ref bpv, .int (-1), .int (nI lb), .ref blF, .ref blP, .ref blD, .ref blN, .ref bwn, .int lat, .ref bla])), (bL, .inl (cI, 100, .inl L)), (bF, .inl (cZ, 100, .inl F)), (bN, .inl (cI, 100, .inl N)), (bsg, .inl (cI, 120, .inl sg)), (bpf, .inl (cI, 7, .inl (upd qp i (zt_x sg pp)))), (bpg, .inl (cI, 7, .inl qg)), (bpv, .inl (cJ, 7, .inr (.inl qv)))] H := hP
                        have hD : va_D A [(h, .inr (8, [.int thr, .int (nI fm), .ref bL, .ref bF, .ref bS, .ref bN, .int (nI wc), .ref bwp, .ref bwg, .ref bwv, .int (nI mn), .ref bmo, .int (nI rn), .ref brd, .int (nI tn), .ref bty, .int mm, .int (nI sgn), .ref bsg, .int (nI 0), .ref bpf, .ref bpg, .ref bpv, .int (-1), .int (nI lb), .ref blF, .ref blP, .ref blD, .ref blN, .ref bwn, .int lat, .ref bla])), (bL, .inl (cI, 100, .inl L)), (bF, .inl (cZ, 100, .inl F)), (bN, .inl (cI, 100, .inl N)), (bsg, .inl (cI, 120, .inl sg)), (bpf, .inl (cI, 7, .inl (upd qp i (zt_x sg pp)))), (bpg, .inl (cI, 7, .inl qg)), (bpv, .inl (cJ, 7, .inr (.inl qv)))] := hD
                        refine lv_aload_n hx hb dX7_takeApart_327 rfl (lv_at hl 8 rfl) ?_
                        refine va_get (D := (dC, dI)) (ci := 8) (v := .ref bpg) (C := RX7) (T := TX7) (N := 32) hx hb hts hinX7 hown hK hP 0 rfl rfl 21 (by decide) (hts (.fieldLink RX7 73 "ScanCodesModel" "digitsOf" "[I") (by decide +kernel)) (fun _ h9 => h9) rfl dX7_takeApart_328 ?_
                        refine lv_iload_n hx hb dX7_takeApart_331 rfl (lv_at hl 6 rfl) ?_
                        refine lv_iload hx hb dX7_takeApart_332 (lv_at hl 2 rfl) ?_
                        refine lv_iload_n hx hb dX7_takeApart_334 rfl (lv_at hl 3 rfl) ?_
                        refine lv_isub hx hb dX7_takeApart_335 ?_
                        refine zc_ti (y := nI (zt_d sg (sgn - 1) L F pp)) (by rw [pk_sub (by omega)]; congr 1; omega) ?_
                        refine zc_iast hx hb hK hP hD hS 6 0 rfl rfl i rfl (by first | assumption | omega) (by decide) dX7_takeApart_336 (fun H locs hP hD hS => ?_)
                        have hP : va_P (dC, dI) vwCl [(h, .inr (8, [.int thr, .int (nI fm), .ref bL, .ref bF, .ref bS, .ref bN, .int (nI wc), .ref bwp, .ref bwg, .ref bwv, .int (nI mn), .ref bmo, .int (nI rn), .ref brd, .int (nI tn), .ref bty, .int mm, .int (nI sgn), .ref bsg, .int (nI 0), .ref bpf, .ref bpg, .ref bpv, .int (-1), .int (nI lb), .ref blF, .ref blP, .ref blD, .ref blN, .ref bwn, .int lat, .ref bla])), (bL, .inl (cI, 100, .inl L)), (bF, .inl (cZ, 100, .inl F)), (bN, .inl (cI, 100, .inl N)), (bsg, .inl (cI, 120, .inl sg)), (bpf, .inl (cI, 7, .inl (upd qp i (zt_x sg pp)))), (bpg, .inl (cI, 7, .inl (upd qg i (nI (zt_d sg (sgn - 1) L F pp))))), (bpv, .inl (cJ, 7, .inr (.inl qv)))] H := hP
                        have hD : va_D A [(h, .inr (8, [.int thr, .int (nI fm), .ref bL, .ref bF, .ref bS, .ref bN, .int (nI wc), .ref bwp, .ref bwg, .ref bwv, .int (nI mn), .ref bmo, .int (nI rn), .ref brd, .int (nI tn), .ref bty, .int mm, .int (nI sgn), .ref bsg, .int (nI 0), .ref bpf, .ref bpg, .ref bpv, .int (-1), .int (nI lb), .ref blF, .ref blP, .ref blD, .ref blN, .ref bwn, .int lat, .ref bla])), (bL, .inl (cI, 100, .inl L)), (bF, .inl (cZ, 100, .inl F)), (bN, .inl (cI, 100, .inl N)), (bsg, .inl (cI, 120, .inl sg)), (bpf, .inl (cI, 7, .inl (upd qp i (zt_x sg pp)))), (bpg, .inl (cI, 7, .inl (upd qg i (nI (zt_d sg (sgn - 1) L F pp))))), (bpv, .inl (cJ, 7, .inr (.inl qv)))] := hD
                        refine lv_aload_n hx hb dX7_takeApart_337 rfl (lv_at hl 8 rfl) ?_
                        refine va_get (D := (dC, dI)) (ci := 8) (v := .ref bpv) (C := RX7) (T := TX7) (N := 32) hx hb hts hinX7 hown hK hP 0 rfl rfl 22 (by decide) (hts (.fieldLink RX7 76 "ScanCodesModel" "numberOf" "[J") (by decide +kernel)) (fun _ h9 => h9) rfl dX7_takeApart_338 ?_
                        refine lv_iload_n hx hb dX7_takeApart_341 rfl (lv_at hl 6 rfl) ?_
                        refine lv_lload hx hb dX7_takeApart_342 (lv_at hl 1 rfl) ?_
                        refine zc_last hx hb hK hP hD hS 7 2 rfl rfl i rfl (by first | assumption | omega) (by decide) dX7_takeApart_344 (fun H locs hP hD hS => ?_)
                        have hP : va_P (dC, dI) vwCl [(h, .inr (8, [.int thr, .int (nI fm), .ref bL, .ref bF, .ref bS, .ref bN, .int (nI wc), .ref bwp, .ref bwg, .ref bwv, .int (nI mn), .ref bmo, .int (nI rn), .ref brd, .int (nI tn), .ref bty, .int mm, .int (nI sgn), .ref bsg, .int (nI 0), .ref bpf, .ref bpg, .ref bpv, .int (-1), .int (nI lb), .ref blF, .ref blP, .ref blD, .ref blN, .ref bwn, .int lat, .ref bla])), (bL, .inl (cI, 100, .inl L)), (bF, .inl (cZ, 100, .inl F)), (bN, .inl (cI, 100, .inl N)), (bsg, .inl (cI, 120, .inl sg)), (bpf, .inl (cI, 7, .inl (upd qp i (zt_x sg pp)))), (bpg, .inl (cI, 7, .inl (upd qg i (nI (zt_d sg (sgn - 1) L F pp))))), (bpv, .inl (cJ, 7, .inr (.inl (vp_updL qv i (zt_v sg (sgn - 1) L F pp)))))] H := hP
                        have hD : va_D A [(h, .inr (8, [.int thr, .int (nI fm), .ref bL, .ref bF, .ref bS, .ref bN, .int (nI wc), .ref bwp, .ref bwg, .ref bwv, .int (nI mn), .ref bmo, .int (nI rn), .ref brd, .int (nI tn), .ref bty, .int mm, .int (nI sgn), .ref bsg, .int (nI 0), .ref bpf, .ref bpg, .ref bpv, .int (-1), .int (nI lb), .ref blF, .ref blP, .ref blD, .ref blN, .ref bwn, .int lat, .ref bla])), (bL, .inl (cI, 100, .inl L)), (bF, .inl (cZ, 100, .inl F)), (bN, .inl (cI, 100, .inl N)), (bsg, .inl (cI, 120, .inl sg)), (bpf, .inl (cI, 7, .inl (upd qp i (zt_x sg pp)))), (bpg, .inl (cI, 7, .inl (upd qg i (nI (zt_d sg (sgn - 1) L F pp))))), (bpv, .inl (cJ, 7, .inr (.inl (vp_updL qv i (zt_v sg (sgn - 1) L F pp)))))] := hD
                        refine lv_iinc (v := nI (i + 1)) (lv' := [(3, .int (nI (i + 1))), (9, .int (nI q)), (7, .long (zt_v sg (sgn - 1) L F pp)), (6, .int (nI (pp + 2 + zt_d sg (sgn - 1) L F pp))), (2, .int (nI (pp + 2))), (5, .int (zt_x sg pp)), (4, .int (zb (zt_two sg (sgn - 1) pp))), (1, .int (nI (sgn - 1))), (0, .ref h)]) hx hb dX7_takeApart_345 hl (k := 6) rfl (nI_1 i) (by decide) rfl (fun ls hl => ?_)
                        refine lv_iload hx hb dX7_takeApart_348 (lv_at hl 3 rfl) ?_
                        refine lv_istore_n (lv' := [(2, .int (nI (pp + 2 + zt_d sg (sgn - 1) L F pp))), (3, .int (nI (i + 1))), (9, .int (nI q)), (7, .long (zt_v sg (sgn - 1) L F pp)), (6, .int (nI (pp + 2 + zt_d sg (sgn - 1) L F pp))), (5, .int (zt_x sg pp)), (4, .int (zb (zt_two sg (sgn - 1) pp))), (1, .int (nI (sgn - 1))), (0, .ref h)]) hx hb dX7_takeApart_350 rfl hl (by decide) rfl (fun ls hl => ?_)
                        refine lv_aload_n hx hb dX7_takeApart_351 rfl (lv_at hl 8 rfl) ?_
                        refine va_get (D := (dC, dI)) (ci := 8) (v := .ref bF) (C := RX7) (T := TX7) (N := 32) hx hb hts hinX7 hown hK hP 0 rfl rfl 3 (by decide) (hts (.fieldLink RX7 17 "ScanCodesModel" "fixed" "[Z") (by decide +kernel)) (fun _ h9 => h9) rfl dX7_takeApart_352 ?_
                        refine lv_iload hx hb dX7_takeApart_355 (lv_at hl 5 rfl) ?_
                        refine zc_zald hx hb hK hP 2 1 rfl rfl (zt_k sg pp) hix.1 hix.2.1 (by decide) dX7_takeApart_357 ?_
                        refine lv_if_ne (tgt := 377) hx hb dX7_takeApart_358 (by decide) (fun c358 => ?_) (fun c358 => ?_)
                        · have hf := c358
                          have hok : zt_ok sg (sgn - 1) L F qp i pp := ⟨htw, hh, hnf, Or.inl ⟨hf, hokf hf⟩⟩
                          have hnp := zt_np_in hok
                          have hnpe : zt_np sg (sgn - 1) L F pp = pp + 2 + zt_d sg (sgn - 1) L F pp := by unfold zt_np; rw [zi_f hf, zt_d, zi_f hf]
                          rw [zi_t hok] at hi4
                          rw [← hnpe] at hl
                          refine lv_goto (tgt := 56) hx hb dX7_takeApart_377 (by decide) ?_
                          exact ih56 ⟨i + 1, zt_np sg (sgn - 1) L F pp, upd qp i (zt_x sg pp), upd qg i (nI (zt_d sg (sgn - 1) L F pp)), vp_updL qv i (zt_v sg (sgn - 1) L F pp)⟩ _ _ _ (by simp only []; omega) ⟨lv_sub hl [1, 0, 7, 8] rfl, by first | exact hP | exact hP.sub [0, 1, 2, 3, 4, 5, 6, 7] rfl, by first | exact hD, hS, by dsimp only; omega, hnp.2, fun j hj => by dsimp only at hj ⊢; by_cases q : j = i; rw [q, pk_us]; exact hok.2.1; rw [pk_un q]; exact hi3 j (by omega), by rw [← hi4, show 6 - (i + 1) = k2 by omega]⟩
                        · have hf := c358
                          have hd0 : zt_d sg (sgn - 1) L F pp = zr_ns sg (pp + 2) (sgn - 1) - (pp + 2) := zi_t hf
                          have hns := zr_ns_in sg (show pp + 2 ≤ sgn - 1 from htw.1)
                          refine lv_iload_n hx hb dX7_takeApart_361 rfl (lv_at hl 0 rfl) ?_
                          refine lv_iload_n hx hb dX7_takeApart_362 rfl (lv_at hl 7 rfl) ?_
                          refine lv_icmp_ge (tgt := 377) hx hb dX7_takeApart_363 (by decide) (fun c363 => ?_) (fun c363 => ?_)
                          · have hge3 := zn_le c363 (by omega) (by omega)
                            have hok : zt_ok sg (sgn - 1) L F qp i pp := ⟨htw, hh, hnf, Or.inr ⟨hf, ⟨hdl hf, by omega⟩⟩⟩
                            have hnp := zt_np_in hok
                            have hnpe : zt_np sg (sgn - 1) L F pp = pp + 2 + zt_d sg (sgn - 1) L F pp := by unfold zt_np zt_npL; rw [zi_t hf, zi_f (by omega)]; omega
                            rw [zi_t hok] at hi4
                            rw [← hnpe] at hl
                            refine lv_goto (tgt := 56) hx hb dX7_takeApart_377 (by decide) ?_
                            exact ih56 ⟨i + 1, zt_np sg (sgn - 1) L F pp, upd qp i (zt_x sg pp), upd qg i (nI (zt_d sg (sgn - 1) L F pp)), vp_updL qv i (zt_v sg (sgn - 1) L F pp)⟩ _ _ _ (by simp only []; omega) ⟨lv_sub hl [1, 0, 7, 8] rfl, by first | exact hP | exact hP.sub [0, 1, 2, 3, 4, 5, 6, 7] rfl, by first | exact hD, hS, by dsimp only; omega, hnp.2, fun j hj => by dsimp only at hj ⊢; by_cases q : j = i; rw [q, pk_us]; exact hok.2.1; rw [pk_un q]; exact hi3 j (by omega), by rw [← hi4, show 6 - (i + 1) = k2 by omega]⟩
                          · have hlt3 := zn_nle c363 (by omega) (by omega)
                            refine lv_iinc (v := nI (pp + 2 + zt_d sg (sgn - 1) L F pp + 1)) (lv' := [(2, .int (nI (pp + 2 + zt_d sg (sgn - 1) L F pp + 1))), (3, .int (nI (i + 1))), (9, .int (nI q)), (7, .long (zt_v sg (sgn - 1) L F pp)), (6, .int (nI (pp + 2 + zt_d sg (sgn - 1) L F pp))), (5, .int (zt_x sg pp)), (4, .int (zb (zt_two sg (sgn - 1) pp))), (1, .int (nI (sgn - 1))), (0, .ref h)]) hx hb dX7_takeApart_366 hl (k := 0) rfl ((nI_1 _)) (by decide) rfl (fun ls hl => ?_)
                            refine lv_iload_n hx hb dX7_takeApart_369 rfl (lv_at hl 0 rfl) ?_
                            refine lv_iload_n hx hb dX7_takeApart_370 rfl (lv_at hl 7 rfl) ?_
                            refine lv_icmp_ne (tgt := 377) hx hb dX7_takeApart_371 (by decide) (fun c371 => ?_) (fun c371 => ?_)
                            · have hne4 := zn_ne c371 (by omega) (by omega)
                              have hok : zt_ok sg (sgn - 1) L F qp i pp := ⟨htw, hh, hnf, Or.inr ⟨hf, ⟨hdl hf, by omega⟩⟩⟩
                              have hnp := zt_np_in hok
                              have hnpe : zt_np sg (sgn - 1) L F pp = pp + 2 + zt_d sg (sgn - 1) L F pp + 1 := by unfold zt_np zt_npL; rw [zi_t hf, zi_t (by omega)]; omega
                              rw [zi_t hok] at hi4
                              rw [← hnpe] at hl
                              refine lv_goto (tgt := 56) hx hb dX7_takeApart_377 (by decide) ?_
                              exact ih56 ⟨i + 1, zt_np sg (sgn - 1) L F pp, upd qp i (zt_x sg pp), upd qg i (nI (zt_d sg (sgn - 1) L F pp)), vp_updL qv i (zt_v sg (sgn - 1) L F pp)⟩ _ _ _ (by simp only []; omega) ⟨lv_sub hl [1, 0, 7, 8] rfl, by first | exact hP | exact hP.sub [0, 1, 2, 3, 4, 5, 6, 7] rfl, by first | exact hD, hS, by dsimp only; omega, hnp.2, fun j hj => by dsimp only at hj ⊢; by_cases q : j = i; rw [q, pk_us]; exact hok.2.1; rw [pk_un q]; exact hi3 j (by omega), by rw [← hi4, show 6 - (i + 1) = k2 by omega]⟩
                            · have heq4 := zn_eq c371 (by omega) (by omega)
                              have hok : ¬ zt_ok sg (sgn - 1) L F qp i pp := fun q => q.2.2.2.elim (fun z => z.1 hf) (fun z => z.2.2 (by omega))
                              rw [zi_f hok] at hi4
                              have hE : zt_err sg (sgn - 1) L F qp i pp = -6 := by unfold zt_err; rw [zi_t (P := zt_two sg (sgn - 1) pp ∧ zp_has L (zt_x sg pp) ∧ ¬ zf_has qp i (zt_x sg pp)) ⟨htw, hh, hnf⟩, zi_t hf]; exact zi_t (hdl hf)
                              have hFW : zt_fw sg sgn L F N pf pg pv = (zt_err sg (sgn - 1) L F qp i pp, i, qp, qg, qv, zi (zt_new sg (sgn - 1) L pp) (zt_x sg pp) (-1)) := by unfold zt_fw; rw [zi_f hp1, zi_t hp2]; rw [← hi4]; unfold zt_end; rw [zi_f zt_err_0]
                              rw [hE] at hFW
                              have hnw : zi (zt_new sg (sgn - 1) L pp) (zt_x sg pp) (-1) = -1 := zi_f (fun q => q.2 hh)
                              rw [hnw] at hFW
                              refine lv_bipush (v := (-6)) hx hb dX7_takeApart_374 (by decide) ?_
                              have hP9 : va_P (dC, dI) vwCl [(h, .inr (8, [.int thr, .int (nI fm), .ref bL, .ref bF, .ref bS, .ref bN, .int (nI wc), .ref bwp, .ref bwg, .ref bwv, .int (nI mn), .ref bmo, .int (nI rn), .ref brd, .int (nI tn), .ref bty, .int mm, .int (nI sgn), .ref bsg, .int (nI (zi (0 ≤ (zt_fw sg sgn L F N pf pg pv).1) (zt_fw sg sgn L F N pf pg pv).2.1 0)), .ref bpf, .ref bpg, .ref bpv, .int ((zt_fw sg sgn L F N pf pg pv).2.2.2.2.2), .int (nI lb), .ref blF, .ref blP, .ref blD, .ref blN, .ref bwn, .int lat, .ref bla])), (bL, .inl (cI, 100, .inl L)), (bF, .inl (cZ, 100, .inl F)), (bN, .inl (cI, 100, .inl N)), (bsg, .inl (cI, 120, .inl sg)), (bpf, .inl (cI, 7, .inl (upd qp i (zt_x sg pp)))), (bpg, .inl (cI, 7, .inl (upd qg i (nI (zt_d sg (sgn - 1) L F pp))))), (bpv, .inl (cJ, 7, .inr (.inl (vp_updL qv i (zt_v sg (sgn - 1) L F pp)))))] H := by rw [hFW]; dsimp only; (first | rw [zq1] | rw [zq2] | rw [zq3] | rw [zq4] | rw [zq5] | rw [zq6] | rw [zq7] | rw [zq0]); exact hP
                              have hD9 : va_D A [(h, .inr (8, [.int thr, .int (nI fm), .ref bL, .ref bF, .ref bS, .ref bN, .int (nI wc), .ref bwp, .ref bwg, .ref bwv, .int (nI mn), .ref bmo, .int (nI rn), .ref brd, .int (nI tn), .ref bty, .int mm, .int (nI sgn), .ref bsg, .int (nI (zi (0 ≤ (zt_fw sg sgn L F N pf pg pv).1) (zt_fw sg sgn L F N pf pg pv).2.1 0)), .ref bpf, .ref bpg, .ref bpv, .int ((zt_fw sg sgn L F N pf pg pv).2.2.2.2.2), .int (nI lb), .ref blF, .ref blP, .ref blD, .ref blN, .ref bwn, .int lat, .ref bla])), (bL, .inl (cI, 100, .inl L)), (bF, .inl (cZ, 100, .inl F)), (bN, .inl (cI, 100, .inl N)), (bsg, .inl (cI, 120, .inl sg)), (bpf, .inl (cI, 7, .inl (upd qp i (zt_x sg pp)))), (bpg, .inl (cI, 7, .inl (upd qg i (nI (zt_d sg (sgn - 1) L F pp))))), (bpv, .inl (cJ, 7, .inr (.inl (vp_updL qv i (zt_v sg (sgn - 1) L F pp)))))] := by rw [hFW]; dsimp only; (first | rw [zq1] | rw [zq2] | rw [zq3] | rw [zq4] | rw [zq5] | rw [zq6] | rw [zq7] | rw [zq0]); exact hD
                              have hpost : 0 ≤ (zt_fw sg sgn L F N pf pg pv).1 → (upd qp i (zt_x sg pp)) = (zt_fw sg sgn L F N pf pg pv).2.2.1 ∧ (upd qg i (nI (zt_d sg (sgn - 1) L F pp))) = (zt_fw sg sgn L F N pf pg pv).2.2.2.1 ∧ (vp_updL qv i (zt_v sg (sgn - 1) L F pp)) = (zt_fw sg sgn L F N pf pg pv).2.2.2.2.1 := by rw [hFW]; intro h9; dsimp only at h9; first | exact ⟨rfl, rfl, rfl⟩ | exact absurd h9 (by decide)
                              have hres : ((-6) : Int32) = zi (0 ≤ (zt_fw sg sgn L F N pf pg pv).1) (nI (zt_fw sg sgn L F N pf pg pv).2.1) (zt_fw sg sgn L F N pf pg pv).1 := by rw [hFW]; first | exact zq1.symm | exact zq2.symm | exact zq3.symm | exact zq4.symm | exact zq5.symm | exact zq6.symm | exact zq7.symm | exact zq0.symm
                              exact W.iret (v := (-6)) hx hb hr (fun t ht hW => ⟨⟨_, (upd qp i (zt_x sg pp), upd qg i (nI (zt_d sg (sgn - 1) L F pp)), vp_updL qv i (zt_v sg (sgn - 1) L F pp)), rfl, ⟨hres, hpost⟩, by rw [ht]; exact hP9, va_K.moved hW.alike hK, hD9⟩, hS.F ht⟩) hS.2.2 dX7_takeApart_376
                      · have hltq := zn_nle c278 (by omega) (by omega)
                        refine lv_aload_n hx hb dX7_takeApart_281 rfl (lv_at hl 8 rfl) ?_
                        refine va_get (D := (dC, dI)) (ci := 8) (v := .ref bsg) (C := RX7) (T := TX7) (N := 32) hx hb hts hinX7 hown hK hP 0 rfl rfl 18 (by decide) (hts (.fieldLink RX7 64 "ScanCodesModel" "sign" "[I") (by decide +kernel)) (fun _ h9 => h9) rfl dX7_takeApart_282 ?_
                        refine lv_iload hx hb dX7_takeApart_285 (lv_at hl 0 rfl) ?_
                        refine zc_iald hx hb hK hP 4 0 rfl rfl q rfl (by first | assumption | omega) (by decide) dX7_takeApart_287 ?_
                        refine lv_bipush (v := 10) hx hb dX7_takeApart_288 (by decide) ?_
                        refine lv_icmp_ne (tgt := 296) hx hb dX7_takeApart_290 (by decide) (fun c290 => ?_) (fun c290 => ?_)
                        · refine lv_ldc2 (v := 10) hx hb hown (hts (.constantLong RX7 132 10) (by decide +kernel)) dX7_takeApart_296 ?_
                          refine lv_lload hx hb dX7_takeApart_299 (lv_at hl 1 rfl) ?_
                          refine lv_lmul hx hb dX7_takeApart_301 ?_
                          refine lv_aload_n hx hb dX7_takeApart_302 rfl (lv_at hl 8 rfl) ?_
                          refine va_get (D := (dC, dI)) (ci := 8) (v := .ref bsg) (C := RX7) (T := TX7) (N := 32) hx hb hts hinX7 hown hK hP 0 rfl rfl 18 (by decide) (hts (.fieldLink RX7 64 "ScanCodesModel" "sign" "[I") (by decide +kernel)) (fun _ h9 => h9) rfl dX7_takeApart_303 ?_
                          refine lv_iload hx hb dX7_takeApart_306 (lv_at hl 0 rfl) ?_
                          refine zc_iald hx hb hK hP 4 0 rfl rfl q rfl (by first | assumption | omega) (by decide) dX7_takeApart_308 ?_
                          refine lv_i2l hx hb dX7_takeApart_309 rfl ?_
                          refine lv_ladd hx hb dX7_takeApart_310 ?_
                          refine zc_tl (y := acc * 10 + (sg q).toInt64) (by rw [Int64.mul_comm]) ?_
                          refine lv_lstore (lv' := [(7, .long (acc * 10 + (sg q).toInt64)), (9, .int (nI q)), (6, .int (nI (pp + 2 + zt_d sg (sgn - 1) L F pp))), (2, .int (nI (pp + 2))), (5, .int (zt_x sg pp)), (4, .int (zb (zt_two sg (sgn - 1) pp))), (3, .int (nI i)), (1, .int (nI (sgn - 1))), (0, .ref h)]) hx hb dX7_takeApart_311 hl (by decide) rfl (fun ls hl => ?_)
                          refine lv_iinc (v := nI (q + 1)) (lv' := [(9, .int (nI (q + 1))), (7, .long (acc * 10 + (sg q).toInt64)), (6, .int (nI (pp + 2 + zt_d sg (sgn - 1) L F pp))), (2, .int (nI (pp + 2))), (5, .int (zt_x sg pp)), (4, .int (zb (zt_two sg (sgn - 1) pp))), (3, .int (nI i)), (1, .int (nI (sgn - 1))), (0, .ref h)]) hx hb dX7_takeApart_313 hl (k := 1) rfl (nI_1 q) (by decide) rfl (fun ls hl => ?_)
                          refine lv_goto (tgt := 274) hx hb dX7_takeApart_316 (by decide) ?_
                          exact ih274 ⟨q + 1, acc * 10 + (sg q).toInt64⟩ _ (by simp only []; omega) ⟨lv_sub hl [0, 1, 2, 3, 4, 5, 6, 7, 8] rfl, by dsimp only; omega, hltq, by rw [← hq2, zr_num_step hltq], fun j h1 h2 => by dsimp only at h2; by_cases z : j = q; rw [z]; exact c290; exact hq3 j h1 (by omega)⟩
                        · have hF9 : ¬ F (zt_k sg pp) = 0 := fun z => by
                            have e9 : zt_d sg (sgn - 1) L F pp = zr_ns sg (pp + 2) (sgn - 1) - (pp + 2) := zi_t z
                            exact zr_ns_before hq0 (show q < zr_ns sg (pp + 2) (sgn - 1) from by have := (hdl z).1; omega) (by omega) c290
                          have e9 : zt_d sg (sgn - 1) L F pp = zt_len L (zt_k sg pp) := zi_f hF9
                          have hok : ¬ zt_ok sg (sgn - 1) L F qp i pp := fun q9 => q9.2.2.2.elim (fun z => z.2.2 (by have := zr_ns_some (e := pp + 2 + zt_len L (zt_k sg pp)) hq0 (by omega) c290; omega)) (fun z => hF9 z.1)
                          rw [zi_f hok] at hi4
                          have hE : zt_err sg (sgn - 1) L F qp i pp = -6 := by unfold zt_err; rw [zi_t (P := zt_two sg (sgn - 1) pp ∧ zp_has L (zt_x sg pp) ∧ ¬ zf_has qp i (zt_x sg pp)) ⟨htw, hh, hnf⟩, zi_f hF9]; exact zi_f (hdf hF9)
                          have hFW : zt_fw sg sgn L F N pf pg pv = (zt_err sg (sgn - 1) L F qp i pp, i, qp, qg, qv, zi (zt_new sg (sgn - 1) L pp) (zt_x sg pp) (-1)) := by unfold zt_fw; rw [zi_f hp1, zi_t hp2]; rw [← hi4]; unfold zt_end; rw [zi_f zt_err_0]
                          rw [hE] at hFW
                          have hnw : zi (zt_new sg (sgn - 1) L pp) (zt_x sg pp) (-1) = -1 := zi_f (fun q => q.2 hh)
                          rw [hnw] at hFW
                          refine lv_bipush (v := (-6)) hx hb dX7_takeApart_293 (by decide) ?_
                          have hP9 : va_P (dC, dI) vwCl [(h, .inr (8, [.int thr, .int (nI fm), .ref bL, .ref bF, .ref bS, .ref bN, .int (nI wc), .ref bwp, .ref bwg, .ref bwv, .int (nI mn), .ref bmo, .int (nI rn), .ref brd, .int (nI tn), .ref bty, .int mm, .int (nI sgn), .ref bsg, .int (nI (zi (0 ≤ (zt_fw sg sgn L F N pf pg pv).1) (zt_fw sg sgn L F N pf pg pv).2.1 0)), .ref bpf, .ref bpg, .ref bpv, .int ((zt_fw sg sgn L F N pf pg pv).2.2.2.2.2), .int (nI lb), .ref blF, .ref blP, .ref blD, .ref blN, .ref bwn, .int lat, .ref bla])), (bL, .inl (cI, 100, .inl L)), (bF, .inl (cZ, 100, .inl F)), (bN, .inl (cI, 100, .inl N)), (bsg, .inl (cI, 120, .inl sg)), (bpf, .inl (cI, 7, .inl qp)), (bpg, .inl (cI, 7, .inl qg)), (bpv, .inl (cJ, 7, .inr (.inl qv)))] H := by rw [hFW]; dsimp only; (first | rw [zq1] | rw [zq2] | rw [zq3] | rw [zq4] | rw [zq5] | rw [zq6] | rw [zq7] | rw [zq0]); exact hP
                          have hD9 : va_D A [(h, .inr (8, [.int thr, .int (nI fm), .ref bL, .ref bF, .ref bS, .ref bN, .int (nI wc), .ref bwp, .ref bwg, .ref bwv, .int (nI mn), .ref bmo, .int (nI rn), .ref brd, .int (nI tn), .ref bty, .int mm, .int (nI sgn), .ref bsg, .int (nI (zi (0 ≤ (zt_fw sg sgn L F N pf pg pv).1) (zt_fw sg sgn L F N pf pg pv).2.1 0)), .ref bpf, .ref bpg, .ref bpv, .int ((zt_fw sg sgn L F N pf pg pv).2.2.2.2.2), .int (nI lb), .ref blF, .ref blP, .ref blD, .ref blN, .ref bwn, .int lat, .ref bla])), (bL, .inl (cI, 100, .inl L)), (bF, .inl (cZ, 100, .inl F)), (bN, .inl (cI, 100, .inl N)), (bsg, .inl (cI, 120, .inl sg)), (bpf, .inl (cI, 7, .inl qp)), (bpg, .inl (cI, 7, .inl qg)), (bpv, .inl (cJ, 7, .inr (.inl qv)))] := by rw [hFW]; dsimp only; (first | rw [zq1] | rw [zq2] | rw [zq3] | rw [zq4] | rw [zq5] | rw [zq6] | rw [zq7] | rw [zq0]); exact hD
                          have hpost : 0 ≤ (zt_fw sg sgn L F N pf pg pv).1 → qp = (zt_fw sg sgn L F N pf pg pv).2.2.1 ∧ qg = (zt_fw sg sgn L F N pf pg pv).2.2.2.1 ∧ qv = (zt_fw sg sgn L F N pf pg pv).2.2.2.2.1 := by rw [hFW]; intro h9; dsimp only at h9; first | exact ⟨rfl, rfl, rfl⟩ | exact absurd h9 (by decide)
                          have hres : ((-6) : Int32) = zi (0 ≤ (zt_fw sg sgn L F N pf pg pv).1) (nI (zt_fw sg sgn L F N pf pg pv).2.1) (zt_fw sg sgn L F N pf pg pv).1 := by rw [hFW]; first | exact zq1.symm | exact zq2.symm | exact zq3.symm | exact zq4.symm | exact zq5.symm | exact zq6.symm | exact zq7.symm | exact zq0.symm
                          exact W.iret (v := (-6)) hx hb hr (fun t ht hW => ⟨⟨_, (qp, qg, qv), rfl, ⟨hres, hpost⟩, by rw [ht]; exact hP9, va_K.moved hW.alike hK, hD9⟩, hS.F ht⟩) hS.2.2 dX7_takeApart_295
                    · refine lv_aload_n hx hb dX7_takeApart_191 rfl (lv_at hl 6 rfl) ?_
                      refine va_get (D := (dC, dI)) (ci := 8) (v := .ref bF) (C := RX7) (T := TX7) (N := 32) hx hb hts hinX7 hown hK hP 0 rfl rfl 3 (by decide) (hts (.fieldLink RX7 17 "ScanCodesModel" "fixed" "[Z") (by decide +kernel)) (fun _ h9 => h9) rfl dX7_takeApart_192 ?_
                      refine lv_iload hx hb dX7_takeApart_195 (lv_at hl 2 rfl) ?_
                      refine zc_zald hx hb hK hP 2 1 rfl rfl (zt_k sg pp) hix.1 hix.2.1 (by decide) dX7_takeApart_197 ?_
                      refine lv_if_eq (tgt := 221) hx hb dX7_takeApart_198 (by decide) (fun c198 => ?_) (fun c198 => ?_)
                      · have hd0 : zt_d sg (sgn - 1) L F pp = zr_ns sg (pp + 2) (sgn - 1) - (pp + 2) := zi_t c198
                        have hns := zr_ns_in sg htw.1
                        refine zc_loop (α := Nat) (fun q ls => lv_has ls 10 [(6, .int (nI q)), (2, .int (nI (pp + 2))), (5, .int (zt_x sg pp)), (4, .int (zb (zt_two sg (sgn - 1) pp))), (3, .int (nI i)), (1, .int (nI (sgn - 1))), (0, .ref h)] ∧ (pp + 2 ≤ q) ∧ (q ≤ sgn - 1) ∧ (zr_ns sg q (sgn - 1) = zr_ns sg (pp + 2) (sgn - 1))) (fun q => sgn - 1 - q) (pp + 2) ⟨lv_sub hl [0, 1, 2, 3, 4, 5, 6] rfl, Nat.le_refl _, htw.1, rfl⟩ ?_
                        intro x ls hI ih221
                        obtain ⟨q, rfl⟩ : ∃ z, z = x := ⟨_, rfl⟩
                        obtain ⟨hl, hq0, hq1, hq2⟩ := hI
                        have hl : lv_has ls 10 [(6, .int (nI q)), (2, .int (nI (pp + 2))), (5, .int (zt_x sg pp)), (4, .int (zb (zt_two sg (sgn - 1) pp))), (3, .int (nI i)), (1, .int (nI (sgn - 1))), (0, .ref h)] := hl
                        try dsimp only at ih221
                        refine lv_iload hx hb dX7_takeApart_221 (lv_at hl 0 rfl) ?_
                        refine lv_iload_n hx hb dX7_takeApart_223 rfl (lv_at hl 5 rfl) ?_
                        refine lv_icmp_ge (tgt := 245) hx hb dX7_takeApart_224 (by decide) (fun c224 => ?_) (fun c224 => ?_)
                        · have hgeq := zn_le c224 (by omega) (by omega)
                          have hqn : q = zr_ns sg (pp + 2) (sgn - 1) := by rw [← hq2, show q = sgn - 1 by omega, zr_ns_end]
                          refine lv_iload hx hb dX7_takeApart_245 (lv_at hl 0 rfl) ?_
                          refine lv_iload_n hx hb dX7_takeApart_247 rfl (lv_at hl 1 rfl) ?_
                          refine lv_icmp_eq (tgt := 265) hx hb dX7_takeApart_248 (by decide) (fun c248 => ?_) (fun c248 => ?_)
                          · have heq5 := zn_eq c248 (by omega) (by omega)
                            have hok : ¬ zt_ok sg (sgn - 1) L F qp i pp := fun q9 => q9.2.2.2.elim (fun z => z.1 c198) (fun z => by have := z.2.1; omega)
                            rw [zi_f hok] at hi4
                            have hE : zt_err sg (sgn - 1) L F qp i pp = -5 := by unfold zt_err; rw [zi_t (P := zt_two sg (sgn - 1) pp ∧ zp_has L (zt_x sg pp) ∧ ¬ zf_has qp i (zt_x sg pp)) ⟨htw, hh, hnf⟩, zi_t c198]; exact zi_f (fun z => by have := z.1; omega)
                            have hFW : zt_fw sg sgn L F N pf pg pv = (zt_err sg (sgn - 1) L F qp i pp, i, qp, qg, qv, zi (zt_new sg (sgn - 1) L pp) (zt_x sg pp) (-1)) := by unfold zt_fw; rw [zi_f hp1, zi_t hp2]; rw [← hi4]; unfold zt_end; rw [zi_f zt_err_0]
                            rw [hE] at hFW
                            have hnw : zi (zt_new sg (sgn - 1) L pp) (zt_x sg pp) (-1) = -1 := zi_f (fun q => q.2 hh)
                            rw [hnw] at hFW
                            refine lv_bipush (v := (-5)) hx hb dX7_takeApart_265 (by decide) ?_
                            have hP9 : va_P (dC, dI) vwCl [(h, .inr (8, [.int thr, .int (nI fm), .ref bL, .ref bF, .ref bS, .ref bN, .int (nI wc), .ref bwp, .ref bwg, .ref bwv, .int (nI mn), .ref bmo, .int (nI rn), .ref brd, .int (nI tn), .ref bty, .int mm, .int (nI sgn), .ref bsg, .int (nI (zi (0 ≤ (zt_fw sg sgn L F N pf pg pv).1) (zt_fw sg sgn L F N pf pg pv).2.1 0)), .ref bpf, .ref bpg, .ref bpv, .int ((zt_fw sg sgn L F N pf pg pv).2.2.2.2.2), .int (nI lb), .ref blF, .ref blP, .ref blD, .ref blN, .ref bwn, .int lat, .ref bla])), (bL, .inl (cI, 100, .inl L)), (bF, .inl (cZ, 100, .inl F)), (bN, .inl (cI, 100, .inl N)), (bsg, .inl (cI, 120, .inl sg)), (bpf, .inl (cI, 7, .inl qp)), (bpg, .inl (cI, 7, .inl qg)), (bpv, .inl (cJ, 7, .inr (.inl qv)))] H := by rw [hFW]; dsimp only; (first | rw [zq1] | rw [zq2] | rw [zq3] | rw [zq4] | rw [zq5] | rw [zq6] | rw [zq7] | rw [zq0]); exact hP
                            have hD9 : va_D A [(h, .inr (8, [.int thr, .int (nI fm), .ref bL, .ref bF, .ref bS, .ref bN, .int (nI wc), .ref bwp, .ref bwg, .ref bwv, .int (nI mn), .ref bmo, .int (nI rn), .ref brd, .int (nI tn), .ref bty, .int mm, .int (nI sgn), .ref bsg, .int (nI (zi (0 ≤ (zt_fw sg sgn L F N pf pg pv).1) (zt_fw sg sgn L F N pf pg pv).2.1 0)), .ref bpf, .ref bpg, .ref bpv, .int ((zt_fw sg sgn L F N pf pg pv).2.2.2.2.2), .int (nI lb), .ref blF, .ref blP, .ref blD, .ref blN, .ref bwn, .int lat, .ref bla])), (bL, .inl (cI, 100, .inl L)), (bF, .inl (cZ, 100, .inl F)), (bN, .inl (cI, 100, .inl N)), (bsg, .inl (cI, 120, .inl sg)), (bpf, .inl (cI, 7, .inl qp)), (bpg, .inl (cI, 7, .inl qg)), (bpv, .inl (cJ, 7, .inr (.inl qv)))] := by rw [hFW]; dsimp only; (first | rw [zq1] | rw [zq2] | rw [zq3] | rw [zq4] | rw [zq5] | rw [zq6] | rw [zq7] | rw [zq0]); exact hD
                            have hpost : 0 ≤ (zt_fw sg sgn L F N pf pg pv).1 → qp = (zt_fw sg sgn L F N pf pg pv).2.2.1 ∧ qg = (zt_fw sg sgn L F N pf pg pv).2.2.2.1 ∧ qv = (zt_fw sg sgn L F N pf pg pv).2.2.2.2.1 := by rw [hFW]; intro h9; dsimp only at h9; first | exact ⟨rfl, rfl, rfl⟩ | exact absurd h9 (by decide)
                            have hres : ((-5) : Int32) = zi (0 ≤ (zt_fw sg sgn L F N pf pg pv).1) (nI (zt_fw sg sgn L F N pf pg pv).2.1) (zt_fw sg sgn L F N pf pg pv).1 := by rw [hFW]; first | exact zq1.symm | exact zq2.symm | exact zq3.symm | exact zq4.symm | exact zq5.symm | exact zq6.symm | exact zq7.symm | exact zq0.symm
                            exact W.iret (v := (-5)) hx hb hr (fun t ht hW => ⟨⟨_, (qp, qg, qv), rfl, ⟨hres, hpost⟩, by rw [ht]; exact hP9, va_K.moved hW.alike hK, hD9⟩, hS.F ht⟩) hS.2.2 dX7_takeApart_267
                          · have hne5 := zn_ne c248 (by omega) (by omega)
                            refine lv_iload hx hb dX7_takeApart_251 (lv_at hl 0 rfl) ?_
                            refine lv_iload_n hx hb dX7_takeApart_253 rfl (lv_at hl 1 rfl) ?_
                            refine lv_isub hx hb dX7_takeApart_254 ?_
                            refine zc_ti (y := nI (q - (pp + 2))) (pk_sub hq0) ?_
                            refine lv_aload_n hx hb dX7_takeApart_255 rfl (lv_at hl 6 rfl) ?_
                            refine va_get (D := (dC, dI)) (ci := 8) (v := .ref bL) (C := RX7) (T := TX7) (N := 32) hx hb hts hinX7 hown hK hP 0 rfl rfl 2 (by decide) (hts (.fieldLink RX7 13 "ScanCodesModel" "length" "[I") (by decide +kernel)) (fun _ h9 => h9) rfl dX7_takeApart_256 ?_
                            refine lv_iload hx hb dX7_takeApart_259 (lv_at hl 2 rfl) ?_
                            refine zc_iald hx hb hK hP 1 0 rfl rfl (zt_k sg pp) hix.1 hix.2.1 (by decide) dX7_takeApart_261 ?_
                            refine zc_ti (y := nI (zt_len L (zt_k sg pp))) (hLk.1) ?_
                            refine lv_icmp_le (tgt := 268) hx hb dX7_takeApart_262 (by decide) (fun c262 => ?_) (fun c262 => ?_)
                            · have hle5 := zn_le c262 (by omega) (by omega)
                              have hqd : q = pp + 2 + zt_d sg (sgn - 1) L F pp := by omega
                              rw [hqd] at hl
                              exact J268 _ ⟨lv_sub hl [0, 1, 2, 3, 4, 5, 6] rfl, (by omega), fun _ => ⟨by omega, by omega⟩, fun q => absurd c198 q⟩
                            · have hgt5 := zn_nle c262 (by omega) (by omega)
                              have hok : ¬ zt_ok sg (sgn - 1) L F qp i pp := fun q9 => q9.2.2.2.elim (fun z => z.1 c198) (fun z => by have := z.2.1; omega)
                              rw [zi_f hok] at hi4
                              have hE : zt_err sg (sgn - 1) L F qp i pp = -5 := by unfold zt_err; rw [zi_t (P := zt_two sg (sgn - 1) pp ∧ zp_has L (zt_x sg pp) ∧ ¬ zf_has qp i (zt_x sg pp)) ⟨htw, hh, hnf⟩, zi_t c198]; exact zi_f (fun z => by have := z.2; omega)
                              have hFW : zt_fw sg sgn L F N pf pg pv = (zt_err sg (sgn - 1) L F qp i pp, i, qp, qg, qv, zi (zt_new sg (sgn - 1) L pp) (zt_x sg pp) (-1)) := by unfold zt_fw; rw [zi_f hp1, zi_t hp2]; rw [← hi4]; unfold zt_end; rw [zi_f zt_err_0]
                              rw [hE] at hFW
                              have hnw : zi (zt_new sg (sgn - 1) L pp) (zt_x sg pp) (-1) = -1 := zi_f (fun q => q.2 hh)
                              rw [hnw] at hFW
                              refine lv_bipush (v := (-5)) hx hb dX7_takeApart_265 (by decide) ?_
                              have hP9 : va_P (dC, dI) vwCl [(h, .inr (8, [.int thr, .int (nI fm), .ref bL, .ref bF, .ref bS, .ref bN, .int (nI wc), .ref bwp, .ref bwg, .ref bwv, .int (nI mn), .ref bmo, .int (nI rn), .ref brd, .int (nI tn), .ref bty, .int mm, .int (nI sgn), .ref bsg, .int (nI (zi (0 ≤ (zt_fw sg sgn L F N pf pg pv).1) (zt_fw sg sgn L F N pf pg pv).2.1 0)), .ref bpf, .ref bpg, .ref bpv, .int ((zt_fw sg sgn L F N pf pg pv).2.2.2.2.2), .int (nI lb), .ref blF, .ref blP, .ref blD, .ref blN, .ref bwn, .int lat, .ref bla])), (bL, .inl (cI, 100, .inl L)), (bF, .inl (cZ, 100, .inl F)), (bN, .inl (cI, 100, .inl N)), (bsg, .inl (cI, 120, .inl sg)), (bpf, .inl (cI, 7, .inl qp)), (bpg, .inl (cI, 7, .inl qg)), (bpv, .inl (cJ, 7, .inr (.inl qv)))] H := by rw [hFW]; dsimp only; (first | rw [zq1] | rw [zq2] | rw [zq3] | rw [zq4] | rw [zq5] | rw [zq6] | rw [zq7] | rw [zq0]); exact hP
                              have hD9 : va_D A [(h, .inr (8, [.int thr, .int (nI fm), .ref bL, .ref bF, .ref bS, .ref bN, .int (nI wc), .ref bwp, .ref bwg, .ref bwv, .int (nI mn), .ref bmo, .int (nI rn), .ref brd, .int (nI tn), .ref bty, .int mm, .int (nI sgn), .ref bsg, .int (nI (zi (0 ≤ (zt_fw sg sgn L F N pf pg pv).1) (zt_fw sg sgn L F N pf pg pv).2.1 0)), .ref bpf, .ref bpg, .ref bpv, .int ((zt_fw sg sgn L F N pf pg pv).2.2.2.2.2), .int (nI lb), .ref blF, .ref blP, .ref blD, .ref blN, .ref bwn, .int lat, .ref bla])), (bL, .inl (cI, 100, .inl L)), (bF, .inl (cZ, 100, .inl F)), (bN, .inl (cI, 100, .inl N)), (bsg, .inl (cI, 120, .inl sg)), (bpf, .inl (cI, 7, .inl qp)), (bpg, .inl (cI, 7, .inl qg)), (bpv, .inl (cJ, 7, .inr (.inl qv)))] := by rw [hFW]; dsimp only; (first | rw [zq1] | rw [zq2] | rw [zq3] | rw [zq4] | rw [zq5] | rw [zq6] | rw [zq7] | rw [zq0]); exact hD
                              have hpost : 0 ≤ (zt_fw sg sgn L F N pf pg pv).1 → qp = (zt_fw sg sgn L F N pf pg pv).2.2.1 ∧ qg = (zt_fw sg sgn L F N pf pg pv).2.2.2.1 ∧ qv = (zt_fw sg sgn L F N pf pg pv).2.2.2.2.1 := by rw [hFW]; intro h9; dsimp only at h9; first | exact ⟨rfl, rfl, rfl⟩ | exact absurd h9 (by decide)
                              have hres : ((-5) : Int32) = zi (0 ≤ (zt_fw sg sgn L F N pf pg pv).1) (nI (zt_fw sg sgn L F N pf pg pv).2.1) (zt_fw sg sgn L F N pf pg pv).1 := by rw [hFW]; first | exact zq1.symm | exact zq2.symm | exact zq3.symm | exact zq4.symm | exact zq5.symm | exact zq6.symm | exact zq7.symm | exact zq0.symm
                              exact W.iret (v := (-5)) hx hb hr (fun t ht hW => ⟨⟨_, (qp, qg, qv), rfl, ⟨hres, hpost⟩, by rw [ht]; exact hP9, va_K.moved hW.alike hK, hD9⟩, hS.F ht⟩) hS.2.2 dX7_takeApart_267
                        · have hltq := zn_nle c224 (by omega) (by omega)
                          refine lv_aload_n hx hb dX7_takeApart_227 rfl (lv_at hl 6 rfl) ?_
                          refine va_get (D := (dC, dI)) (ci := 8) (v := .ref bsg) (C := RX7) (T := TX7) (N := 32) hx hb hts hinX7 hown hK hP 0 rfl rfl 18 (by decide) (hts (.fieldLink RX7 64 "ScanCodesModel" "sign" "[I") (by decide +kernel)) (fun _ h9 => h9) rfl dX7_takeApart_228 ?_
                          refine lv_iload hx hb dX7_takeApart_231 (lv_at hl 0 rfl) ?_
                          refine zc_iald hx hb hK hP 4 0 rfl rfl q rfl (by first | assumption | omega) (by decide) dX7_takeApart_233 ?_
                          refine lv_bipush (v := 10) hx hb dX7_takeApart_234 (by decide) ?_
                          refine lv_icmp_eq (tgt := 245) hx hb dX7_takeApart_236 (by decide) (fun c236 => ?_) (fun c236 => ?_)
                          · have hqn : q = zr_ns sg (pp + 2) (sgn - 1) := by rw [← hq2, zr_ns_step hltq, if_pos c236]
                            refine lv_iload hx hb dX7_takeApart_245 (lv_at hl 0 rfl) ?_
                            refine lv_iload_n hx hb dX7_takeApart_247 rfl (lv_at hl 1 rfl) ?_
                            refine lv_icmp_eq (tgt := 265) hx hb dX7_takeApart_248 (by decide) (fun c248 => ?_) (fun c248 => ?_)
                            · have heq5 := zn_eq c248 (by omega) (by omega)
                              have hok : ¬ zt_ok sg (sgn - 1) L F qp i pp := fun q9 => q9.2.2.2.elim (fun z => z.1 c198) (fun z => by have := z.2.1; omega)
                              rw [zi_f hok] at hi4
                              have hE : zt_err sg (sgn - 1) L F qp i pp = -5 := by unfold zt_err; rw [zi_t (P := zt_two sg (sgn - 1) pp ∧ zp_has L (zt_x sg pp) ∧ ¬ zf_has qp i (zt_x sg pp)) ⟨htw, hh, hnf⟩, zi_t c198]; exact zi_f (fun z => by have := z.1; omega)
                              have hFW : zt_fw sg sgn L F N pf pg pv = (zt_err sg (sgn - 1) L F qp i pp, i, qp, qg, qv, zi (zt_new sg (sgn - 1) L pp) (zt_x sg pp) (-1)) := by unfold zt_fw; rw [zi_f hp1, zi_t hp2]; rw [← hi4]; unfold zt_end; rw [zi_f zt_err_0]
                              rw [hE] at hFW
                              have hnw : zi (zt_new sg (sgn - 1) L pp) (zt_x sg pp) (-1) = -1 := zi_f (fun q => q.2 hh)
                              rw [hnw] at hFW
                              refine lv_bipush (v := (-5)) hx hb dX7_takeApart_265 (by decide) ?_
                              have hP9 : va_P (dC, dI) vwCl [(h, .inr (8, [.int thr, .int (nI fm), .ref bL, .ref bF, .ref bS, .ref bN, .int (nI wc), .ref bwp, .ref bwg, .ref bwv, .int (nI mn), .ref bmo, .int (nI rn), .ref brd, .int (nI tn), .ref bty, .int mm, .int (nI sgn), .ref bsg, .int (nI (zi (0 ≤ (zt_fw sg sgn L F N pf pg pv).1) (zt_fw sg sgn L F N pf pg pv).2.1 0)), .ref bpf, .ref bpg, .ref bpv, .int ((zt_fw sg sgn L F N pf pg pv).2.2.2.2.2), .int (nI lb), .ref blF, .ref blP, .ref blD, .ref blN, .ref bwn, .int lat, .ref bla])), (bL, .inl (cI, 100, .inl L)), (bF, .inl (cZ, 100, .inl F)), (bN, .inl (cI, 100, .inl N)), (bsg, .inl (cI, 120, .inl sg)), (bpf, .inl (cI, 7, .inl qp)), (bpg, .inl (cI, 7, .inl qg)), (bpv, .inl (cJ, 7, .inr (.inl qv)))] H := by rw [hFW]; dsimp only; (first | rw [zq1] | rw [zq2] | rw [zq3] | rw [zq4] | rw [zq5] | rw [zq6] | rw [zq7] | rw [zq0]); exact hP
                              have hD9 : va_D A [(h, .inr (8, [.int thr, .int (nI fm), .ref bL, .ref bF, .ref bS, .ref bN, .int (nI wc), .ref bwp, .ref bwg, .ref bwv, .int (nI mn), .ref bmo, .int (nI rn), .ref brd, .int (nI tn), .ref bty, .int mm, .int (nI sgn), .ref bsg, .int (nI (zi (0 ≤ (zt_fw sg sgn L F N pf pg pv).1) (zt_fw sg sgn L F N pf pg pv).2.1 0)), .ref bpf, .ref bpg, .ref bpv, .int ((zt_fw sg sgn L F N pf pg pv).2.2.2.2.2), .int (nI lb), .ref blF, .ref blP, .ref blD, .ref blN, .ref bwn, .int lat, .ref bla])), (bL, .inl (cI, 100, .inl L)), (bF, .inl (cZ, 100, .inl F)), (bN, .inl (cI, 100, .inl N)), (bsg, .inl (cI, 120, .inl sg)), (bpf, .inl (cI, 7, .inl qp)), (bpg, .inl (cI, 7, .inl qg)), (bpv, .inl (cJ, 7, .inr (.inl qv)))] := by rw [hFW]; dsimp only; (first | rw [zq1] | rw [zq2] | rw [zq3] | rw [zq4] | rw [zq5] | rw [zq6] | rw [zq7] | rw [zq0]); exact hD
                              have hpost : 0 ≤ (zt_fw sg sgn L F N pf pg pv).1 → qp = (zt_fw sg sgn L F N pf pg pv).2.2.1 ∧ qg = (zt_fw sg sgn L F N pf pg pv).2.2.2.1 ∧ qv = (zt_fw sg sgn L F N pf pg pv).2.2.2.2.1 := by rw [hFW]; intro h9; dsimp only at h9; first | exact ⟨rfl, rfl, rfl⟩ | exact absurd h9 (by decide)
                              have hres : ((-5) : Int32) = zi (0 ≤ (zt_fw sg sgn L F N pf pg pv).1) (nI (zt_fw sg sgn L F N pf pg pv).2.1) (zt_fw sg sgn L F N pf pg pv).1 := by rw [hFW]; first | exact zq1.symm | exact zq2.symm | exact zq3.symm | exact zq4.symm | exact zq5.symm | exact zq6.symm | exact zq7.symm | exact zq0.symm
                              exact W.iret (v := (-5)) hx hb hr (fun t ht hW => ⟨⟨_, (qp, qg, qv), rfl, ⟨hres, hpost⟩, by rw [ht]; exact hP9, va_K.moved hW.alike hK, hD9⟩, hS.F ht⟩) hS.2.2 dX7_takeApart_267
                            · have hne5 := zn_ne c248 (by omega) (by omega)
                              refine lv_iload hx hb dX7_takeApart_251 (lv_at hl 0 rfl) ?_
                              refine lv_iload_n hx hb dX7_takeApart_253 rfl (lv_at hl 1 rfl) ?_
                              refine lv_isub hx hb dX7_takeApart_254 ?_
                              refine zc_ti (y := nI (q - (pp + 2))) (pk_sub hq0) ?_
                              refine lv_aload_n hx hb dX7_takeApart_255 rfl (lv_at hl 6 rfl) ?_
                              refine va_get (D := (dC, dI)) (ci := 8) (v := .ref bL) (C := RX7) (T := TX7) (N := 32) hx hb hts hinX7 hown hK hP 0 rfl rfl 2 (by decide) (hts (.fieldLink RX7 13 "ScanCodesModel" "length" "[I") (by decide +kernel)) (fun _ h9 => h9) rfl dX7_takeApart_256 ?_
                              refine lv_iload hx hb dX7_takeApart_259 (lv_at hl 2 rfl) ?_
                              refine zc_iald hx hb hK hP 1 0 rfl rfl (zt_k sg pp) hix.1 hix.2.1 (by decide) dX7_takeApart_261 ?_
                              refine zc_ti (y := nI (zt_len L (zt_k sg pp))) (hLk.1) ?_
                              refine lv_icmp_le (tgt := 268) hx hb dX7_takeApart_262 (by decide) (fun c262 => ?_) (fun c262 => ?_)
                              · have hle5 := zn_le c262 (by omega) (by omega)
                                have hqd : q = pp + 2 + zt_d sg (sgn - 1) L F pp := by omega
                                rw [hqd] at hl
                                exact J268 _ ⟨lv_sub hl [0, 1, 2, 3, 4, 5, 6] rfl, (by omega), fun _ => ⟨by omega, by omega⟩, fun q => absurd c198 q⟩
                              · have hgt5 := zn_nle c262 (by omega) (by omega)
                                have hok : ¬ zt_ok sg (sgn - 1) L F qp i pp := fun q9 => q9.2.2.2.elim (fun z => z.1 c198) (fun z => by have := z.2.1; omega)
                                rw [zi_f hok] at hi4
                                have hE : zt_err sg (sgn - 1) L F qp i pp = -5 := by unfold zt_err; rw [zi_t (P := zt_two sg (sgn - 1) pp ∧ zp_has L (zt_x sg pp) ∧ ¬ zf_has qp i (zt_x sg pp)) ⟨htw, hh, hnf⟩, zi_t c198]; exact zi_f (fun z => by have := z.2; omega)
                                have hFW : zt_fw sg sgn L F N pf pg pv = (zt_err sg (sgn - 1) L F qp i pp, i, qp, qg, qv, zi (zt_new sg (sgn - 1) L pp) (zt_x sg pp) (-1)) := by unfold zt_fw; rw [zi_f hp1, zi_t hp2]; rw [← hi4]; unfold zt_end; rw [zi_f zt_err_0]
                                rw [hE] at hFW
                                have hnw : zi (zt_new sg (sgn - 1) L pp) (zt_x sg pp) (-1) = -1 := zi_f (fun q => q.2 hh)
                                rw [hnw] at hFW
                                refine lv_bipush (v := (-5)) hx hb dX7_takeApart_265 (by decide) ?_
                                have hP9 : va_P (dC, dI) vwCl [(h, .inr (8, [.int thr, .int (nI fm), .ref bL, .ref bF, .ref bS, .ref bN, .int (nI wc), .ref bwp, .ref bwg, .ref bwv, .int (nI mn), .ref bmo, .int (nI rn), .ref brd, .int (nI tn), .ref bty, .int mm, .int (nI sgn), .ref bsg, .int (nI (zi (0 ≤ (zt_fw sg sgn L F N pf pg pv).1) (zt_fw sg sgn L F N pf pg pv).2.1 0)), .ref bpf, .ref bpg, .ref bpv, .int ((zt_fw sg sgn L F N pf pg pv).2.2.2.2.2), .int (nI lb), .ref blF, .ref blP, .ref blD, .ref blN, .ref bwn, .int lat, .ref bla])), (bL, .inl (cI, 100, .inl L)), (bF, .inl (cZ, 100, .inl F)), (bN, .inl (cI, 100, .inl N)), (bsg, .inl (cI, 120, .inl sg)), (bpf, .inl (cI, 7, .inl qp)), (bpg, .inl (cI, 7, .inl qg)), (bpv, .inl (cJ, 7, .inr (.inl qv)))] H := by rw [hFW]; dsimp only; (first | rw [zq1] | rw [zq2] | rw [zq3] | rw [zq4] | rw [zq5] | rw [zq6] | rw [zq7] | rw [zq0]); exact hP
                                have hD9 : va_D A [(h, .inr (8, [.int thr, .int (nI fm), .ref bL, .ref bF, .ref bS, .ref bN, .int (nI wc), .ref bwp, .ref bwg, .ref bwv, .int (nI mn), .ref bmo, .int (nI rn), .ref brd, .int (nI tn), .ref bty, .int mm, .int (nI sgn), .ref bsg, .int (nI (zi (0 ≤ (zt_fw sg sgn L F N pf pg pv).1) (zt_fw sg sgn L F N pf pg pv).2.1 0)), .ref bpf, .ref bpg, .ref bpv, .int ((zt_fw sg sgn L F N pf pg pv).2.2.2.2.2), .int (nI lb), .ref blF, .ref blP, .ref blD, .ref blN, .ref bwn, .int lat, .ref bla])), (bL, .inl (cI, 100, .inl L)), (bF, .inl (cZ, 100, .inl F)), (bN, .inl (cI, 100, .inl N)), (bsg, .inl (cI, 120, .inl sg)), (bpf, .inl (cI, 7, .inl qp)), (bpg, .inl (cI, 7, .inl qg)), (bpv, .inl (cJ, 7, .inr (.inl qv)))] := by rw [hFW]; dsimp only; (first | rw [zq1] | rw [zq2] | rw [zq3] | rw [zq4] | rw [zq5] | rw [zq6] | rw [zq7] | rw [zq0]); exact hD
                                have hpost : 0 ≤ (zt_fw sg sgn L F N pf pg pv).1 → qp = (zt_fw sg sgn L F N pf pg pv).2.2.1 ∧ qg = (zt_fw sg sgn L F N pf pg pv).2.2.2.1 ∧ qv = (zt_fw sg sgn L F N pf pg pv).2.2.2.2.1 := by rw [hFW]; intro h9; dsimp only at h9; first | exact ⟨rfl, rfl, rfl⟩ | exact absurd h9 (by decide)
                                have hres : ((-5) : Int32) = zi (0 ≤ (zt_fw sg sgn L F N pf pg pv).1) (nI (zt_fw sg sgn L F N pf pg pv).2.1) (zt_fw sg sgn L F N pf pg pv).1 := by rw [hFW]; first | exact zq1.symm | exact zq2.symm | exact zq3.symm | exact zq4.symm | exact zq5.symm | exact zq6.symm | exact zq7.symm | exact zq0.symm
                                exact W.iret (v := (-5)) hx hb hr (fun t ht hW => ⟨⟨_, (qp, qg, qv), rfl, ⟨hres, hpost⟩, by rw [ht]; exact hP9, va_K.moved hW.alike hK, hD9⟩, hS.F ht⟩) hS.2.2 dX7_takeApart_267
                          · refine lv_iinc (v := nI (q + 1)) (lv' := [(6, .int (nI (q + 1))), (2, .int (nI (pp + 2))), (5, .int (zt_x sg pp)), (4, .int (zb (zt_two sg (sgn - 1) pp))), (3, .int (nI i)), (1, .int (nI (sgn - 1))), (0, .ref h)]) hx hb dX7_takeApart_239 hl (k := 0) rfl (nI_1 q) (by decide) rfl (fun ls hl => ?_)
                            refine lv_goto (tgt := 221) hx hb dX7_takeApart_242 (by decide) ?_
                            exact ih221 (q + 1) _ (by omega) ⟨lv_sub hl [0, 1, 2, 3, 4, 5, 6] rfl, by omega, hltq, by rw [← hq2, zr_ns_step hltq, if_neg c236]⟩
                      · have hd0 : zt_d sg (sgn - 1) L F pp = zt_len L (zt_k sg pp) := zi_f c198
                        refine lv_iload_n hx hb dX7_takeApart_201 rfl (lv_at hl 1 rfl) ?_
                        refine lv_aload_n hx hb dX7_takeApart_202 rfl (lv_at hl 6 rfl) ?_
                        refine va_get (D := (dC, dI)) (ci := 8) (v := .ref bL) (C := RX7) (T := TX7) (N := 32) hx hb hts hinX7 hown hK hP 0 rfl rfl 2 (by decide) (hts (.fieldLink RX7 13 "ScanCodesModel" "length" "[I") (by decide +kernel)) (fun _ h9 => h9) rfl dX7_takeApart_203 ?_
                        refine lv_iload hx hb dX7_takeApart_206 (lv_at hl 2 rfl) ?_
                        refine zc_iald hx hb hK hP 1 0 rfl rfl (zt_k sg pp) hix.1 hix.2.1 (by decide) dX7_takeApart_208 ?_
                        refine zc_ti (y := nI (zt_len L (zt_k sg pp))) (hLk.1) ?_
                        refine lv_iadd hx hb dX7_takeApart_209 ?_
                        refine zc_ti (y := nI (pp + 2 + zt_d sg (sgn - 1) L F pp)) (by rw [nI_add, hd0]) ?_
                        refine lv_istore (lv' := [(6, .int (nI (pp + 2 + zt_d sg (sgn - 1) L F pp))), (2, .int (nI (pp + 2))), (5, .int (zt_x sg pp)), (4, .int (zb (zt_two sg (sgn - 1) pp))), (3, .int (nI i)), (1, .int (nI (sgn - 1))), (0, .ref h)]) hx hb dX7_takeApart_210 hl (by decide) rfl (fun ls hl => ?_)
                        refine lv_iload hx hb dX7_takeApart_212 (lv_at hl 0 rfl) ?_
                        refine lv_iload_n hx hb dX7_takeApart_214 rfl (lv_at hl 5 rfl) ?_
                        refine lv_icmp_le (tgt := 268) hx hb dX7_takeApart_215 (by decide) (fun c215 => ?_) (fun c215 => ?_)
                        · have hle := zn_le c215 (by omega) (by omega)
                          exact J268 _ ⟨lv_sub hl [0, 1, 2, 3, 4, 5, 6] rfl, (by omega), fun q => absurd q c198, fun _ => (by omega)⟩
                        · have hgt := zn_nle c215 (by omega) (by omega)
                          have hok : ¬ zt_ok sg (sgn - 1) L F qp i pp := fun q => q.2.2.2.elim (fun z => z.2.1 (by omega)) (fun z => c198 z.1)
                          rw [zi_f hok] at hi4
                          have hE : zt_err sg (sgn - 1) L F qp i pp = -5 := by unfold zt_err; rw [zi_t (P := zt_two sg (sgn - 1) pp ∧ zp_has L (zt_x sg pp) ∧ ¬ zf_has qp i (zt_x sg pp)) ⟨htw, hh, hnf⟩, zi_f c198]; exact zi_t (by omega)
                          have hFW : zt_fw sg sgn L F N pf pg pv = (zt_err sg (sgn - 1) L F qp i pp, i, qp, qg, qv, zi (zt_new sg (sgn - 1) L pp) (zt_x sg pp) (-1)) := by unfold zt_fw; rw [zi_f hp1, zi_t hp2]; rw [← hi4]; unfold zt_end; rw [zi_f zt_err_0]
                          rw [hE] at hFW
                          have hnw : zi (zt_new sg (sgn - 1) L pp) (zt_x sg pp) (-1) = -1 := zi_f (fun q => q.2 hh)
                          rw [hnw] at hFW
                          refine lv_bipush (v := (-5)) hx hb dX7_takeApart_218 (by decide) ?_
                          have hP9 : va_P (dC, dI) vwCl [(h, .inr (8, [.int thr, .int (nI fm), .ref bL, .ref bF, .ref bS, .ref bN, .int (nI wc), .ref bwp, .ref bwg, .ref bwv, .int (nI mn), .ref bmo, .int (nI rn), .ref brd, .int (nI tn), .ref bty, .int mm, .int (nI sgn), .ref bsg, .int (nI (zi (0 ≤ (zt_fw sg sgn L F N pf pg pv).1) (zt_fw sg sgn L F N pf pg pv).2.1 0)), .ref bpf, .ref bpg, .ref bpv, .int ((zt_fw sg sgn L F N pf pg pv).2.2.2.2.2), .int (nI lb), .ref blF, .ref blP, .ref blD, .ref blN, .ref bwn, .int lat, .ref bla])), (bL, .inl (cI, 100, .inl L)), (bF, .inl (cZ, 100, .inl F)), (bN, .inl (cI, 100, .inl N)), (bsg, .inl (cI, 120, .inl sg)), (bpf, .inl (cI, 7, .inl qp)), (bpg, .inl (cI, 7, .inl qg)), (bpv, .inl (cJ, 7, .inr (.inl qv)))] H := by rw [hFW]; dsimp only; (first | rw [zq1] | rw [zq2] | rw [zq3] | rw [zq4] | rw [zq5] | rw [zq6] | rw [zq7] | rw [zq0]); exact hP
                          have hD9 : va_D A [(h, .inr (8, [.int thr, .int (nI fm), .ref bL, .ref bF, .ref bS, .ref bN, .int (nI wc), .ref bwp, .ref bwg, .ref bwv, .int (nI mn), .ref bmo, .int (nI rn), .ref brd, .int (nI tn), .ref bty, .int mm, .int (nI sgn), .ref bsg, .int (nI (zi (0 ≤ (zt_fw sg sgn L F N pf pg pv).1) (zt_fw sg sgn L F N pf pg pv).2.1 0)), .ref bpf, .ref bpg, .ref bpv, .int ((zt_fw sg sgn L F N pf pg pv).2.2.2.2.2), .int (nI lb), .ref blF, .ref blP, .ref blD, .ref blN, .ref bwn, .int lat, .ref bla])), (bL, .inl (cI, 100, .inl L)), (bF, .inl (cZ, 100, .inl F)), (bN, .inl (cI, 100, .inl N)), (bsg, .inl (cI, 120, .inl sg)), (bpf, .inl (cI, 7, .inl qp)), (bpg, .inl (cI, 7, .inl qg)), (bpv, .inl (cJ, 7, .inr (.inl qv)))] := by rw [hFW]; dsimp only; (first | rw [zq1] | rw [zq2] | rw [zq3] | rw [zq4] | rw [zq5] | rw [zq6] | rw [zq7] | rw [zq0]); exact hD
                          have hpost : 0 ≤ (zt_fw sg sgn L F N pf pg pv).1 → qp = (zt_fw sg sgn L F N pf pg pv).2.2.1 ∧ qg = (zt_fw sg sgn L F N pf pg pv).2.2.2.1 ∧ qv = (zt_fw sg sgn L F N pf pg pv).2.2.2.2.1 := by rw [hFW]; intro h9; dsimp only at h9; first | exact ⟨rfl, rfl, rfl⟩ | exact absurd h9 (by decide)
                          have hres : ((-5) : Int32) = zi (0 ≤ (zt_fw sg sgn L F N pf pg pv).1) (nI (zt_fw sg sgn L F N pf pg pv).2.1) (zt_fw sg sgn L F N pf pg pv).1 := by rw [hFW]; first | exact zq1.symm | exact zq2.symm | exact zq3.symm | exact zq4.symm | exact zq5.symm | exact zq6.symm | exact zq7.symm | exact zq0.symm
                          exact W.iret (v := (-5)) hx hb hr (fun t ht hW => ⟨⟨_, (qp, qg, qv), rfl, ⟨hres, hpost⟩, by rw [ht]; exact hP9, va_K.moved hW.alike hK, hD9⟩, hS.F ht⟩) hS.2.2 dX7_takeApart_220
                  · have hltk := zn_nle c161 (by omega) (by omega)
                    refine lv_aload_n hx hb dX7_takeApart_164 rfl (lv_at hl 6 rfl) ?_
                    refine va_get (D := (dC, dI)) (ci := 8) (v := .ref bpf) (C := RX7) (T := TX7) (N := 32) hx hb hts hinX7 hown hK hP 0 rfl rfl 20 (by decide) (hts (.fieldLink RX7 70 "ScanCodesModel" "prefixOf" "[I") (by decide +kernel)) (fun _ h9 => h9) rfl dX7_takeApart_165 ?_
                    refine lv_iload hx hb dX7_takeApart_168 (lv_at hl 0 rfl) ?_
                    refine zc_iald hx hb hK hP 5 0 rfl rfl k rfl (by first | assumption | omega) (by decide) dX7_takeApart_170 ?_
                    refine lv_iload hx hb dX7_takeApart_171 (lv_at hl 1 rfl) ?_
                    refine lv_icmp_ne (tgt := 179) hx hb dX7_takeApart_173 (by decide) (fun c173 => ?_) (fun c173 => ?_)
                    · refine lv_iinc (v := nI (k + 1)) (lv' := [(6, .int (nI (k + 1))), (5, .int (zt_x sg pp)), (4, .int (zb (zt_two sg (sgn - 1) pp))), (3, .int (nI i)), (2, .int (nI pp)), (1, .int (nI (sgn - 1))), (0, .ref h)]) hx hb dX7_takeApart_179 hl (k := 0) rfl (nI_1 k) (by decide) rfl (fun ls hl => ?_)
                      refine lv_goto (tgt := 158) hx hb dX7_takeApart_182 (by decide) ?_
                      exact ih158 (k + 1) _ (by omega) ⟨lv_sub hl [0, 1, 2, 3, 4, 5, 6] rfl, hltk, fun j hj => by by_cases q : j = k; rw [q]; exact c173; exact hk2x j (by omega)⟩
                    · have hok : ¬ zt_ok sg (sgn - 1) L F qp i pp := fun q => q.2.2.1 ⟨k, hltk, c173⟩
                      rw [zi_f hok] at hi4
                      have hE : zt_err sg (sgn - 1) L F qp i pp = -4 := zi_f (fun q => q.2.2 ⟨k, hltk, c173⟩)
                      have hFW : zt_fw sg sgn L F N pf pg pv = (zt_err sg (sgn - 1) L F qp i pp, i, qp, qg, qv, zi (zt_new sg (sgn - 1) L pp) (zt_x sg pp) (-1)) := by unfold zt_fw; rw [zi_f hp1, zi_t hp2]; rw [← hi4]; unfold zt_end; rw [zi_f zt_err_0]
                      rw [hE] at hFW
                      have hnw : zi (zt_new sg (sgn - 1) L pp) (zt_x sg pp) (-1) = -1 := zi_f (fun q => q.2 hh)
                      rw [hnw] at hFW
                      refine lv_bipush (v := (-4)) hx hb dX7_takeApart_176 (by decide) ?_
                      have hP9 : va_P (dC, dI) vwCl [(h, .inr (8, [.int thr, .int (nI fm), .ref bL, .ref bF, .ref bS, .ref bN, .int (nI wc), .ref bwp, .ref bwg, .ref bwv, .int (nI mn), .ref bmo, .int (nI rn), .ref brd, .int (nI tn), .ref bty, .int mm, .int (nI sgn), .ref bsg, .int (nI (zi (0 ≤ (zt_fw sg sgn L F N pf pg pv).1) (zt_fw sg sgn L F N pf pg pv).2.1 0)), .ref bpf, .ref bpg, .ref bpv, .int ((zt_fw sg sgn L F N pf pg pv).2.2.2.2.2), .int (nI lb), .ref blF, .ref blP, .ref blD, .ref blN, .ref bwn, .int lat, .ref bla])), (bL, .inl (cI, 100, .inl L)), (bF, .inl (cZ, 100, .inl F)), (bN, .inl (cI, 100, .inl N)), (bsg, .inl (cI, 120, .inl sg)), (bpf, .inl (cI, 7, .inl qp)), (bpg, .inl (cI, 7, .inl qg)), (bpv, .inl (cJ, 7, .inr (.inl qv)))] H := by rw [hFW]; dsimp only; (first | rw [zq1] | rw [zq2] | rw [zq3] | rw [zq4] | rw [zq5] | rw [zq6] | rw [zq7] | rw [zq0]); exact hP
                      have hD9 : va_D A [(h, .inr (8, [.int thr, .int (nI fm), .ref bL, .ref bF, .ref bS, .ref bN, .int (nI wc), .ref bwp, .ref bwg, .ref bwv, .int (nI mn), .ref bmo, .int (nI rn), .ref brd, .int (nI tn), .ref bty, .int mm, .int (nI sgn), .ref bsg, .int (nI (zi (0 ≤ (zt_fw sg sgn L F N pf pg pv).1) (zt_fw sg sgn L F N pf pg pv).2.1 0)), .ref bpf, .ref bpg, .ref bpv, .int ((zt_fw sg sgn L F N pf pg pv).2.2.2.2.2), .int (nI lb), .ref blF, .ref blP, .ref blD, .ref blN, .ref bwn, .int lat, .ref bla])), (bL, .inl (cI, 100, .inl L)), (bF, .inl (cZ, 100, .inl F)), (bN, .inl (cI, 100, .inl N)), (bsg, .inl (cI, 120, .inl sg)), (bpf, .inl (cI, 7, .inl qp)), (bpg, .inl (cI, 7, .inl qg)), (bpv, .inl (cJ, 7, .inr (.inl qv)))] := by rw [hFW]; dsimp only; (first | rw [zq1] | rw [zq2] | rw [zq3] | rw [zq4] | rw [zq5] | rw [zq6] | rw [zq7] | rw [zq0]); exact hD
                      have hpost : 0 ≤ (zt_fw sg sgn L F N pf pg pv).1 → qp = (zt_fw sg sgn L F N pf pg pv).2.2.1 ∧ qg = (zt_fw sg sgn L F N pf pg pv).2.2.2.1 ∧ qv = (zt_fw sg sgn L F N pf pg pv).2.2.2.2.1 := by rw [hFW]; intro h9; dsimp only at h9; first | exact ⟨rfl, rfl, rfl⟩ | exact absurd h9 (by decide)
                      have hres : ((-4) : Int32) = zi (0 ≤ (zt_fw sg sgn L F N pf pg pv).1) (nI (zt_fw sg sgn L F N pf pg pv).2.1) (zt_fw sg sgn L F N pf pg pv).1 := by rw [hFW]; first | exact zq1.symm | exact zq2.symm | exact zq3.symm | exact zq4.symm | exact zq5.symm | exact zq6.symm | exact zq7.symm | exact zq0.symm
                      exact W.iret (v := (-4)) hx hb hr (fun t ht hW => ⟨⟨_, (qp, qg, qv), rfl, ⟨hres, hpost⟩, by rw [ht]; exact hP9, va_K.moved hW.alike hK, hD9⟩, hS.F ht⟩) hS.2.2 dX7_takeApart_178
                · have hnk := zb_0 c143
                  have hux : zi (zt_two sg (sgn - 1) pp) (zt_x sg pp) (-1) = zi (zt_new sg (sgn - 1) L pp) (zt_x sg pp) (-1) := by
                    by_cases q : zt_two sg (sgn - 1) pp
                    · rw [zi_t q] at hnk ⊢; rw [zi_t ⟨q, hnk⟩]
                    · rw [zi_f q, zi_f (fun z => q z.1)]
                  rw [hux] at hl
                  have hok : ¬ zt_ok sg (sgn - 1) L F qp i pp := fun q => by rw [zi_t q.1] at hnk; exact hnk q.2.1
                  rw [zi_f hok] at hi4
                  have hE : zt_err sg (sgn - 1) L F qp i pp = -4 := zi_f (fun q => by rw [zi_t q.1] at hnk; exact hnk q.2.1)
                  have hFW : zt_fw sg sgn L F N pf pg pv = (zt_err sg (sgn - 1) L F qp i pp, i, qp, qg, qv, zi (zt_new sg (sgn - 1) L pp) (zt_x sg pp) (-1)) := by unfold zt_fw; rw [zi_f hp1, zi_t hp2]; rw [← hi4]; unfold zt_end; rw [zi_f zt_err_0]
                  rw [hE] at hFW
                  refine lv_aload_n hx hb dX7_takeApart_146 rfl (lv_at hl 5 rfl) ?_
                  refine lv_iload hx hb dX7_takeApart_147 (lv_at hl 0 rfl) ?_
                  refine va_put (D := (dC, dI)) (ci := 8) (v := .int (zi (zt_new sg (sgn - 1) L pp) (zt_x sg pp) (-1))) (ty := .int) (C := RX7) (T := TX7) (N := 32) hx hb hts hinX7 tyX7 tyX7_ok nmX7 hown hK hP hD hS 0 rfl rfl 23 (by decide) (hts (.fieldLink RX7 79 "ScanCodesModel" "unknown" "I") (by decide +kernel)) (fun _ h9 => h9) rfl (by decide +kernel) rfl rfl (Nat.le_of_ble_eq_true rfl) dX7_takeApart_149 (fun H locs hP hD hS => ?_)
                  have hP : va_P (dC, dI) vwCl [(h, .inr (8, [.int thr, .int (nI fm), .ref bL, .ref bF, .ref bS, .ref bN, .int (nI wc), .ref bwp, .ref bwg, .ref bwv, .int (nI mn), .ref bmo, .int (nI rn), .ref brd, .int (nI tn), .ref bty, .int mm, .int (nI sgn), .ref bsg, .int (nI 0), .ref bpf, .ref bpg, .ref bpv, .int (zi (zt_new sg (sgn - 1) L pp) (zt_x sg pp) (-1)), .int (nI lb), .ref blF, .ref blP, .ref blD, .ref blN, .ref bwn, .int lat, .ref bla])), (bL, .inl (cI, 100, .inl L)), (bF, .inl (cZ, 100, .inl F)), (bN, .inl (cI, 100, .inl N)), (bsg, .inl (cI, 120, .inl sg)), (bpf, .inl (cI, 7, .inl qp)), (bpg, .inl (cI, 7, .inl qg)), (bpv, .inl (cJ, 7, .inr (.inl qv)))] H := hP
                  have hD : va_D A [(h, .inr (8, [.int thr, .int (nI fm), .ref bL, .ref bF, .ref bS, .ref bN, .int (nI wc), .ref bwp, .ref bwg, .ref bwv, .int (nI mn), .ref bmo, .int (nI rn), .ref brd, .int (nI tn), .ref bty, .int mm, .int (nI sgn), .ref bsg, .int (nI 0), .ref bpf, .ref bpg, .ref bpv, .int (zi (zt_new sg (sgn - 1) L pp) (zt_x sg pp) (-1)), .int (nI lb), .ref blF, .ref blP, .ref blD, .ref blN, .ref bwn, .int lat, .ref bla])), (bL, .inl (cI, 100, .inl L)), (bF, .inl (cZ, 100, .inl F)), (bN, .inl (cI, 100, .inl N)), (bsg, .inl (cI, 120, .inl sg)), (bpf, .inl (cI, 7, .inl qp)), (bpg, .inl (cI, 7, .inl qg)), (bpv, .inl (cJ, 7, .inr (.inl qv)))] := hD
                  refine lv_bipush (v := (-4)) hx hb dX7_takeApart_152 (by decide) ?_
                  have hP9 : va_P (dC, dI) vwCl [(h, .inr (8, [.int thr, .int (nI fm), .ref bL, .ref bF, .ref bS, .ref bN, .int (nI wc), .ref bwp, .ref bwg, .ref bwv, .int (nI mn), .ref bmo, .int (nI rn), .ref brd, .int (nI tn), .ref bty, .int mm, .int (nI sgn), .ref bsg, .int (nI (zi (0 ≤ (zt_fw sg sgn L F N pf pg pv).1) (zt_fw sg sgn L F N pf pg pv).2.1 0)), .ref bpf, .ref bpg, .ref bpv, .int ((zt_fw sg sgn L F N pf pg pv).2.2.2.2.2), .int (nI lb), .ref blF, .ref blP, .ref blD, .ref blN, .ref bwn, .int lat, .ref bla])), (bL, .inl (cI, 100, .inl L)), (bF, .inl (cZ, 100, .inl F)), (bN, .inl (cI, 100, .inl N)), (bsg, .inl (cI, 120, .inl sg)), (bpf, .inl (cI, 7, .inl qp)), (bpg, .inl (cI, 7, .inl qg)), (bpv, .inl (cJ, 7, .inr (.inl qv)))] H := by rw [hFW]; dsimp only; (first | rw [zq1] | rw [zq2] | rw [zq3] | rw [zq4] | rw [zq5] | rw [zq6] | rw [zq7] | rw [zq0]); exact hP
                  have hD9 : va_D A [(h, .inr (8, [.int thr, .int (nI fm), .ref bL, .ref bF, .ref bS, .ref bN, .int (nI wc), .ref bwp, .ref bwg, .ref bwv, .int (nI mn), .ref bmo, .int (nI rn), .ref brd, .int (nI tn), .ref bty, .int mm, .int (nI sgn), .ref bsg, .int (nI (zi (0 ≤ (zt_fw sg sgn L F N pf pg pv).1) (zt_fw sg sgn L F N pf pg pv).2.1 0)), .ref bpf, .ref bpg, .ref bpv, .int ((zt_fw sg sgn L F N pf pg pv).2.2.2.2.2), .int (nI lb), .ref blF, .ref blP, .ref blD, .ref blN, .ref bwn, .int lat, .ref bla])), (bL, .inl (cI, 100, .inl L)), (bF, .inl (cZ, 100, .inl F)), (bN, .inl (cI, 100, .inl N)), (bsg, .inl (cI, 120, .inl sg)), (bpf, .inl (cI, 7, .inl qp)), (bpg, .inl (cI, 7, .inl qg)), (bpv, .inl (cJ, 7, .inr (.inl qv)))] := by rw [hFW]; dsimp only; (first | rw [zq1] | rw [zq2] | rw [zq3] | rw [zq4] | rw [zq5] | rw [zq6] | rw [zq7] | rw [zq0]); exact hD
                  have hpost : 0 ≤ (zt_fw sg sgn L F N pf pg pv).1 → qp = (zt_fw sg sgn L F N pf pg pv).2.2.1 ∧ qg = (zt_fw sg sgn L F N pf pg pv).2.2.2.1 ∧ qv = (zt_fw sg sgn L F N pf pg pv).2.2.2.2.1 := by rw [hFW]; intro h9; dsimp only at h9; first | exact ⟨rfl, rfl, rfl⟩ | exact absurd h9 (by decide)
                  have hres : ((-4) : Int32) = zi (0 ≤ (zt_fw sg sgn L F N pf pg pv).1) (nI (zt_fw sg sgn L F N pf pg pv).2.1) (zt_fw sg sgn L F N pf pg pv).1 := by rw [hFW]; first | exact zq1.symm | exact zq2.symm | exact zq3.symm | exact zq4.symm | exact zq5.symm | exact zq6.symm | exact zq7.symm | exact zq0.symm
                  exact W.iret (v := (-4)) hx hb hr (fun t ht hW => ⟨⟨_, (qp, qg, qv), rfl, ⟨hres, hpost⟩, by rw [ht]; exact hP9, va_K.moved hW.alike hK, hD9⟩, hS.F ht⟩) hS.2.2 dX7_takeApart_154
              · refine lv_iload hx hb dX7_takeApart_108 (lv_at hl 0 rfl) ?_
                refine lv_if_eq (tgt := 134) hx hb dX7_takeApart_110 (by decide) (fun c110 => ?_) (fun c110 => ?_)
                · refine lv_iconst (v := (-1)) hx hb dX7_takeApart_134 (by decide) ?_
                  refine zc_ti (y := zi (zt_two sg (sgn - 1) pp) (zt_x sg pp) (-1)) ((zi_f (zb_0 c110)).symm) ?_
                  exact J135
                · have htw9 := zb_1 c110
                  have hp29 := htw9.1
                  refine lv_bipush (v := 10) hx hb dX7_takeApart_113 (by decide) ?_
                  refine lv_aload_n hx hb dX7_takeApart_115 rfl (lv_at hl 4 rfl) ?_
                  refine va_get (D := (dC, dI)) (ci := 8) (v := .ref bsg) (C := RX7) (T := TX7) (N := 32) hx hb hts hinX7 hown hK hP 0 rfl rfl 18 (by decide) (hts (.fieldLink RX7 64 "ScanCodesModel" "sign" "[I") (by decide +kernel)) (fun _ h9 => h9) rfl dX7_takeApart_116 ?_
                  refine lv_iload_n hx hb dX7_takeApart_119 rfl (lv_at hl 2 rfl) ?_
                  refine zc_iald hx hb hK hP 4 0 rfl rfl pp rfl (by first | assumption | omega) (by decide) dX7_takeApart_120 ?_
                  refine lv_imul hx hb dX7_takeApart_121 ?_
                  refine lv_aload_n hx hb dX7_takeApart_122 rfl (lv_at hl 4 rfl) ?_
                  refine va_get (D := (dC, dI)) (ci := 8) (v := .ref bsg) (C := RX7) (T := TX7) (N := 32) hx hb hts hinX7 hown hK hP 0 rfl rfl 18 (by decide) (hts (.fieldLink RX7 64 "ScanCodesModel" "sign" "[I") (by decide +kernel)) (fun _ h9 => h9) rfl dX7_takeApart_123 ?_
                  refine lv_iload_n hx hb dX7_takeApart_126 rfl (lv_at hl 2 rfl) ?_
                  refine lv_iconst (v := 1) hx hb dX7_takeApart_127 (by decide) ?_
                  refine lv_iadd hx hb dX7_takeApart_128 ?_
                  refine zc_ti (y := nI (pp + 1)) (nI_1 pp) ?_
                  refine zc_iald hx hb hK hP 4 0 rfl rfl (pp + 1) rfl (by first | assumption | omega) (by decide) dX7_takeApart_129 ?_
                  refine lv_iadd hx hb dX7_takeApart_130 ?_
                  refine lv_goto (tgt := 135) hx hb dX7_takeApart_131 (by decide) ?_
                  refine zc_ti (y := zi (zt_two sg (sgn - 1) pp) (zt_x sg pp) (-1)) (by rw [zi_t (zb_1 c110), zt_x_eq hsg (by omega)]) ?_
                  exact J135
            · refine lv_iload_n hx hb dX7_takeApart_70 rfl (lv_at hl 1 rfl) ?_
              refine lv_iconst (v := 1) hx hb dX7_takeApart_71 (by decide) ?_
              refine lv_iadd hx hb dX7_takeApart_72 ?_
              refine zc_ti (y := nI (pp + 1)) (nI_1 pp) ?_
              refine lv_iload_n hx hb dX7_takeApart_73 rfl (lv_at hl 2 rfl) ?_
              refine lv_icmp_ge (tgt := 105) hx hb dX7_takeApart_74 (by decide) (fun c74 => ?_) (fun c74 => ?_)
              · refine lv_iconst (v := 0) hx hb dX7_takeApart_105 (by decide) ?_
                refine zc_ti (y := zb (zt_two sg (sgn - 1) pp)) ((zb_f (fun q => by have := (zt_two_iff hsg (Nat.sub_le _ _)).mp q; have := zn_le c74 (by omega) (by omega); omega)).symm) ?_
                exact J106
              · have hp1e := zn_nle c74 (by omega) (by omega)
                refine lv_aload_n hx hb dX7_takeApart_77 rfl (lv_at hl 3 rfl) ?_
                refine va_get (D := (dC, dI)) (ci := 8) (v := .ref bsg) (C := RX7) (T := TX7) (N := 32) hx hb hts hinX7 hown hK hP 0 rfl rfl 18 (by decide) (hts (.fieldLink RX7 64 "ScanCodesModel" "sign" "[I") (by decide +kernel)) (fun _ h9 => h9) rfl dX7_takeApart_78 ?_
                refine lv_iload_n hx hb dX7_takeApart_81 rfl (lv_at hl 1 rfl) ?_
                refine zc_iald hx hb hK hP 4 0 rfl rfl pp rfl (by first | assumption | omega) (by decide) dX7_takeApart_82 ?_
                refine lv_bipush (v := 10) hx hb dX7_takeApart_83 (by decide) ?_
                refine lv_icmp_ge (tgt := 105) hx hb dX7_takeApart_85 (by decide) (fun c85 => ?_) (fun c85 => ?_)
                · refine lv_iconst (v := 0) hx hb dX7_takeApart_105 (by decide) ?_
                  refine zc_ti (y := zb (zt_two sg (sgn - 1) pp)) ((zb_f (fun q => Int32.not_le.mpr ((zt_two_iff hsg (Nat.sub_le _ _)).mp q).2.1 c85)).symm) ?_
                  exact J106
                · refine lv_aload_n hx hb dX7_takeApart_88 rfl (lv_at hl 3 rfl) ?_
                  refine va_get (D := (dC, dI)) (ci := 8) (v := .ref bsg) (C := RX7) (T := TX7) (N := 32) hx hb hts hinX7 hown hK hP 0 rfl rfl 18 (by decide) (hts (.fieldLink RX7 64 "ScanCodesModel" "sign" "[I") (by decide +kernel)) (fun _ h9 => h9) rfl dX7_takeApart_89 ?_
                  refine lv_iload_n hx hb dX7_takeApart_92 rfl (lv_at hl 1 rfl) ?_
                  refine lv_iconst (v := 1) hx hb dX7_takeApart_93 (by decide) ?_
                  refine lv_iadd hx hb dX7_takeApart_94 ?_
                  refine zc_ti (y := nI (pp + 1)) (nI_1 pp) ?_
                  refine zc_iald hx hb hK hP 4 0 rfl rfl (pp + 1) rfl (by first | assumption | omega) (by decide) dX7_takeApart_95 ?_
                  refine lv_bipush (v := 10) hx hb dX7_takeApart_96 (by decide) ?_
                  refine lv_icmp_ge (tgt := 105) hx hb dX7_takeApart_98 (by decide) (fun c98 => ?_) (fun c98 => ?_)
                  · refine lv_iconst (v := 0) hx hb dX7_takeApart_105 (by decide) ?_
                    refine zc_ti (y := zb (zt_two sg (sgn - 1) pp)) ((zb_f (fun q => Int32.not_le.mpr ((zt_two_iff hsg (Nat.sub_le _ _)).mp q).2.2 c98)).symm) ?_
                    exact J106
                  · refine lv_iconst (v := 1) hx hb dX7_takeApart_101 (by decide) ?_
                    refine lv_goto (tgt := 106) hx hb dX7_takeApart_102 (by decide) ?_
                    refine zc_ti (y := zb (zt_two sg (sgn - 1) pp)) ((zb_t ((zt_two_iff hsg (Nat.sub_le _ _)).mpr ⟨hp1e, Int32.not_le.mp c85, Int32.not_le.mp c98⟩)).symm) ?_
                    exact J106
          · have hi6 : i = 6 := zn_eq (b := 6) c64 (by omega) (by decide)
            have hR : zt_run sg (sgn - 1) L F 6 0 0 pf pg pv = (0, pp, i, qp, qg, qv, -1) := by rw [← hi4, hi6]; rfl
            have hFW : zt_fw sg sgn L F N pf pg pv = (-3, i, qp, qg, qv, -1) := by unfold zt_fw; rw [zi_f hp1, zi_t hp2]; rw [hR]; unfold zt_end; rw [zi_t rfl, zi_t hlp]
            refine lv_bipush (v := (-3)) hx hb dX7_takeApart_67 (by decide) ?_
            have hP9 : va_P (dC, dI) vwCl [(h, .inr (8, [.int thr, .int (nI fm), .ref bL, .ref bF, .ref bS, .ref bN, .int (nI wc), .ref bwp, .ref bwg, .ref bwv, .int (nI mn), .ref bmo, .int (nI rn), .ref brd, .int (nI tn), .ref bty, .int mm, .int (nI sgn), .ref bsg, .int (nI (zi (0 ≤ (zt_fw sg sgn L F N pf pg pv).1) (zt_fw sg sgn L F N pf pg pv).2.1 0)), .ref bpf, .ref bpg, .ref bpv, .int ((zt_fw sg sgn L F N pf pg pv).2.2.2.2.2), .int (nI lb), .ref blF, .ref blP, .ref blD, .ref blN, .ref bwn, .int lat, .ref bla])), (bL, .inl (cI, 100, .inl L)), (bF, .inl (cZ, 100, .inl F)), (bN, .inl (cI, 100, .inl N)), (bsg, .inl (cI, 120, .inl sg)), (bpf, .inl (cI, 7, .inl qp)), (bpg, .inl (cI, 7, .inl qg)), (bpv, .inl (cJ, 7, .inr (.inl qv)))] H := by rw [hFW]; dsimp only; (first | rw [zq1] | rw [zq2] | rw [zq3] | rw [zq4] | rw [zq5] | rw [zq6] | rw [zq7] | rw [zq0]); exact hP
            have hD9 : va_D A [(h, .inr (8, [.int thr, .int (nI fm), .ref bL, .ref bF, .ref bS, .ref bN, .int (nI wc), .ref bwp, .ref bwg, .ref bwv, .int (nI mn), .ref bmo, .int (nI rn), .ref brd, .int (nI tn), .ref bty, .int mm, .int (nI sgn), .ref bsg, .int (nI (zi (0 ≤ (zt_fw sg sgn L F N pf pg pv).1) (zt_fw sg sgn L F N pf pg pv).2.1 0)), .ref bpf, .ref bpg, .ref bpv, .int ((zt_fw sg sgn L F N pf pg pv).2.2.2.2.2), .int (nI lb), .ref blF, .ref blP, .ref blD, .ref blN, .ref bwn, .int lat, .ref bla])), (bL, .inl (cI, 100, .inl L)), (bF, .inl (cZ, 100, .inl F)), (bN, .inl (cI, 100, .inl N)), (bsg, .inl (cI, 120, .inl sg)), (bpf, .inl (cI, 7, .inl qp)), (bpg, .inl (cI, 7, .inl qg)), (bpv, .inl (cJ, 7, .inr (.inl qv)))] := by rw [hFW]; dsimp only; (first | rw [zq1] | rw [zq2] | rw [zq3] | rw [zq4] | rw [zq5] | rw [zq6] | rw [zq7] | rw [zq0]); exact hD
            have hpost : 0 ≤ (zt_fw sg sgn L F N pf pg pv).1 → qp = (zt_fw sg sgn L F N pf pg pv).2.2.1 ∧ qg = (zt_fw sg sgn L F N pf pg pv).2.2.2.1 ∧ qv = (zt_fw sg sgn L F N pf pg pv).2.2.2.2.1 := by rw [hFW]; intro h9; dsimp only at h9; first | exact ⟨rfl, rfl, rfl⟩ | exact absurd h9 (by decide)
            have hres : ((-3) : Int32) = zi (0 ≤ (zt_fw sg sgn L F N pf pg pv).1) (nI (zt_fw sg sgn L F N pf pg pv).2.1) (zt_fw sg sgn L F N pf pg pv).1 := by rw [hFW]; first | exact zq1.symm | exact zq2.symm | exact zq3.symm | exact zq4.symm | exact zq5.symm | exact zq6.symm | exact zq7.symm | exact zq0.symm
            exact W.iret (v := (-3)) hx hb hr (fun t ht hW => ⟨⟨_, (qp, qg, qv), rfl, ⟨hres, hpost⟩, by rw [ht]; exact hP9, va_K.moved hW.alike hK, hD9⟩, hS.F ht⟩) hS.2.2 dX7_takeApart_69
      · have hFW : zt_fw sg sgn L F N pf pg pv = (-2, 0, pf, pg, pv, -1) := by unfold zt_fw; rw [zi_f hp1, zi_f (fun q => c46 q.symm)]
        refine lv_bipush (v := (-2)) hx hb dX7_takeApart_49 (by decide) ?_
        have hP9 : va_P (dC, dI) vwCl [(h, .inr (8, [.int thr, .int (nI fm), .ref bL, .ref bF, .ref bS, .ref bN, .int (nI wc), .ref bwp, .ref bwg, .ref bwv, .int (nI mn), .ref bmo, .int (nI rn), .ref brd, .int (nI tn), .ref bty, .int mm, .int (nI sgn), .ref bsg, .int (nI (zi (0 ≤ (zt_fw sg sgn L F N pf pg pv).1) (zt_fw sg sgn L F N pf pg pv).2.1 0)), .ref bpf, .ref bpg, .ref bpv, .int ((zt_fw sg sgn L F N pf pg pv).2.2.2.2.2), .int (nI lb), .ref blF, .ref blP, .ref blD, .ref blN, .ref bwn, .int lat, .ref bla])), (bL, .inl (cI, 100, .inl L)), (bF, .inl (cZ, 100, .inl F)), (bN, .inl (cI, 100, .inl N)), (bsg, .inl (cI, 120, .inl sg)), (bpf, .inl (cI, 7, .inl pf)), (bpg, .inl (cI, 7, .inl pg)), (bpv, .inl (cJ, 7, .inr (.inl pv)))] H := by rw [hFW]; dsimp only; (first | rw [zq1] | rw [zq2] | rw [zq3] | rw [zq4] | rw [zq5] | rw [zq6] | rw [zq7] | rw [zq0]); exact hP
        have hD9 : va_D A [(h, .inr (8, [.int thr, .int (nI fm), .ref bL, .ref bF, .ref bS, .ref bN, .int (nI wc), .ref bwp, .ref bwg, .ref bwv, .int (nI mn), .ref bmo, .int (nI rn), .ref brd, .int (nI tn), .ref bty, .int mm, .int (nI sgn), .ref bsg, .int (nI (zi (0 ≤ (zt_fw sg sgn L F N pf pg pv).1) (zt_fw sg sgn L F N pf pg pv).2.1 0)), .ref bpf, .ref bpg, .ref bpv, .int ((zt_fw sg sgn L F N pf pg pv).2.2.2.2.2), .int (nI lb), .ref blF, .ref blP, .ref blD, .ref blN, .ref bwn, .int lat, .ref bla])), (bL, .inl (cI, 100, .inl L)), (bF, .inl (cZ, 100, .inl F)), (bN, .inl (cI, 100, .inl N)), (bsg, .inl (cI, 120, .inl sg)), (bpf, .inl (cI, 7, .inl pf)), (bpg, .inl (cI, 7, .inl pg)), (bpv, .inl (cJ, 7, .inr (.inl pv)))] := by rw [hFW]; dsimp only; (first | rw [zq1] | rw [zq2] | rw [zq3] | rw [zq4] | rw [zq5] | rw [zq6] | rw [zq7] | rw [zq0]); exact hD
        have hpost : 0 ≤ (zt_fw sg sgn L F N pf pg pv).1 → pf = (zt_fw sg sgn L F N pf pg pv).2.2.1 ∧ pg = (zt_fw sg sgn L F N pf pg pv).2.2.2.1 ∧ pv = (zt_fw sg sgn L F N pf pg pv).2.2.2.2.1 := by rw [hFW]; intro h9; dsimp only at h9; first | exact ⟨rfl, rfl, rfl⟩ | exact absurd h9 (by decide)
        have hres : ((-2) : Int32) = zi (0 ≤ (zt_fw sg sgn L F N pf pg pv).1) (nI (zt_fw sg sgn L F N pf pg pv).2.1) (zt_fw sg sgn L F N pf pg pv).1 := by rw [hFW]; first | exact zq1.symm | exact zq2.symm | exact zq3.symm | exact zq4.symm | exact zq5.symm | exact zq6.symm | exact zq7.symm | exact zq0.symm
        exact W.iret (v := (-2)) hx hb hr (fun t ht hW => ⟨⟨_, (pf, pg, pv), rfl, ⟨hres, hpost⟩, by rw [ht]; exact hP9, va_K.moved hW.alike hK, hD9⟩, hS.F ht⟩) hS.2.2 dX7_takeApart_51
    · have hFW : zt_fw sg sgn L F N pf pg pv = (-1, 0, pf, pg, pv, -1) := zi_t (Or.inr c27)
      refine lv_iconst (v := (-1)) hx hb dX7_takeApart_30 (by decide) ?_
      have hP9 : va_P (dC, dI) vwCl [(h, .inr (8, [.int thr, .int (nI fm), .ref bL, .ref bF, .ref bS, .ref bN, .int (nI wc), .ref bwp, .ref bwg, .ref bwv, .int (nI mn), .ref bmo, .int (nI rn), .ref brd, .int (nI tn), .ref bty, .int mm, .int (nI sgn), .ref bsg, .int (nI (zi (0 ≤ (zt_fw sg sgn L F N pf pg pv).1) (zt_fw sg sgn L F N pf pg pv).2.1 0)), .ref bpf, .ref bpg, .ref bpv, .int ((zt_fw sg sgn L F N pf pg pv).2.2.2.2.2), .int (nI lb), .ref blF, .ref blP, .ref blD, .ref blN, .ref bwn, .int lat, .ref bla])), (bL, .inl (cI, 100, .inl L)), (bF, .inl (cZ, 100, .inl F)), (bN, .inl (cI, 100, .inl N)), (bsg, .inl (cI, 120, .inl sg)), (bpf, .inl (cI, 7, .inl pf)), (bpg, .inl (cI, 7, .inl pg)), (bpv, .inl (cJ, 7, .inr (.inl pv)))] H := by rw [hFW]; dsimp only; (first | rw [zq1] | rw [zq2] | rw [zq3] | rw [zq4] | rw [zq5] | rw [zq6] | rw [zq7] | rw [zq0]); exact hP
      have hD9 : va_D A [(h, .inr (8, [.int thr, .int (nI fm), .ref bL, .ref bF, .ref bS, .ref bN, .int (nI wc), .ref bwp, .ref bwg, .ref bwv, .int (nI mn), .ref bmo, .int (nI rn), .ref brd, .int (nI tn), .ref bty, .int mm, .int (nI sgn), .ref bsg, .int (nI (zi (0 ≤ (zt_fw sg sgn L F N pf pg pv).1) (zt_fw sg sgn L F N pf pg pv).2.1 0)), .ref bpf, .ref bpg, .ref bpv, .int ((zt_fw sg sgn L F N pf pg pv).2.2.2.2.2), .int (nI lb), .ref blF, .ref blP, .ref blD, .ref blN, .ref bwn, .int lat, .ref bla])), (bL, .inl (cI, 100, .inl L)), (bF, .inl (cZ, 100, .inl F)), (bN, .inl (cI, 100, .inl N)), (bsg, .inl (cI, 120, .inl sg)), (bpf, .inl (cI, 7, .inl pf)), (bpg, .inl (cI, 7, .inl pg)), (bpv, .inl (cJ, 7, .inr (.inl pv)))] := by rw [hFW]; dsimp only; (first | rw [zq1] | rw [zq2] | rw [zq3] | rw [zq4] | rw [zq5] | rw [zq6] | rw [zq7] | rw [zq0]); exact hD
      have hpost : 0 ≤ (zt_fw sg sgn L F N pf pg pv).1 → pf = (zt_fw sg sgn L F N pf pg pv).2.2.1 ∧ pg = (zt_fw sg sgn L F N pf pg pv).2.2.2.1 ∧ pv = (zt_fw sg sgn L F N pf pg pv).2.2.2.2.1 := by rw [hFW]; intro h9; dsimp only at h9; first | exact ⟨rfl, rfl, rfl⟩ | exact absurd h9 (by decide)
      have hres : ((-1) : Int32) = zi (0 ≤ (zt_fw sg sgn L F N pf pg pv).1) (nI (zt_fw sg sgn L F N pf pg pv).2.1) (zt_fw sg sgn L F N pf pg pv).1 := by rw [hFW]; first | exact zq1.symm | exact zq2.symm | exact zq3.symm | exact zq4.symm | exact zq5.symm | exact zq6.symm | exact zq7.symm | exact zq0.symm
      exact W.iret (v := (-1)) hx hb hr (fun t ht hW => ⟨⟨_, (pf, pg, pv), rfl, ⟨hres, hpost⟩, by rw [ht]; exact hP9, va_K.moved hW.alike hK, hD9⟩, hS.F ht⟩) hS.2.2 dX7_takeApart_31
