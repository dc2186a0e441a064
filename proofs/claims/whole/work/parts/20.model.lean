/-! The reference: its small methods, in the words of the class's. -/
theorem zm_le9 {x : Int32} : x ≤ 9 ↔ x < 10 := by
  rw [Int32.le_iff_toInt_le, Int32.lt_iff_toInt_lt]
  have : (9 : Int32).toInt = 9 := by decide
  have : (10 : Int32).toInt = 10 := by decide
  omega
theorem zm_ge100 {x : Int32} : 100 ≤ x ↔ 99 < x := by
  rw [Int32.le_iff_toInt_le, Int32.lt_iff_toInt_lt]
  have : (99 : Int32).toInt = 99 := by decide
  have : (100 : Int32).toInt = 100 := by decide
  omega
/-- how many prefixes are known among the first k -/
def zcnt (L : Nat → Int32) : Nat → Nat
  | 0 => 0
  | k + 1 => zcnt L k + (if L (10 + k) ≤ 0 then 0 else 1)
theorem zcnt_le (L : Nat → Int32) (k : Nat) : zcnt L k ≤ k := by
  induction k with
  | zero => exact Nat.le_refl _
  | succ k ih => rw [zcnt]; split <;> omega
/-- a sign's bit, as the reference has it -/
def zbt (x k : Int32) : Int32 :=
  if k = 4 then (x / 8 - x / 8 / 2 * 2) + (x / 4 - x / 4 / 2 * 2) + (x - x / 2 * 2) - ((x / 8 - x / 8 / 2 * 2) + (x / 4 - x / 4 / 2 * 2) + (x - x / 2 * 2)) / 2 * 2
  else if k = 5 then (x / 8 - x / 8 / 2 * 2) + (x / 2 - x / 2 / 2 * 2) + (x - x / 2 * 2) - ((x / 8 - x / 8 / 2 * 2) + (x / 2 - x / 2 / 2 * 2) + (x - x / 2 * 2)) / 2 * 2
  else if k = 6 then (x / 4 - x / 4 / 2 * 2) + (x / 2 - x / 2 / 2 * 2) + (x - x / 2 * 2) - ((x / 4 - x / 4 / 2 * 2) + (x / 2 - x / 2 / 2 * 2) + (x - x / 2 * 2)) / 2 * 2
  else if k = 0 then x / 8 - x / 8 / 2 * 2 else if k = 1 then x / 4 - x / 4 / 2 * 2 else if k = 2 then x / 2 - x / 2 / 2 * 2 else x - x / 2 * 2
/-- signs are counted numbers up to 10 -/
def zsgn (f : Nat → Int32) (n : Nat) : Prop := ∀ j, j < n → ∃ v, v ≤ 10 ∧ f j = nI v
theorem zsw_nat {f : Nat → Int32} {n : Nat} (h : zsgn f n) : ∀ k, k ≤ n → ∃ t, t ≤ 30 * k ∧ zsw f n k = nI t := by
  intro k
  induction k with
  | zero => intro _; exact ⟨0, Nat.le_refl _, rfl⟩
  | succ k ih =>
    intro hk
    obtain ⟨t, ht, et⟩ := ih (by omega)
    obtain ⟨v, hv, ev⟩ := h (n - 1 - k) (by omega)
    rw [zsw, et, ev]
    unfold zwt
    by_cases q : k % 2 = 0
    · rw [if_pos q]
      refine ⟨t + 3 * v, by omega, ?_⟩
      rw [show (3 : Int32) = nI 3 from rfl, pk_mul, nI_add]
    · rw [if_neg q]
      refine ⟨t + 1 * v, by omega, ?_⟩
      rw [show (1 : Int32) = nI 1 from rfl, pk_mul, nI_add]
theorem zfm_neg {t : Nat} (ht : t < 100000) : zfm (-(nI t)) 10 = nI ((10 - t % 10) % 10) := by
  have e1 : (-(nI t)).toInt = -(t : Int) := sb_negT (by omega)
  have e10 : (10 : Int32).toInt = 10 := by decide
  have er : (-(nI t) - -(nI t) / 10 * 10).toInt = (-(t : Int)).tmod 10 := by rw [rem_toInt, e1, e10]
  have em : (-(t : Int)).tmod 10 = -((t % 10 : Nat) : Int) := by rw [Int.neg_tmod]; rfl
  rw [em] at er
  unfold zfm
  by_cases h0 : t = 0
  · subst h0; decide
  · have hneg : ¬ 0 ≤ -(nI t) ^^^ (10 : Int32) := by
      have a1 : (-(nI t)).toBitVec.msb = true := by
        cases hm : (-(nI t)).toBitVec.msb with
        | true => rfl
        | false =>
          have : 0 ≤ (-(nI t)).toInt := BitVec.toInt_nonneg_of_msb_false hm
          omega
      intro q
      rw [Int32.le_iff_toInt_le] at q
      have a2 : (-(nI t) ^^^ (10 : Int32)).toBitVec.msb = true := by
        rw [Int32.toBitVec_xor, BitVec.msb_xor, a1]; rfl
      have a3 : (-(nI t) ^^^ (10 : Int32)).toInt < 0 := BitVec.toInt_neg_of_msb_true a2
      have : (0 : Int32).toInt = 0 := by decide
      omega
    rw [if_neg hneg]
    by_cases h1 : t % 10 = 0
    · rw [if_pos (by apply Int32.toInt_inj.mp; rw [er, h1]; rfl)]
      apply Int32.toInt_inj.mp
      rw [er, h1, nI_toInt (by omega)]
      omega
    · rw [if_neg (fun q => by rw [q] at er; have : (0 : Int32).toInt = 0 := by decide
                              omega)]
      apply Int32.toInt_inj.mp
      rw [nI_toInt (by omega), Int32.toInt_add, er, e10]
      rw [Int.bmod_eq_of_le (by omega) (by omega)]
      omega
/-- the check sign, as the reference computes it -/
theorem zck_eq {f : Nat → Int32} {n : Nat} (h : zsgn f n) (hn : n ≤ 120) : (10 - (zsw f n n - zsw f n n / 10 * 10)) - (10 - (zsw f n n - zsw f n n / 10 * 10)) / 10 * 10 = zchk f n := by
  obtain ⟨t, ht, et⟩ := zsw_nat h n (Nat.le_refl _)
  unfold zchk
  rw [et, zfm_neg (by omega)]
  rw [show (10 : Int32) = nI 10 from rfl, pk_rem (by omega) (by decide) (by decide), pk_sub (by omega), pk_rem (by omega) (by decide) (by decide)]

set_option maxHeartbeats 4000000 in
set_option maxRecDepth 100000 in
theorem c_X7_isKnown (l : Launch) (dC : Nat → ClassId) (dI : Nat → Nat → Nat) (cI cZ cJ : ClassId) (h : Nat) (thr : Int32) (fm : Nat) (bL : Nat) (bF : Nat) (bS : Nat) (bN : Nat) (wc : Nat) (bwp : Nat) (bwg : Nat) (bwv : Nat) (mn : Nat) (bmo : Nat) (rn : Nat) (brd : Nat) (tn : Nat) (bty : Nat) (mm : Int32) (sgn : Nat) (bsg : Nat) (fc : Nat) (bpf : Nat) (bpg : Nat) (bpv : Nat) (u : Int32) (lb : Nat) (blF : Nat) (blP : Nat) (blD : Nat) (blN : Nat) (bwn : Nat) (lat : Int32) (bla : Nat) (L : Nat → Int32) (x : Int32) : Met l yX7_isKnown wsX7_isKnown ({ frames := 0, cells := 0, slots := 0, locals := 0 }) (zc_P [.ref h, .int x] (dC, dI) (zc_T cI cZ cJ) [(h, .inr (8, [.int thr, .int (nI fm), .ref bL, .ref bF, .ref bS, .ref bN, .int (nI wc), .ref bwp, .ref bwg, .ref bwv, .int (nI mn), .ref bmo, .int (nI rn), .ref brd, .int (nI tn), .ref bty, .int mm, .int (nI sgn), .ref bsg, .int (nI fc), .ref bpf, .ref bpg, .ref bpv, .int u, .int (nI lb), .ref blF, .ref blP, .ref blD, .ref blN, .ref bwn, .int lat, .ref bla])), (bL, .inl (cI, 100, .inl L))]) (zc_Q (.int (zb (zp_has L x)))) 0 0 (fun _ => False) := by
  refine Met.ofW (cc := cX7_isKnown) (maxL := 2) (ret := (some .boolean)) (by decide) rfl ?_
  intro p e s m args below meth c s₁ B hml hv
  obtain ⟨rfl, hP, hK⟩ := hv
  have hx := B.exec
  have hb := B.bytes
  have hr := B.returns
  have hts := atoms_spec (ws := wsX7_isKnown) B.pre
  have hown : s.vm.findClass RX7 = some m.cls := findClass_of_methodNamed B.named
  have hlocks := B.notSynchronized
  have hinX7 : ∀ w ∈ wsX70, w ∈ wsX7_isKnown := by decide +kernel
  have hl := lv_entry ([.ref h, .int x]) (n := 2) (Nat.le_of_ble_eq_true rfl)
  rw [lg_entry_eq]
  generalize (lg_sl ([.ref h, .int x]) ++ List.replicate (2 - (lg_sl ([.ref h, .int x])).length) Slot.unset).toArray = ls at hl ⊢
  have hl : lv_has ls 2 [(0, .ref h), (1, .int x)] := hl
  refine lv_iload_n hx hb dX7_isKnown_0 rfl (lv_at hl 1 rfl) ?_
  refine lv_bipush (v := 9) hx hb dX7_isKnown_1 (by decide) ?_
  refine lv_icmp_le (tgt := 25) hx hb dX7_isKnown_3 (by decide) (fun c3 => ?_) (fun c3 => ?_)
  · refine lv_iconst (v := 0) hx hb dX7_isKnown_25 (by decide) ?_
    have hres : (0 : Int32) = zb (zp_has L x) := by exact (zb_f (fun q => q.1 (zm_le9.mp c3))).symm
    exact W.zret (v := 0) hx hb hr rfl (fun t ht _ => ⟨congrArg (fun z => Outcome.returned (some (Value.int z))) hres, ht⟩) (fun _ h => nomatch h) dX7_isKnown_26
  · refine lv_iload_n hx hb dX7_isKnown_6 rfl (lv_at hl 1 rfl) ?_
    refine lv_bipush (v := 100) hx hb dX7_isKnown_7 (by decide) ?_
    refine lv_icmp_ge (tgt := 25) hx hb dX7_isKnown_9 (by decide) (fun c9 => ?_) (fun c9 => ?_)
    · refine lv_iconst (v := 0) hx hb dX7_isKnown_25 (by decide) ?_
      have hres : (0 : Int32) = zb (zp_has L x) := by exact (zb_f (fun q => q.2.1 (zm_ge100.mp c9))).symm
      exact W.zret (v := 0) hx hb hr rfl (fun t ht _ => ⟨congrArg (fun z => Outcome.returned (some (Value.int z))) hres, ht⟩) (fun _ h => nomatch h) dX7_isKnown_26
    · have hix := zp_ix (fun q => c3 (zm_le9.mpr q)) (fun q => c9 (zm_ge100.mpr q))
      refine lv_aload_n hx hb dX7_isKnown_12 rfl (lv_at hl 0 rfl) ?_
      refine va_get (D := (dC, dI)) (ci := 8) (v := .ref bL) (C := RX7) (T := TX7) (N := 32) hx hb hts hinX7 hown hK hP 0 rfl rfl 2 (by decide) (hts (.fieldLink RX7 13 "ScanCodesModel" "length" "[I") (by decide +kernel)) (fun _ h9 => h9) rfl dX7_isKnown_13 ?_
      refine lv_iload_n hx hb dX7_isKnown_16 rfl (lv_at hl 1 rfl) ?_
      refine zc_iald hx hb hK hP 1 0 rfl rfl x.toNatClampNeg hix.1 hix.2.1 (by decide) dX7_isKnown_17 ?_
      refine lv_if_le (tgt := 25) hx hb dX7_isKnown_18 (by decide) (fun c18 => ?_) (fun c18 => ?_)
      · refine lv_iconst (v := 0) hx hb dX7_isKnown_25 (by decide) ?_
        have hres : (0 : Int32) = zb (zp_has L x) := by exact (zb_f (fun q => q.2.2 c18)).symm
        exact W.zret (v := 0) hx hb hr rfl (fun t ht _ => ⟨congrArg (fun z => Outcome.returned (some (Value.int z))) hres, ht⟩) (fun _ h => nomatch h) dX7_isKnown_26
      · refine lv_iconst (v := 1) hx hb dX7_isKnown_21 (by decide) ?_
        refine lv_goto (tgt := 26) hx hb dX7_isKnown_22 (by decide) ?_
        have hres : (1 : Int32) = zb (zp_has L x) := by exact (zb_t ⟨fun q => c3 (zm_le9.mpr q), fun q => c9 (zm_ge100.mpr q), c18⟩).symm
        exact W.zret (v := 1) hx hb hr rfl (fun t ht _ => ⟨congrArg (fun z => Outcome.returned (some (Value.int z))) hres, ht⟩) (fun _ h => nomatch h) dX7_isKnown_26
set_option maxHeartbeats 4000000 in
set_option maxRecDepth 100000 in
theorem c_X7_prefixes (l : Launch) (dC : Nat → ClassId) (dI : Nat → Nat → Nat) (cI cZ cJ : ClassId) (h : Nat) (thr : Int32) (fm : Nat) (bL : Nat) (bF : Nat) (bS : Nat) (bN : Nat) (wc : Nat) (bwp : Nat) (bwg : Nat) (bwv : Nat) (mn : Nat) (bmo : Nat) (rn : Nat) (brd : Nat) (tn : Nat) (bty : Nat) (mm : Int32) (sgn : Nat) (bsg : Nat) (fc : Nat) (bpf : Nat) (bpg : Nat) (bpv : Nat) (u : Int32) (lb : Nat) (blF : Nat) (blP : Nat) (blD : Nat) (blN : Nat) (bwn : Nat) (lat : Int32) (bla : Nat) (L : Nat → Int32) : Met l yX7_prefixes wsX7_prefixes ({ frames := 0, cells := 0, slots := 0, locals := 0 }) (zc_P [.ref h] (dC, dI) (zc_T cI cZ cJ) [(h, .inr (8, [.int thr, .int (nI fm), .ref bL, .ref bF, .ref bS, .ref bN, .int (nI wc), .ref bwp, .ref bwg, .ref bwv, .int (nI mn), .ref bmo, .int (nI rn), .ref brd, .int (nI tn), .ref bty, .int mm, .int (nI sgn), .ref bsg, .int (nI fc), .ref bpf, .ref bpg, .ref bpv, .int u, .int (nI lb), .ref blF, .ref blP, .ref blD, .ref blN, .ref bwn, .int lat, .ref bla])), (bL, .inl (cI, 100, .inl L))]) (zc_Q (.int (nI (zcnt L 90)))) 0 0 (fun _ => False) := by
  refine Met.ofW (cc := cX7_prefixes) (maxL := 3) (ret := (some .int)) (by decide) rfl ?_
  intro p e s m args below meth c s₁ B hml hv
  obtain ⟨rfl, hP, hK⟩ := hv
  have hx := B.exec
  have hb := B.bytes
  have hr := B.returns
  have hts := atoms_spec (ws := wsX7_prefixes) B.pre
  have hown : s.vm.findClass RX7 = some m.cls := findClass_of_methodNamed B.named
  have hlocks := B.notSynchronized
  have hinX7 : ∀ w ∈ wsX70, w ∈ wsX7_prefixes := by decide +kernel
  have hl := lv_entry ([.ref h]) (n := 3) (Nat.le_of_ble_eq_true rfl)
  rw [lg_entry_eq]
  generalize (lg_sl ([.ref h]) ++ List.replicate (3 - (lg_sl ([.ref h])).length) Slot.unset).toArray = ls at hl ⊢
  have hl : lv_has ls 3 [(0, .ref h)] := hl
  refine lv_iconst (v := 0) hx hb dX7_prefixes_0 (by decide) ?_
  refine lv_istore_n (lv' := [(1, .int 0), (0, .ref h)]) hx hb dX7_prefixes_1 rfl hl (by decide) rfl (fun ls hl => ?_)
  refine lv_bipush (v := 10) hx hb dX7_prefixes_2 (by decide) ?_
  refine lv_istore_n (lv' := [(2, .int 10), (1, .int 0), (0, .ref h)]) hx hb dX7_prefixes_4 rfl hl (by decide) rfl (fun ls hl => ?_)
  refine zc_loop (α := Nat) (fun k ls => lv_has ls 3 [(2, .int (nI (10 + k))), (1, .int (nI (zcnt L k))), (0, .ref h)] ∧ (k ≤ 90)) (fun k => 90 - k) 0 ⟨lv_sub hl [0, 1, 2] rfl, Nat.zero_le _⟩ ?_
  intro x ls hI ih5
  obtain ⟨k, rfl⟩ : ∃ z, z = x := ⟨_, rfl⟩
  obtain ⟨hl, hi1⟩ := hI
  have hl : lv_has ls 3 [(2, .int (nI (10 + k))), (1, .int (nI (zcnt L k))), (0, .ref h)] := hl
  try dsimp only at ih5
  refine lv_iload_n hx hb dX7_prefixes_5 rfl (lv_at hl 0 rfl) ?_
  refine lv_bipush (v := 100) hx hb dX7_prefixes_6 (by decide) ?_
  refine lv_icmp_ge (tgt := 34) hx hb dX7_prefixes_8 (by decide) (fun c8 => ?_) (fun c8 => ?_)
  · have hge := zn_le (a := 100) c8 (by decide) (by omega)
    have hk9 : k = 90 := by omega
    refine lv_iload_n hx hb dX7_prefixes_34 rfl (lv_at hl 1 rfl) ?_
    have hres : (nI (zcnt L k)) = nI (zcnt L 90) := by rw [hk9]
    exact W.iret (v := nI (zcnt L k)) hx hb hr (fun t ht _ => ⟨congrArg (fun z => Outcome.returned (some (Value.int z))) hres, ht⟩) (fun _ h => nomatch h) dX7_prefixes_35
  · have hlt0 := zn_nle (a := 100) c8 (by decide) (by omega)
    have hlt : k < 90 := by omega
    refine lv_iload_n hx hb dX7_prefixes_11 rfl (lv_at hl 1 rfl) ?_
    refine lv_aload_n hx hb dX7_prefixes_12 rfl (lv_at hl 2 rfl) ?_
    refine va_get (D := (dC, dI)) (ci := 8) (v := .ref bL) (C := RX7) (T := TX7) (N := 32) hx hb hts hinX7 hown hK hP 0 rfl rfl 2 (by decide) (hts (.fieldLink RX7 13 "ScanCodesModel" "length" "[I") (by decide +kernel)) (fun _ h9 => h9) rfl dX7_prefixes_13 ?_
    refine lv_iload_n hx hb dX7_prefixes_16 rfl (lv_at hl 0 rfl) ?_
    refine zc_iald hx hb hK hP 1 0 rfl rfl (10 + k) rfl (by omega) (by decide) dX7_prefixes_17 ?_
    refine lv_if_le (tgt := 25) hx hb dX7_prefixes_18 (by decide) (fun c18 => ?_) (fun c18 => ?_)
    · refine lv_iconst (v := 0) hx hb dX7_prefixes_25 (by decide) ?_
      refine lv_iadd hx hb dX7_prefixes_26 ?_
      refine zc_ti (y := nI (zcnt L (k + 1))) (by rw [zcnt, if_pos c18]; exact nI_add _ 0) ?_
      refine lv_istore_n (lv' := [(1, .int (nI (zcnt L (k + 1)))), (2, .int (nI (10 + k))), (0, .ref h)]) hx hb dX7_prefixes_27 rfl hl (by decide) rfl (fun ls hl => ?_)
      refine lv_iinc (v := nI (10 + (k + 1))) (lv' := [(2, .int (nI (10 + (k + 1)))), (1, .int (nI (zcnt L (k + 1)))), (0, .ref h)]) hx hb dX7_prefixes_28 hl (k := 1) rfl ((nI_1 (10 + k))) (by decide) rfl (fun ls hl => ?_)
      refine lv_goto (tgt := 5) hx hb dX7_prefixes_31 (by decide) ?_
      exact ih5 (k + 1) _ (by omega) ⟨lv_sub hl [0, 1, 2] rfl, hlt⟩
    · refine lv_iconst (v := 1) hx hb dX7_prefixes_21 (by decide) ?_
      refine lv_goto (tgt := 26) hx hb dX7_prefixes_22 (by decide) ?_
      refine lv_iadd hx hb dX7_prefixes_26 ?_
      refine zc_ti (y := nI (zcnt L (k + 1))) (by rw [zcnt, if_neg c18]; exact nI_add _ 1) ?_
      refine lv_istore_n (lv' := [(1, .int (nI (zcnt L (k + 1)))), (2, .int (nI (10 + k))), (0, .ref h)]) hx hb dX7_prefixes_27 rfl hl (by decide) rfl (fun ls hl => ?_)
      refine lv_iinc (v := nI (10 + (k + 1))) (lv' := [(2, .int (nI (10 + (k + 1)))), (1, .int (nI (zcnt L (k + 1)))), (0, .ref h)]) hx hb dX7_prefixes_28 hl (k := 1) rfl ((nI_1 (10 + k))) (by decide) rfl (fun ls hl => ?_)
      refine lv_goto (tgt := 5) hx hb dX7_prefixes_31 (by decide) ?_
      exact ih5 (k + 1) _ (by omega) ⟨lv_sub hl [0, 1, 2] rfl, hlt⟩
set_option maxHeartbeats 4000000 in
set_option maxRecDepth 100000 in
theorem c_X7_bit (l : Launch) (dC : Nat → ClassId) (dI : Nat → Nat → Nat) (cI cZ cJ : ClassId) (x : Int32) (k : Int32) : Met l yX7_bit wsX7_bit ({ frames := 0, cells := 0, slots := 0, locals := 0 }) (zc_P [.int x, .int k] (dC, dI) (zc_T cI cZ cJ) []) (zc_Q (.int (zbt x k))) 0 0 (fun _ => False) := by
  refine Met.ofW (cc := cX7_bit) (maxL := 6) (ret := (some .int)) (by decide) rfl ?_
  intro p e s m args below meth c s₁ B hml hv
  obtain ⟨rfl, hP, hK⟩ := hv
  have hx := B.exec
  have hb := B.bytes
  have hr := B.returns
  have hts := atoms_spec (ws := wsX7_bit) B.pre
  have hown : s.vm.findClass RX7 = some m.cls := findClass_of_methodNamed B.named
  have hlocks := B.notSynchronized
  have hl := lv_entry ([.int x, .int k]) (n := 6) (Nat.le_of_ble_eq_true rfl)
  rw [lg_entry_eq]
  generalize (lg_sl ([.int x, .int k]) ++ List.replicate (6 - (lg_sl ([.int x, .int k])).length) Slot.unset).toArray = ls at hl ⊢
  have hl : lv_has ls 6 [(0, .int x), (1, .int k)] := hl
  refine lv_iload_n hx hb dX7_bit_0 rfl (lv_at hl 0 rfl) ?_
  refine lv_bipush (v := 8) hx hb dX7_bit_1 (by decide) ?_
  refine lv_idiv hx hb dX7_bit_3 (by decide) ?_
  refine lv_iconst (v := 2) hx hb dX7_bit_4 (by decide) ?_
  refine lv_irem hx hb dX7_bit_5 (by decide) ?_
  refine lv_istore_n (lv' := [(2, .int ((x / 8) - (x / 8) / 2 * 2)), (0, .int x), (1, .int k)]) hx hb dX7_bit_6 rfl hl (by decide) rfl (fun ls hl => ?_)
  refine lv_iload_n hx hb dX7_bit_7 rfl (lv_at hl 1 rfl) ?_
  refine lv_iconst (v := 4) hx hb dX7_bit_8 (by decide) ?_
  refine lv_idiv hx hb dX7_bit_9 (by decide) ?_
  refine lv_iconst (v := 2) hx hb dX7_bit_10 (by decide) ?_
  refine lv_irem hx hb dX7_bit_11 (by decide) ?_
  refine lv_istore_n (lv' := [(3, .int ((x / 4) - (x / 4) / 2 * 2)), (2, .int ((x / 8) - (x / 8) / 2 * 2)), (0, .int x), (1, .int k)]) hx hb dX7_bit_12 rfl hl (by decide) rfl (fun ls hl => ?_)
  refine lv_iload_n hx hb dX7_bit_13 rfl (lv_at hl 2 rfl) ?_
  refine lv_iconst (v := 2) hx hb dX7_bit_14 (by decide) ?_
  refine lv_idiv hx hb dX7_bit_15 (by decide) ?_
  refine lv_iconst (v := 2) hx hb dX7_bit_16 (by decide) ?_
  refine lv_irem hx hb dX7_bit_17 (by decide) ?_
  refine lv_istore (lv' := [(4, .int ((x / 2) - (x / 2) / 2 * 2)), (3, .int ((x / 4) - (x / 4) / 2 * 2)), (2, .int ((x / 8) - (x / 8) / 2 * 2)), (0, .int x), (1, .int k)]) hx hb dX7_bit_18 hl (by decide) rfl (fun ls hl => ?_)
  refine lv_iload_n hx hb dX7_bit_20 rfl (lv_at hl 3 rfl) ?_
  refine lv_iconst (v := 2) hx hb dX7_bit_21 (by decide) ?_
  refine lv_irem hx hb dX7_bit_22 (by decide) ?_
  refine lv_istore (lv' := [(5, .int (x - x / 2 * 2)), (4, .int ((x / 2) - (x / 2) / 2 * 2)), (3, .int ((x / 4) - (x / 4) / 2 * 2)), (2, .int ((x / 8) - (x / 8) / 2 * 2)), (0, .int x), (1, .int k)]) hx hb dX7_bit_23 hl (by decide) rfl (fun ls hl => ?_)
  refine lv_iload_n hx hb dX7_bit_25 rfl (lv_at hl 5 rfl) ?_
  refine lv_iconst (v := 4) hx hb dX7_bit_26 (by decide) ?_
  refine lv_icmp_ne (tgt := 39) hx hb dX7_bit_27 (by decide) (fun c27 => ?_) (fun c27 => ?_)
  · refine lv_iload_n hx hb dX7_bit_39 rfl (lv_at hl 5 rfl) ?_
    refine lv_iconst (v := 5) hx hb dX7_bit_40 (by decide) ?_
    refine lv_icmp_ne (tgt := 54) hx hb dX7_bit_41 (by decide) (fun c41 => ?_) (fun c41 => ?_)
    · refine lv_iload_n hx hb dX7_bit_54 rfl (lv_at hl 5 rfl) ?_
      refine lv_bipush (v := 6) hx hb dX7_bit_55 (by decide) ?_
      refine lv_icmp_ne (tgt := 70) hx hb dX7_bit_57 (by decide) (fun c57 => ?_) (fun c57 => ?_)
      · refine lv_iload_n hx hb dX7_bit_70 rfl (lv_at hl 5 rfl) ?_
        refine lv_if_ne (tgt := 78) hx hb dX7_bit_71 (by decide) (fun c71 => ?_) (fun c71 => ?_)
        · refine lv_iload_n hx hb dX7_bit_78 rfl (lv_at hl 5 rfl) ?_
          refine lv_iconst (v := 1) hx hb dX7_bit_79 (by decide) ?_
          refine lv_icmp_ne (tgt := 87) hx hb dX7_bit_80 (by decide) (fun c80 => ?_) (fun c80 => ?_)
          · refine lv_iload_n hx hb dX7_bit_87 rfl (lv_at hl 5 rfl) ?_
            refine lv_iconst (v := 2) hx hb dX7_bit_88 (by decide) ?_
            refine lv_icmp_ne (tgt := 97) hx hb dX7_bit_89 (by decide) (fun c89 => ?_) (fun c89 => ?_)
            · refine lv_iload hx hb dX7_bit_97 (lv_at hl 0 rfl) ?_
              have hres : (x - x / 2 * 2) = zbt x k := by rw [zbt, if_neg c27, if_neg c41, if_neg c57, if_neg c71, if_neg c80, if_neg c89]
              exact W.iret (v := x - x / 2 * 2) hx hb hr (fun t ht _ => ⟨congrArg (fun z => Outcome.returned (some (Value.int z))) hres, ht⟩) (fun _ h => nomatch h) dX7_bit_99
            · refine lv_iload hx hb dX7_bit_92 (lv_at hl 1 rfl) ?_
              refine lv_goto (tgt := 99) hx hb dX7_bit_94 (by decide) ?_
              have hres : ((x / 2) - (x / 2) / 2 * 2) = zbt x k := by rw [zbt, if_neg c27, if_neg c41, if_neg c57, if_neg c71, if_neg c80, if_pos c89]
              exact W.iret (v := (x / 2) - (x / 2) / 2 * 2) hx hb hr (fun t ht _ => ⟨congrArg (fun z => Outcome.returned (some (Value.int z))) hres, ht⟩) (fun _ h => nomatch h) dX7_bit_99
          · refine lv_iload_n hx hb dX7_bit_83 rfl (lv_at hl 2 rfl) ?_
            refine lv_goto (tgt := 99) hx hb dX7_bit_84 (by decide) ?_
            have hres : ((x / 4) - (x / 4) / 2 * 2) = zbt x k := by rw [zbt, if_neg c27, if_neg c41, if_neg c57, if_neg c71, if_pos c80]
            exact W.iret (v := (x / 4) - (x / 4) / 2 * 2) hx hb hr (fun t ht _ => ⟨congrArg (fun z => Outcome.returned (some (Value.int z))) hres, ht⟩) (fun _ h => nomatch h) dX7_bit_99
        · refine lv_iload_n hx hb dX7_bit_74 rfl (lv_at hl 3 rfl) ?_
          refine lv_goto (tgt := 99) hx hb dX7_bit_75 (by decide) ?_
          have hres : ((x / 8) - (x / 8) / 2 * 2) = zbt x k := by rw [zbt, if_neg c27, if_neg c41, if_neg c57, if_pos c71]
          exact W.iret (v := (x / 8) - (x / 8) / 2 * 2) hx hb hr (fun t ht _ => ⟨congrArg (fun z => Outcome.returned (some (Value.int z))) hres, ht⟩) (fun _ h => nomatch h) dX7_bit_99
      · refine lv_iload_n hx hb dX7_bit_60 rfl (lv_at hl 2 rfl) ?_
        refine lv_iload hx hb dX7_bit_61 (lv_at hl 1 rfl) ?_
        refine lv_iadd hx hb dX7_bit_63 ?_
        refine lv_iload hx hb dX7_bit_64 (lv_at hl 0 rfl) ?_
        refine lv_iadd hx hb dX7_bit_66 ?_
        refine lv_iconst (v := 2) hx hb dX7_bit_67 (by decide) ?_
        refine lv_irem hx hb dX7_bit_68 (by decide) ?_
        have hres : (((((x / 4) - (x / 4) / 2 * 2) + ((x / 2) - (x / 2) / 2 * 2)) + (x - x / 2 * 2)) - ((((x / 4) - (x / 4) / 2 * 2) + ((x / 2) - (x / 2) / 2 * 2)) + (x - x / 2 * 2)) / 2 * 2) = zbt x k := by rw [zbt, if_neg c27, if_neg c41, if_pos c57]
        exact W.iret (v := ((((x / 4) - (x / 4) / 2 * 2) + ((x / 2) - (x / 2) / 2 * 2)) + (x - x / 2 * 2)) - ((((x / 4) - (x / 4) / 2 * 2) + ((x / 2) - (x / 2) / 2 * 2)) + (x - x / 2 * 2)) / 2 * 2) hx hb hr (fun t ht _ => ⟨congrArg (fun z => Outcome.returned (some (Value.int z))) hres, ht⟩) (fun _ h => nomatch h) dX7_bit_69
    · refine lv_iload_n hx hb dX7_bit_44 rfl (lv_at hl 3 rfl) ?_
      refine lv_iload hx hb dX7_bit_45 (lv_at hl 1 rfl) ?_
      refine lv_iadd hx hb dX7_bit_47 ?_
      refine lv_iload hx hb dX7_bit_48 (lv_at hl 0 rfl) ?_
      refine lv_iadd hx hb dX7_bit_50 ?_
      refine lv_iconst (v := 2) hx hb dX7_bit_51 (by decide) ?_
      refine lv_irem hx hb dX7_bit_52 (by decide) ?_
      have hres : (((((x / 8) - (x / 8) / 2 * 2) + ((x / 2) - (x / 2) / 2 * 2)) + (x - x / 2 * 2)) - ((((x / 8) - (x / 8) / 2 * 2) + ((x / 2) - (x / 2) / 2 * 2)) + (x - x / 2 * 2)) / 2 * 2) = zbt x k := by rw [zbt, if_neg c27, if_pos c41]
      exact W.iret (v := ((((x / 8) - (x / 8) / 2 * 2) + ((x / 2) - (x / 2) / 2 * 2)) + (x - x / 2 * 2)) - ((((x / 8) - (x / 8) / 2 * 2) + ((x / 2) - (x / 2) / 2 * 2)) + (x - x / 2 * 2)) / 2 * 2) hx hb hr (fun t ht _ => ⟨congrArg (fun z => Outcome.returned (some (Value.int z))) hres, ht⟩) (fun _ h => nomatch h) dX7_bit_53
  · refine lv_iload_n hx hb dX7_bit_30 rfl (lv_at hl 3 rfl) ?_
    refine lv_iload_n hx hb dX7_bit_31 rfl (lv_at hl 2 rfl) ?_
    refine lv_iadd hx hb dX7_bit_32 ?_
    refine lv_iload hx hb dX7_bit_33 (lv_at hl 0 rfl) ?_
    refine lv_iadd hx hb dX7_bit_35 ?_
    refine lv_iconst (v := 2) hx hb dX7_bit_36 (by decide) ?_
    refine lv_irem hx hb dX7_bit_37 (by decide) ?_
    have hres : (((((x / 8) - (x / 8) / 2 * 2) + ((x / 4) - (x / 4) / 2 * 2)) + (x - x / 2 * 2)) - ((((x / 8) - (x / 8) / 2 * 2) + ((x / 4) - (x / 4) / 2 * 2)) + (x - x / 2 * 2)) / 2 * 2) = zbt x k := by rw [zbt, if_pos c27]
    exact W.iret (v := ((((x / 8) - (x / 8) / 2 * 2) + ((x / 4) - (x / 4) / 2 * 2)) + (x - x / 2 * 2)) - ((((x / 8) - (x / 8) / 2 * 2) + ((x / 4) - (x / 4) / 2 * 2)) + (x - x / 2 * 2)) / 2 * 2) hx hb hr (fun t ht _ => ⟨congrArg (fun z => Outcome.returned (some (Value.int z))) hres, ht⟩) (fun _ h => nomatch h) dX7_bit_38
set_option maxHeartbeats 4000000 in
set_option maxRecDepth 100000 in
theorem c_X7_checkOf (l : Launch) (dC : Nat → ClassId) (dI : Nat → Nat → Nat) (cI cZ cJ : ClassId) (a : Nat) (cap : Nat) (f : Nat → Int32) (n : Nat) (hn : n ≤ cap) (hc : cap ≤ 120) (hsg : zsgn f n) : Met l yX7_checkOf wsX7_checkOf ({ frames := 0, cells := 0, slots := 0, locals := 0 }) (zc_P [.ref a, .int (nI n)] (dC, dI) (zc_T cI cZ cJ) [(a, .inl (cI, cap, .inl f))]) (zc_Q (.int (zchk f n))) 0 0 (fun _ => False) := by
  refine Met.ofW (cc := cX7_checkOf) (maxL := 4) (ret := (some .int)) (by decide) rfl ?_
  intro p e s m args below meth c s₁ B hml hv
  obtain ⟨rfl, hP, hK⟩ := hv
  have hx := B.exec
  have hb := B.bytes
  have hr := B.returns
  have hts := atoms_spec (ws := wsX7_checkOf) B.pre
  have hown : s.vm.findClass RX7 = some m.cls := findClass_of_methodNamed B.named
  have hlocks := B.notSynchronized
  have hl := lv_entry ([.ref a, .int (nI n)]) (n := 4) (Nat.le_of_ble_eq_true rfl)
  rw [lg_entry_eq]
  generalize (lg_sl ([.ref a, .int (nI n)]) ++ List.replicate (4 - (lg_sl ([.ref a, .int (nI n)])).length) Slot.unset).toArray = ls at hl ⊢
  have hl : lv_has ls 4 [(0, .ref a), (1, .int (nI n))] := hl
  refine lv_iconst (v := 0) hx hb dX7_checkOf_0 (by decide) ?_
  refine lv_istore_n (lv' := [(2, .int 0), (0, .ref a), (1, .int (nI n))]) hx hb dX7_checkOf_1 rfl hl (by decide) rfl (fun ls hl => ?_)
  refine lv_iconst (v := 0) hx hb dX7_checkOf_2 (by decide) ?_
  refine lv_istore_n (lv' := [(3, .int 0), (2, .int 0), (0, .ref a), (1, .int (nI n))]) hx hb dX7_checkOf_3 rfl hl (by decide) rfl (fun ls hl => ?_)
  refine zc_loop (α := Nat) (fun k ls => lv_has ls 4 [(3, .int (nI k)), (2, .int (zsw f n k)), (0, .ref a), (1, .int (nI n))] ∧ (k ≤ n)) (fun k => n - k) 0 ⟨lv_sub hl [0, 1, 2, 3] rfl, Nat.zero_le _⟩ ?_
  intro x ls hI ih4
  obtain ⟨k, rfl⟩ : ∃ z, z = x := ⟨_, rfl⟩
  obtain ⟨hl, hi1⟩ := hI
  have hl : lv_has ls 4 [(3, .int (nI k)), (2, .int (zsw f n k)), (0, .ref a), (1, .int (nI n))] := hl
  try dsimp only at ih4
  refine lv_iload_n hx hb dX7_checkOf_4 rfl (lv_at hl 0 rfl) ?_
  refine lv_iload_n hx hb dX7_checkOf_5 rfl (lv_at hl 3 rfl) ?_
  refine lv_icmp_ge (tgt := 37) hx hb dX7_checkOf_6 (by decide) (fun c6 => ?_) (fun c6 => ?_)
  · have hge := zn_le c6 (by omega) (by omega)
    have hkn : k = n := by omega
    rw [hkn] at hl
    refine lv_bipush (v := 10) hx hb dX7_checkOf_37 (by decide) ?_
    refine lv_iload_n hx hb dX7_checkOf_39 rfl (lv_at hl 1 rfl) ?_
    refine lv_bipush (v := 10) hx hb dX7_checkOf_40 (by decide) ?_
    refine lv_irem hx hb dX7_checkOf_42 (by decide) ?_
    refine lv_isub hx hb dX7_checkOf_43 ?_
    refine lv_bipush (v := 10) hx hb dX7_checkOf_44 (by decide) ?_
    refine lv_irem hx hb dX7_checkOf_46 (by decide) ?_
    have hres : ((10 - ((zsw f n n) - (zsw f n n) / 10 * 10)) - (10 - ((zsw f n n) - (zsw f n n) / 10 * 10)) / 10 * 10) = zchk f n := by exact zck_eq hsg (by omega)
    exact W.iret (v := (10 - ((zsw f n n) - (zsw f n n) / 10 * 10)) - (10 - ((zsw f n n) - (zsw f n n) / 10 * 10)) / 10 * 10) hx hb hr (fun t ht _ => ⟨congrArg (fun z => Outcome.returned (some (Value.int z))) hres, ht⟩) (fun _ h => nomatch h) dX7_checkOf_47
  · have hlt := zn_nle c6 (by omega) (by omega)
    refine lv_iload_n hx hb dX7_checkOf_9 rfl (lv_at hl 1 rfl) ?_
    refine lv_aload_n hx hb dX7_checkOf_10 rfl (lv_at hl 2 rfl) ?_
    refine lv_iload_n hx hb dX7_checkOf_11 rfl (lv_at hl 3 rfl) ?_
    refine lv_iconst (v := 1) hx hb dX7_checkOf_12 (by decide) ?_
    refine lv_isub hx hb dX7_checkOf_13 ?_
    refine lv_iload_n hx hb dX7_checkOf_14 rfl (lv_at hl 0 rfl) ?_
    refine lv_isub hx hb dX7_checkOf_15 ?_
    refine zc_ti (y := nI (n - 1 - k)) (by rw [zn_pred (by omega), pk_sub (by omega)]) ?_
    refine zc_iald hx hb hK hP 0 0 rfl rfl (n - 1 - k) rfl (by first | assumption | omega) (by first | assumption | omega) dX7_checkOf_16 ?_
    refine lv_iload_n hx hb dX7_checkOf_17 rfl (lv_at hl 0 rfl) ?_
    refine lv_iconst (v := 2) hx hb dX7_checkOf_18 (by decide) ?_
    refine lv_irem hx hb dX7_checkOf_19 (by decide) ?_
    refine zc_ti (y := nI (k % 2)) (pk_rem (d := 2) (by omega) (by decide) (by decide)) ?_
    refine lv_if_ne (tgt := 27) hx hb dX7_checkOf_20 (by decide) (fun c20 => ?_) (fun c20 => ?_)
    · have h2 : ¬ k % 2 = 0 := fun q => c20 (by rw [q]; rfl)
      refine lv_iconst (v := 1) hx hb dX7_checkOf_27 (by decide) ?_
      refine lv_imul hx hb dX7_checkOf_28 ?_
      refine lv_iadd hx hb dX7_checkOf_29 ?_
      refine zc_ti (y := zsw f n (k + 1)) (by rw [zsw, zwt, if_neg h2, Int32.mul_comm]) ?_
      refine lv_istore_n (lv' := [(2, .int (zsw f n (k + 1))), (3, .int (nI k)), (0, .ref a), (1, .int (nI n))]) hx hb dX7_checkOf_30 rfl hl (by decide) rfl (fun ls hl => ?_)
      refine lv_iinc (v := nI (k + 1)) (lv' := [(3, .int (nI (k + 1))), (2, .int (zsw f n (k + 1))), (0, .ref a), (1, .int (nI n))]) hx hb dX7_checkOf_31 hl (k := 1) rfl (nI_1 k) (by decide) rfl (fun ls hl => ?_)
      refine lv_goto (tgt := 4) hx hb dX7_checkOf_34 (by decide) ?_
      exact ih4 (k + 1) _ (by omega) ⟨lv_sub hl [0, 1, 2, 3] rfl, hlt⟩
    · have h2 : k % 2 = 0 := zn_eq (b := 0) c20 (by omega) (by decide)
      refine lv_iconst (v := 3) hx hb dX7_checkOf_23 (by decide) ?_
      refine lv_goto (tgt := 28) hx hb dX7_checkOf_24 (by decide) ?_
      refine lv_imul hx hb dX7_checkOf_28 ?_
      refine lv_iadd hx hb dX7_checkOf_29 ?_
      refine zc_ti (y := zsw f n (k + 1)) (by rw [zsw, zwt, if_pos h2, Int32.mul_comm]) ?_
      refine lv_istore_n (lv' := [(2, .int (zsw f n (k + 1))), (3, .int (nI k)), (0, .ref a), (1, .int (nI n))]) hx hb dX7_checkOf_30 rfl hl (by decide) rfl (fun ls hl => ?_)
      refine lv_iinc (v := nI (k + 1)) (lv' := [(3, .int (nI (k + 1))), (2, .int (zsw f n (k + 1))), (0, .ref a), (1, .int (nI n))]) hx hb dX7_checkOf_31 hl (k := 1) rfl (nI_1 k) (by decide) rfl (fun ls hl => ?_)
      refine lv_goto (tgt := 4) hx hb dX7_checkOf_34 (by decide) ?_
      exact ih4 (k + 1) _ (by omega) ⟨lv_sub hl [0, 1, 2, 3] rfl, hlt⟩
set_option maxHeartbeats 4000000 in
set_option maxRecDepth 100000 in
theorem c_X7_put (l : Launch) (dC : Nat → ClassId) (dI : Nat → Nat → Nat) (cI cZ cJ : ClassId) (h : Nat) (thr : Int32) (fm : Nat) (bL : Nat) (bF : Nat) (bS : Nat) (bN : Nat) (wc : Nat) (bwp : Nat) (bwg : Nat) (bwv : Nat) (mn : Nat) (bmo : Nat) (rn : Nat) (brd : Nat) (tn : Nat) (bty : Nat) (mm : Int32) (sgn : Nat) (bsg : Nat) (fc : Nat) (bpf : Nat) (bpg : Nat) (bpv : Nat) (u : Int32) (lb : Nat) (blF : Nat) (blP : Nat) (blD : Nat) (blN : Nat) (bwn : Nat) (lat : Int32) (bla : Nat) (sg : Nat → Int32) (x : Int32) (hs : sgn < 120) (sz : Nat) : Met l yX7_put wsX7_put ({ frames := 0, cells := 0, slots := 0, locals := 0 }) (zc_PW [.ref h, .int x] (dC, dI) (zc_T cI cZ cJ) [(h, .inr (8, [.int thr, .int (nI fm), .ref bL, .ref bF, .ref bS, .ref bN, .int (nI wc), .ref bwp, .ref bwg, .ref bwv, .int (nI mn), .ref bmo, .int (nI rn), .ref brd, .int (nI tn), .ref bty, .int mm, .int (nI sgn), .ref bsg, .int (nI fc), .ref bpf, .ref bpg, .ref bpv, .int u, .int (nI lb), .ref blF, .ref blP, .ref blD, .ref blN, .ref bwn, .int lat, .ref bla])), (bsg, .inl (cI, 120, .inl sg))] sz) (va_Qv (fun _ : Unit => True) (fun _ t => zc_B (dC, dI) (zc_T cI cZ cJ) (va_A [(h, .inr (8, [.int thr, .int (nI fm), .ref bL, .ref bF, .ref bS, .ref bN, .int (nI wc), .ref bwp, .ref bwg, .ref bwv, .int (nI mn), .ref bmo, .int (nI rn), .ref brd, .int (nI tn), .ref bty, .int mm, .int (nI sgn), .ref bsg, .int (nI fc), .ref bpf, .ref bpg, .ref bpv, .int u, .int (nI lb), .ref blF, .ref blP, .ref blD, .ref blN, .ref bwn, .int lat, .ref bla])), (bsg, .inl (cI, 120, .inl sg))] sz) [(h, .inr (8, [.int thr, .int (nI fm), .ref bL, .ref bF, .ref bS, .ref bN, .int (nI wc), .ref bwp, .ref bwg, .ref bwv, .int (nI mn), .ref bmo, .int (nI rn), .ref brd, .int (nI tn), .ref bty, .int mm, .int (nI (sgn + 1)), .ref bsg, .int (nI fc), .ref bpf, .ref bpg, .ref bpv, .int u, .int (nI lb), .ref blF, .ref blP, .ref blD, .ref blN, .ref bwn, .int lat, .ref bla])), (bsg, .inl (cI, 120, .inl (upd sg sgn x)))] t) (va_A [(h, .inr (8, [.int thr, .int (nI fm), .ref bL, .ref bF, .ref bS, .ref bN, .int (nI wc), .ref bwp, .ref bwg, .ref bwv, .int (nI mn), .ref bmo, .int (nI rn), .ref brd, .int (nI tn), .ref bty, .int mm, .int (nI sgn), .ref bsg, .int (nI fc), .ref bpf, .ref bpg, .ref bpv, .int u, .int (nI lb), .ref blF, .ref blP, .ref blD, .ref blN, .ref bwn, .int lat, .ref bla])), (bsg, .inl (cI, 120, .inl sg))] sz)) 0 0 (va_A [(h, .inr (8, [.int thr, .int (nI fm), .ref bL, .ref bF, .ref bS, .ref bN, .int (nI wc), .ref bwp, .ref bwg, .ref bwv, .int (nI mn), .ref bmo, .int (nI rn), .ref brd, .int (nI tn), .ref bty, .int mm, .int (nI sgn), .ref bsg, .int (nI fc), .ref bpf, .ref bpg, .ref bpv, .int u, .int (nI lb), .ref blF, .ref blP, .ref blD, .ref blN, .ref bwn, .int lat, .ref bla])), (bsg, .inl (cI, 120, .inl sg))] sz) := by
  refine Met.ofW (cc := cX7_put) (maxL := 2) (ret := none) (by decide) rfl ?_
  intro p e s m args below meth c s₁ B hml hv
  obtain ⟨rfl, hsz, hP, hK, hD0⟩ := hv
  have hx := B.exec
  have hb := B.bytes
  have hr := B.returns
  have hts := atoms_spec (ws := wsX7_put) B.pre
  have hown : s.vm.findClass RX7 = some m.cls := findClass_of_methodNamed B.named
  have hlocks := B.notSynchronized
  subst hsz
  have hD := hD0.self (sz := s.heap.size)
  generalize hAe : va_A [(h, .inr (8, [.int thr, .int (nI fm), .ref bL, .ref bF, .ref bS, .ref bN, .int (nI wc), .ref bwp, .ref bwg, .ref bwv, .int (nI mn), .ref bmo, .int (nI rn), .ref brd, .int (nI tn), .ref bty, .int mm, .int (nI sgn), .ref bsg, .int (nI fc), .ref bpf, .ref bpg, .ref bpv, .int u, .int (nI lb), .ref blF, .ref blP, .ref blD, .ref blN, .ref bwn, .int lat, .ref bla])), (bsg, .inl (cI, 120, .inl sg))] s.heap.size = A at hD ⊢
  have hA : ∀ q : Nat, s.heap.size ≤ q → A q := fun q h => by rw [← hAe]; exact Or.inr h
  have hS : va_S A s.heap s.heap [] := va_S.rf
  have hinX7 : ∀ w ∈ wsX70, w ∈ wsX7_put := by decide +kernel
  have hl := lv_entry ([.ref h, .int x]) (n := 2) (Nat.le_of_ble_eq_true rfl)
  rw [lg_entry_eq]
  generalize (lg_sl ([.ref h, .int x]) ++ List.replicate (2 - (lg_sl ([.ref h, .int x])).length) Slot.unset).toArray = ls at hl ⊢
  have hl : lv_has ls 2 [(0, .ref h), (1, .int x)] := hl
  refine lv_aload_n hx hb dX7_put_0 rfl (lv_at hl 0 rfl) ?_
  refine va_get (D := (dC, dI)) (ci := 8) (v := .ref bsg) (C := RX7) (T := TX7) (N := 32) hx hb hts hinX7 hown hK hP 0 rfl rfl 18 (by decide) (hts (.fieldLink RX7 64 "ScanCodesModel" "sign" "[I") (by decide +kernel)) (fun _ h9 => h9) rfl dX7_put_1 ?_
  refine lv_aload_n hx hb dX7_put_4 rfl (lv_at hl 0 rfl) ?_
  refine va_get (D := (dC, dI)) (ci := 8) (v := .int (nI sgn)) (C := RX7) (T := TX7) (N := 32) hx hb hts hinX7 hown hK hP 0 rfl rfl 17 (by decide) (hts (.fieldLink RX7 61 "ScanCodesModel" "signs" "I") (by decide +kernel)) (fun _ h9 => h9) rfl dX7_put_5 ?_
  refine lv_iload_n hx hb dX7_put_8 rfl (lv_at hl 1 rfl) ?_
  refine zc_iast hx hb hK hP hD hS 1 0 rfl rfl sgn rfl (by first | assumption | omega) (by decide) dX7_put_9 (fun H locs hP hD hS => ?_)
  have hP : va_P (dC, dI) vwCl [(h, .inr (8, [.int thr, .int (nI fm), .ref bL, .ref bF, .ref bS, .ref bN, .int (nI wc), .ref bwp, .ref bwg, .ref bwv, .int (nI mn), .ref bmo, .int (nI rn), .ref brd, .int (nI tn), .ref bty, .int mm, .int (nI sgn), .ref bsg, .int (nI fc), .ref bpf, .ref bpg, .ref bpv, .int u, .int (nI lb), .ref blF, .ref blP, .ref blD, .ref blN, .ref bwn, .int lat, .ref bla])), (bsg, .inl (cI, 120, .inl (upd sg sgn x)))] H := hP
  have hD : va_D A [(h, .inr (8, [.int thr, .int (nI fm), .ref bL, .ref bF, .ref bS, .ref bN, .int (nI wc), .ref bwp, .ref bwg, .ref bwv, .int (nI mn), .ref bmo, .int (nI rn), .ref brd, .int (nI tn), .ref bty, .int mm, .int (nI sgn), .ref bsg, .int (nI fc), .ref bpf, .ref bpg, .ref bpv, .int u, .int (nI lb), .ref blF, .ref blP, .ref blD, .ref blN, .ref bwn, .int lat, .ref bla])), (bsg, .inl (cI, 120, .inl (upd sg sgn x)))] := hD
  refine lv_aload_n hx hb dX7_put_10 rfl (lv_at hl 0 rfl) ?_
  refine lv_dup hx hb dX7_put_11 rfl ?_
  refine va_get (D := (dC, dI)) (ci := 8) (v := .int (nI sgn)) (C := RX7) (T := TX7) (N := 32) hx hb hts hinX7 hown hK hP 0 rfl rfl 17 (by decide) (hts (.fieldLink RX7 61 "ScanCodesModel" "signs" "I") (by decide +kernel)) (fun _ h9 => h9) rfl dX7_put_12 ?_
  refine lv_iconst (v := 1) hx hb dX7_put_15 (by decide) ?_
  refine lv_iadd hx hb dX7_put_16 ?_
  refine zc_ti (y := nI (sgn + 1)) (nI_1 sgn) ?_
  refine va_put (D := (dC, dI)) (ci := 8) (v := .int (nI (sgn + 1))) (ty := .int) (C := RX7) (T := TX7) (N := 32) hx hb hts hinX7 tyX7 tyX7_ok nmX7 hown hK hP hD hS 0 rfl rfl 17 (by decide) (hts (.fieldLink RX7 61 "ScanCodesModel" "signs" "I") (by decide +kernel)) (fun _ h9 => h9) rfl (by decide +kernel) rfl rfl (Nat.le_of_ble_eq_true rfl) dX7_put_17 (fun H locs hP hD hS => ?_)
  have hP : va_P (dC, dI) vwCl [(h, .inr (8, [.int thr, .int (nI fm), .ref bL, .ref bF, .ref bS, .ref bN, .int (nI wc), .ref bwp, .ref bwg, .ref bwv, .int (nI mn), .ref bmo, .int (nI rn), .ref brd, .int (nI tn), .ref bty, .int mm, .int (nI (sgn + 1)), .ref bsg, .int (nI fc), .ref bpf, .ref bpg, .ref bpv, .int u, .int (nI lb), .ref blF, .ref blP, .ref blD, .ref blN, .ref bwn, .int lat, .ref bla])), (bsg, .inl (cI, 120, .inl (upd sg sgn x)))] H := hP
  have hD : va_D A [(h, .inr (8, [.int thr, .int (nI fm), .ref bL, .ref bF, .ref bS, .ref bN, .int (nI wc), .ref bwp, .ref bwg, .ref bwv, .int (nI mn), .ref bmo, .int (nI rn), .ref brd, .int (nI tn), .ref bty, .int mm, .int (nI (sgn + 1)), .ref bsg, .int (nI fc), .ref bpf, .ref bpg, .ref bpv, .int u, .int (nI lb), .ref blF, .ref blP, .ref blD, .ref blN, .ref bwn, .int lat, .ref bla])), (bsg, .inl (cI, 120, .inl (upd sg sgn x)))] := hD
  have hP9 : va_P (dC, dI) vwCl [(h, .inr (8, [.int thr, .int (nI fm), .ref bL, .ref bF, .ref bS, .ref bN, .int (nI wc), .ref bwp, .ref bwg, .ref bwv, .int (nI mn), .ref bmo, .int (nI rn), .ref brd, .int (nI tn), .ref bty, .int mm, .int (nI (sgn + 1)), .ref bsg, .int (nI fc), .ref bpf, .ref bpg, .ref bpv, .int u, .int (nI lb), .ref blF, .ref blP, .ref blD, .ref blN, .ref bwn, .int lat, .ref bla])), (bsg, .inl (cI, 120, .inl (upd sg sgn x)))] H := hP
  have hD9 : va_D A [(h, .inr (8, [.int thr, .int (nI fm), .ref bL, .ref bF, .ref bS, .ref bN, .int (nI wc), .ref bwp, .ref bwg, .ref bwv, .int (nI mn), .ref bmo, .int (nI rn), .ref brd, .int (nI tn), .ref bty, .int mm, .int (nI (sgn + 1)), .ref bsg, .int (nI fc), .ref bpf, .ref bpg, .ref bpv, .int u, .int (nI lb), .ref blF, .ref blP, .ref blD, .ref blN, .ref bwn, .int lat, .ref bla])), (bsg, .inl (cI, 120, .inl (upd sg sgn x)))] := hD
  exact W.vret hx hb hr (fun t ht hW => ⟨⟨(), rfl, trivial, by rw [ht]; exact hP9, va_K.moved hW.alike hK, hD9⟩, hS.F ht⟩) hS.2.2 dX7_put_20
set_option maxHeartbeats 4000000 in
set_option maxRecDepth 100000 in
theorem c_X7_width (l : Launch) (dC : Nat → ClassId) (dI : Nat → Nat → Nat) (cI cZ cJ : ClassId) (h : Nat) (thr : Int32) (fm : Nat) (bL : Nat) (bF : Nat) (bS : Nat) (bN : Nat) (wc : Nat) (bwp : Nat) (bwg : Nat) (bwv : Nat) (mn : Nat) (bmo : Nat) (rn : Nat) (brd : Nat) (tn : Nat) (bty : Nat) (mm : Int32) (sgn : Nat) (bsg : Nat) (fc : Nat) (bpf : Nat) (bpg : Nat) (bpv : Nat) (u : Int32) (lb : Nat) (blF : Nat) (blP : Nat) (blD : Nat) (blN : Nat) (bwn : Nat) (lat : Int32) (bla : Nat) (hf : fm ≤ 2) : Met l yX7_width wsX7_width ({ frames := 0, cells := 0, slots := 0, locals := 0 }) (zc_P [.ref h] (dC, dI) (zc_T cI cZ cJ) [(h, .inr (8, [.int thr, .int (nI fm), .ref bL, .ref bF, .ref bS, .ref bN, .int (nI wc), .ref bwp, .ref bwg, .ref bwv, .int (nI mn), .ref bmo, .int (nI rn), .ref brd, .int (nI tn), .ref bty, .int mm, .int (nI sgn), .ref bsg, .int (nI fc), .ref bpf, .ref bpg, .ref bpv, .int u, .int (nI lb), .ref blF, .ref blP, .ref blD, .ref blN, .ref bwn, .int lat, .ref bla]))]) (zc_Q (.int (nI (zw fm)))) 0 0 (fun _ => False) := by
  refine Met.ofW (cc := cX7_width) (maxL := 1) (ret := (some .int)) (by decide) rfl ?_
  intro p e s m args below meth c s₁ B hml hv
  obtain ⟨rfl, hP, hK⟩ := hv
  have hx := B.exec
  have hb := B.bytes
  have hr := B.returns
  have hts := atoms_spec (ws := wsX7_width) B.pre
  have hown : s.vm.findClass RX7 = some m.cls := findClass_of_methodNamed B.named
  have hlocks := B.notSynchronized
  have hinX7 : ∀ w ∈ wsX70, w ∈ wsX7_width := by decide +kernel
  have hl := lv_entry ([.ref h]) (n := 1) (Nat.le_of_ble_eq_true rfl)
  rw [lg_entry_eq]
  generalize (lg_sl ([.ref h]) ++ List.replicate (1 - (lg_sl ([.ref h])).length) Slot.unset).toArray = ls at hl ⊢
  have hl : lv_has ls 1 [(0, .ref h)] := hl
  refine lv_aload_n hx hb dX7_width_0 rfl (lv_at hl 0 rfl) ?_
  refine va_get (D := (dC, dI)) (ci := 8) (v := .int (nI fm)) (C := RX7) (T := TX7) (N := 32) hx hb hts hinX7 hown hK hP 0 rfl rfl 1 (by decide) (hts (.fieldLink RX7 106 "ScanCodesModel" "form" "I") (by decide +kernel)) (fun _ h9 => h9) rfl dX7_width_1 ?_
  refine lv_if_ne (tgt := 11) hx hb dX7_width_4 (by decide) (fun c4 => ?_) (fun c4 => ?_)
  · have h2 := zn_ne (b := 0) c4 (by omega) (by decide)
    refine lv_bipush (v := 7) hx hb dX7_width_11 (by decide) ?_
    have hres : (7 : Int32) = nI (zw fm) := by rw [zw_n h2]; rfl
    exact W.iret (v := 7) hx hb hr (fun t ht _ => ⟨congrArg (fun z => Outcome.returned (some (Value.int z))) hres, ht⟩) (fun _ h => nomatch h) dX7_width_13
  · have h2 := zn_eq (b := 0) c4 (by omega) (by decide)
    refine lv_iconst (v := 4) hx hb dX7_width_7 (by decide) ?_
    refine lv_goto (tgt := 13) hx hb dX7_width_8 (by decide) ?_
    have hres : (4 : Int32) = nI (zw fm) := by rw [h2]; rfl
    exact W.iret (v := 4) hx hb hr (fun t ht _ => ⟨congrArg (fun z => Outcome.returned (some (Value.int z))) hres, ht⟩) (fun _ h => nomatch h) dX7_width_13
set_option maxHeartbeats 4000000 in
set_option maxRecDepth 100000 in
theorem c_X7_place (l : Launch) (dC : Nat → ClassId) (dI : Nat → Nat → Nat) (cI cZ cJ : ClassId) (h : Nat) (thr : Int32) (fm : Nat) (bL : Nat) (bF : Nat) (bS : Nat) (bN : Nat) (wc : Nat) (bwp : Nat) (bwg : Nat) (bwv : Nat) (mn : Nat) (bmo : Nat) (rn : Nat) (brd : Nat) (tn : Nat) (bty : Nat) (mm : Int32) (sgn : Nat) (bsg : Nat) (fc : Nat) (bpf : Nat) (bpg : Nat) (bpv : Nat) (u : Int32) (lb : Nat) (blF : Nat) (blP : Nat) (blD : Nat) (blN : Nat) (bwn : Nat) (lat : Int32) (bla : Nat) (a : Nat) (k : Nat) (n : Nat) (hf : fm ≤ 2) : Met l yX7_place wsX7_place ({ frames := 1, cells := 0, slots := 0, locals := 20 }) (zc_P [.ref h, .int (nI a), .int (nI k), .int (nI n)] (dC, dI) (zc_T cI cZ cJ) [(h, .inr (8, [.int thr, .int (nI fm), .ref bL, .ref bF, .ref bS, .ref bN, .int (nI wc), .ref bwp, .ref bwg, .ref bwv, .int (nI mn), .ref bmo, .int (nI rn), .ref brd, .int (nI tn), .ref bty, .int mm, .int (nI sgn), .ref bsg, .int (nI fc), .ref bpf, .ref bpg, .ref bpv, .int u, .int (nI lb), .ref blF, .ref blP, .ref blD, .ref blN, .ref bwn, .int lat, .ref bla]))]) (zc_Q (.int (nI (zpl fm a k n)))) 0 0 (fun _ => False) := by
  refine Met.ofW (cc := cX7_place) (maxL := 4) (ret := (some .int)) (by decide) rfl ?_
  intro p e s m args below meth c s₁ B hml hv
  obtain ⟨rfl, hP, hK⟩ := hv
  have hx := B.exec
  have hb := B.bytes
  have hr := B.returns
  have hts := atoms_spec (ws := wsX7_place) B.pre
  have hown : s.vm.findClass RX7 = some m.cls := findClass_of_methodNamed B.named
  have hlocks := B.notSynchronized
  have hinX7 : ∀ w ∈ wsX70, w ∈ wsX7_place := by decide +kernel
  have hl := lv_entry ([.ref h, .int (nI a), .int (nI k), .int (nI n)]) (n := 4) (Nat.le_of_ble_eq_true rfl)
  rw [lg_entry_eq]
  generalize (lg_sl ([.ref h, .int (nI a), .int (nI k), .int (nI n)]) ++ List.replicate (4 - (lg_sl ([.ref h, .int (nI a), .int (nI k), .int (nI n)])).length) Slot.unset).toArray = ls at hl ⊢
  have hl : lv_has ls 4 [(0, .ref h), (1, .int (nI a)), (2, .int (nI k)), (3, .int (nI n))] := hl
  refine lv_aload_n hx hb dX7_place_0 rfl (lv_at hl 0 rfl) ?_
  refine va_get (D := (dC, dI)) (ci := 8) (v := .int (nI fm)) (C := RX7) (T := TX7) (N := 32) hx hb hts hinX7 hown hK hP 0 rfl rfl 1 (by decide) (hts (.fieldLink RX7 106 "ScanCodesModel" "form" "I") (by decide +kernel)) (fun _ h9 => h9) rfl dX7_place_1 ?_
  refine lv_iconst (v := 2) hx hb dX7_place_4 (by decide) ?_
  refine lv_icmp_ne (tgt := 16) hx hb dX7_place_5 (by decide) (fun c5 => ?_) (fun c5 => ?_)
  · have h2 := zn_ne (b := 2) c5 (by omega) (by decide)
    refine lv_aload_n hx hb dX7_place_16 rfl (lv_at hl 0 rfl) ?_
    refine zc_callR (va_runV (As := []) (rest := []) ⟨hx, hb, hml, hown, hts⟩ (c_X7_width l dC dI cI cZ cJ h thr fm bL bF bS bN wc bwp bwg bwv mn bmo rn brd tn bty mm sgn bsg fc bpf bpg bpv u lb blF blP blD blN bwn lat bla (by first | assumption | omega)) (zc_V 0 hts ggX7_place_X7_width rfl rfl rfl (by decide +kernel) (by decide +kernel) ⟨Nat.le_of_ble_eq_true rfl, Nat.le_of_ble_eq_true rfl⟩) ⟨zc_blind, va_recv hK hP (ci := 8) (q0 := 0) rfl rfl, zc_pay (hP.sub (ws' := [(h, .inr (8, [.int thr, .int (nI fm), .ref bL, .ref bF, .ref bS, .ref bN, .int (nI wc), .ref bwp, .ref bwg, .ref bwv, .int (nI mn), .ref bmo, .int (nI rn), .ref brd, .int (nI tn), .ref bty, .int mm, .int (nI sgn), .ref bsg, .int (nI fc), .ref bpf, .ref bpg, .ref bpv, .int u, .int (nI lb), .ref blF, .ref blP, .ref blD, .ref blN, .ref bwn, .int lat, .ref bla]))]) [0] rfl) hK⟩ rfl rfl hl.1 rfl (lv_room (Nat.le_of_ble_eq_true rfl)) dX7_place_17 ⟨Nat.le_of_ble_eq_true rfl, Nat.le_of_ble_eq_true rfl⟩) ?_
    refine lv_iload_n hx hb dX7_place_20 rfl (lv_at hl 1 rfl) ?_
    refine lv_imul hx hb dX7_place_21 ?_
    refine lv_iload_n hx hb dX7_place_22 rfl (lv_at hl 2 rfl) ?_
    refine lv_iadd hx hb dX7_place_23 ?_
    have hres : (((nI (zw fm)) * (nI a)) + (nI k)) = nI (zpl fm a k n) := by rw [pk_mul, nI_add, zpl, if_neg h2, Nat.mul_comm]
    exact W.iret (v := ((nI (zw fm)) * (nI a)) + (nI k)) hx hb hr (fun t ht _ => ⟨congrArg (fun z => Outcome.returned (some (Value.int z))) hres, ht⟩) (fun _ h => nomatch h) dX7_place_24
  · have h2 := zn_eq (b := 2) c5 (by omega) (by decide)
    refine lv_iload_n hx hb dX7_place_8 rfl (lv_at hl 2 rfl) ?_
    refine lv_iload_n hx hb dX7_place_9 rfl (lv_at hl 3 rfl) ?_
    refine lv_imul hx hb dX7_place_10 ?_
    refine lv_iload_n hx hb dX7_place_11 rfl (lv_at hl 1 rfl) ?_
    refine lv_iadd hx hb dX7_place_12 ?_
    refine lv_goto (tgt := 24) hx hb dX7_place_13 (by decide) ?_
    have hres : (((nI k) * (nI n)) + (nI a)) = nI (zpl fm a k n) := by rw [pk_mul, nI_add, zpl, if_pos h2]
    exact W.iret (v := ((nI k) * (nI n)) + (nI a)) hx hb hr (fun t ht _ => ⟨congrArg (fun z => Outcome.returned (some (Value.int z))) hres, ht⟩) (fun _ h => nomatch h) dX7_place_24
set_option maxHeartbeats 4000000 in
set_option maxRecDepth 100000 in
theorem c_X7_forget (l : Launch) (dC : Nat → ClassId) (dI : Nat → Nat → Nat) (cI cZ cJ : ClassId) (h : Nat) (thr : Int32) (fm : Nat) (bL : Nat) (bF : Nat) (bS : Nat) (bN : Nat) (wc : Nat) (bwp : Nat) (bwg : Nat) (bwv : Nat) (mn : Nat) (bmo : Nat) (rn : Nat) (brd : Nat) (tn : Nat) (bty : Nat) (mm : Int32) (sgn : Nat) (bsg : Nat) (fc : Nat) (bpf : Nat) (bpg : Nat) (bpv : Nat) (u : Int32) (lb : Nat) (blF : Nat) (blP : Nat) (blD : Nat) (blN : Nat) (bwn : Nat) (lat : Int32) (bla : Nat) (sz : Nat) : Met l yX7_forget wsX7_forget ({ frames := 0, cells := 0, slots := 0, locals := 0 }) (zc_PW [.ref h] (dC, dI) (zc_T cI cZ cJ) [(h, .inr (8, [.int thr, .int (nI fm), .ref bL, .ref bF, .ref bS, .ref bN, .int (nI wc), .ref bwp, .ref bwg, .ref bwv, .int (nI mn), .ref bmo, .int (nI rn), .ref brd, .int (nI tn), .ref bty, .int mm, .int (nI sgn), .ref bsg, .int (nI fc), .ref bpf, .ref bpg, .ref bpv, .int u, .int (nI lb), .ref blF, .ref blP, .ref blD, .ref blN, .ref bwn, .int lat, .ref bla]))] sz) (va_Qv (fun _ : Unit => True) (fun _ t => zc_B (dC, dI) (zc_T cI cZ cJ) (va_A [(h, .inr (8, [.int thr, .int (nI fm), .ref bL, .ref bF, .ref bS, .ref bN, .int (nI wc), .ref bwp, .ref bwg, .ref bwv, .int (nI mn), .ref bmo, .int (nI rn), .ref brd, .int (nI tn), .ref bty, .int mm, .int (nI sgn), .ref bsg, .int (nI fc), .ref bpf, .ref bpg, .ref bpv, .int u, .int (nI lb), .ref blF, .ref blP, .ref blD, .ref blN, .ref bwn, .int lat, .ref bla]))] sz) [(h, .inr (8, [.int thr, .int (nI fm), .ref bL, .ref bF, .ref bS, .ref bN, .int (nI wc), .ref bwp, .ref bwg, .ref bwv, .int (nI mn), .ref bmo, .int (nI rn), .ref brd, .int (nI tn), .ref bty, .int mm, .int (nI sgn), .ref bsg, .int (nI 0), .ref bpf, .ref bpg, .ref bpv, .int (-1), .int (nI lb), .ref blF, .ref blP, .ref blD, .ref blN, .ref bwn, .int lat, .ref bla]))] t) (va_A [(h, .inr (8, [.int thr, .int (nI fm), .ref bL, .ref bF, .ref bS, .ref bN, .int (nI wc), .ref bwp, .ref bwg, .ref bwv, .int (nI mn), .ref bmo, .int (nI rn), .ref brd, .int (nI tn), .ref bty, .int mm, .int (nI sgn), .ref bsg, .int (nI fc), .ref bpf, .ref bpg, .ref bpv, .int u, .int (nI lb), .ref blF, .ref blP, .ref blD, .ref blN, .ref bwn, .int lat, .ref bla]))] sz)) 0 0 (va_A [(h, .inr (8, [.int thr, .int (nI fm), .ref bL, .ref bF, .ref bS, .ref bN, .int (nI wc), .ref bwp, .ref bwg, .ref bwv, .int (nI mn), .ref bmo, .int (nI rn), .ref brd, .int (nI tn), .ref bty, .int mm, .int (nI sgn), .ref bsg, .int (nI fc), .ref bpf, .ref bpg, .ref bpv, .int u, .int (nI lb), .ref blF, .ref blP, .ref blD, .ref blN, .ref bwn, .int lat, .ref bla]))] sz) := by
  refine Met.ofW (cc := cX7_forget) (maxL := 1) (ret := none) (by decide) rfl ?_
  intro p e s m args below meth c s₁ B hml hv
  obtain ⟨rfl, hsz, hP, hK, hD0⟩ := hv
  have hx := B.exec
  have hb := B.bytes
  have hr := B.returns
  have hts := atoms_spec (ws := wsX7_forget) B.pre
  have hown : s.vm.findClass RX7 = some m.cls := findClass_of_methodNamed B.named
  have hlocks := B.notSynchronized
  subst hsz
  have hD := hD0.self (sz := s.heap.size)
  generalize hAe : va_A [(h, .inr (8, [.int thr, .int (nI fm), .ref bL, .ref bF, .ref bS, .ref bN, .int (nI wc), .ref bwp, .ref bwg, .ref bwv, .int (nI mn), .ref bmo, .int (nI rn), .ref brd, .int (nI tn), .ref bty, .int mm, .int (nI sgn), .ref bsg, .int (nI fc), .ref bpf, .ref bpg, .ref bpv, .int u, .int (nI lb), .ref blF, .ref blP, .ref blD, .ref blN, .ref bwn, .int lat, .ref bla]))] s.heap.size = A at hD ⊢
  have hA : ∀ q : Nat, s.heap.size ≤ q → A q := fun q h => by rw [← hAe]; exact Or.inr h
  have hS : va_S A s.heap s.heap [] := va_S.rf
  have hinX7 : ∀ w ∈ wsX70, w ∈ wsX7_forget := by decide +kernel
  have hl := lv_entry ([.ref h]) (n := 1) (Nat.le_of_ble_eq_true rfl)
  rw [lg_entry_eq]
  generalize (lg_sl ([.ref h]) ++ List.replicate (1 - (lg_sl ([.ref h])).length) Slot.unset).toArray = ls at hl ⊢
  have hl : lv_has ls 1 [(0, .ref h)] := hl
  refine lv_aload_n hx hb dX7_forget_0 rfl (lv_at hl 0 rfl) ?_
  refine lv_iconst (v := 0) hx hb dX7_forget_1 (by decide) ?_
  refine va_put (D := (dC, dI)) (ci := 8) (v := .int 0) (ty := .int) (C := RX7) (T := TX7) (N := 32) hx hb hts hinX7 tyX7 tyX7_ok nmX7 hown hK hP hD hS 0 rfl rfl 19 (by decide) (hts (.fieldLink RX7 67 "ScanCodesModel" "fields" "I") (by decide +kernel)) (fun _ h9 => h9) rfl (by decide +kernel) rfl rfl (Nat.le_of_ble_eq_true rfl) dX7_forget_2 (fun H locs hP hD hS => ?_)
  have hP : va_P (dC, dI) vwCl [(h, .inr (8, [.int thr, .int (nI fm), .ref bL, .ref bF, .ref bS, .ref bN, .int (nI wc), .ref bwp, .ref bwg, .ref bwv, .int (nI mn), .ref bmo, .int (nI rn), .ref brd, .int (nI tn), .ref bty, .int mm, .int (nI sgn), .ref bsg, .int 0, .ref bpf, .ref bpg, .ref bpv, .int u, .int (nI lb), .ref blF, .ref blP, .ref blD, .ref blN, .ref bwn, .int lat, .ref bla]))] H := hP
  have hD : va_D A [(h, .inr (8, [.int thr, .int (nI fm), .ref bL, .ref bF, .ref bS, .ref bN, .int (nI wc), .ref bwp, .ref bwg, .ref bwv, .int (nI mn), .ref bmo, .int (nI rn), .ref brd, .int (nI tn), .ref bty, .int mm, .int (nI sgn), .ref bsg, .int 0, .ref bpf, .ref bpg, .ref bpv, .int u, .int (nI lb), .ref blF, .ref blP, .ref blD, .ref blN, .ref bwn, .int lat, .ref bla]))] := hD
  refine lv_aload_n hx hb dX7_forget_5 rfl (lv_at hl 0 rfl) ?_
  refine lv_iconst (v := (-1)) hx hb dX7_forget_6 (by decide) ?_
  refine va_put (D := (dC, dI)) (ci := 8) (v := .int (-1)) (ty := .int) (C := RX7) (T := TX7) (N := 32) hx hb hts hinX7 tyX7 tyX7_ok nmX7 hown hK hP hD hS 0 rfl rfl 23 (by decide) (hts (.fieldLink RX7 79 "ScanCodesModel" "unknown" "I") (by decide +kernel)) (fun _ h9 => h9) rfl (by decide +kernel) rfl rfl (Nat.le_of_ble_eq_true rfl) dX7_forget_7 (fun H locs hP hD hS => ?_)
  have hP : va_P (dC, dI) vwCl [(h, .inr (8, [.int thr, .int (nI fm), .ref bL, .ref bF, .ref bS, .ref bN, .int (nI wc), .ref bwp, .ref bwg, .ref bwv, .int (nI mn), .ref bmo, .int (nI rn), .ref brd, .int (nI tn), .ref bty, .int mm, .int (nI sgn), .ref bsg, .int 0, .ref bpf, .ref bpg, .ref bpv, .int (-1), .int (nI lb), .ref blF, .ref blP, .ref blD, .ref blN, .ref bwn, .int lat, .ref bla]))] H := hP
  have hD : va_D A [(h, .inr (8, [.int thr, .int (nI fm), .ref bL, .ref bF, .ref bS, .ref bN, .int (nI wc), .ref bwp, .ref bwg, .ref bwv, .int (nI mn), .ref bmo, .int (nI rn), .ref brd, .int (nI tn), .ref bty, .int mm, .int (nI sgn), .ref bsg, .int 0, .ref bpf, .ref bpg, .ref bpv, .int (-1), .int (nI lb), .ref blF, .ref blP, .ref blD, .ref blN, .ref bwn, .int lat, .ref bla]))] := hD
  have hP9 : va_P (dC, dI) vwCl [(h, .inr (8, [.int thr, .int (nI fm), .ref bL, .ref bF, .ref bS, .ref bN, .int (nI wc), .ref bwp, .ref bwg, .ref bwv, .int (nI mn), .ref bmo, .int (nI rn), .ref brd, .int (nI tn), .ref bty, .int mm, .int (nI sgn), .ref bsg, .int (nI 0), .ref bpf, .ref bpg, .ref bpv, .int (-1), .int (nI lb), .ref blF, .ref blP, .ref blD, .ref blN, .ref bwn, .int lat, .ref bla]))] H := hP
  have hD9 : va_D A [(h, .inr (8, [.int thr, .int (nI fm), .ref bL, .ref bF, .ref bS, .ref bN, .int (nI wc), .ref bwp, .ref bwg, .ref bwv, .int (nI mn), .ref bmo, .int (nI rn), .ref brd, .int (nI tn), .ref bty, .int mm, .int (nI sgn), .ref bsg, .int (nI 0), .ref bpf, .ref bpg, .ref bpv, .int (-1), .int (nI lb), .ref blF, .ref blP, .ref blD, .ref blN, .ref bwn, .int lat, .ref bla]))] := hD
  exact W.vret hx hb hr (fun t ht hW => ⟨⟨(), rfl, trivial, by rw [ht]; exact hP9, va_K.moved hW.alike hK, hD9⟩, hS.F ht⟩) hS.2.2 dX7_forget_10
set_option maxHeartbeats 4000000 in
set_option maxRecDepth 100000 in
theorem c_X7_thrown (l : Launch) (dC : Nat → ClassId) (dI : Nat → Nat → Nat) (cI cZ cJ : ClassId) (h : Nat) (thr : Int32) (fm : Nat) (bL : Nat) (bF : Nat) (bS : Nat) (bN : Nat) (wc : Nat) (bwp : Nat) (bwg : Nat) (bwv : Nat) (mn : Nat) (bmo : Nat) (rn : Nat) (brd : Nat) (tn : Nat) (bty : Nat) (mm : Int32) (sgn : Nat) (bsg : Nat) (fc : Nat) (bpf : Nat) (bpg : Nat) (bpv : Nat) (u : Int32) (lb : Nat) (blF : Nat) (blP : Nat) (blD : Nat) (blN : Nat) (bwn : Nat) (lat : Int32) (bla : Nat) : Met l yX7_thrown wsX7_thrown ({ frames := 0, cells := 0, slots := 0, locals := 0 }) (zc_P [.ref h] (dC, dI) (zc_T cI cZ cJ) [(h, .inr (8, [.int thr, .int (nI fm), .ref bL, .ref bF, .ref bS, .ref bN, .int (nI wc), .ref bwp, .ref bwg, .ref bwv, .int (nI mn), .ref bmo, .int (nI rn), .ref brd, .int (nI tn), .ref bty, .int mm, .int (nI sgn), .ref bsg, .int (nI fc), .ref bpf, .ref bpg, .ref bpv, .int u, .int (nI lb), .ref blF, .ref blP, .ref blD, .ref blN, .ref bwn, .int lat, .ref bla]))]) (zc_Q (.int thr)) 0 0 (fun _ => False) := by
  refine Met.ofW (cc := cX7_thrown) (maxL := 1) (ret := (some .int)) (by decide) rfl ?_
  intro p e s m args below meth c s₁ B hml hv
  obtain ⟨rfl, hP, hK⟩ := hv
  have hx := B.exec
  have hb := B.bytes
  have hr := B.returns
  have hts := atoms_spec (ws := wsX7_thrown) B.pre
  have hown : s.vm.findClass RX7 = some m.cls := findClass_of_methodNamed B.named
  have hlocks := B.notSynchronized
  have hinX7 : ∀ w ∈ wsX70, w ∈ wsX7_thrown := by decide +kernel
  have hl := lv_entry ([.ref h]) (n := 1) (Nat.le_of_ble_eq_true rfl)
  rw [lg_entry_eq]
  generalize (lg_sl ([.ref h]) ++ List.replicate (1 - (lg_sl ([.ref h])).length) Slot.unset).toArray = ls at hl ⊢
  have hl : lv_has ls 1 [(0, .ref h)] := hl
  refine lv_aload_n hx hb dX7_thrown_0 rfl (lv_at hl 0 rfl) ?_
  refine va_get (D := (dC, dI)) (ci := 8) (v := .int thr) (C := RX7) (T := TX7) (N := 32) hx hb hts hinX7 hown hK hP 0 rfl rfl 0 (by decide) (hts (.fieldLink RX7 7 "ScanCodesModel" "thrownCode" "I") (by decide +kernel)) (fun _ h9 => h9) rfl dX7_thrown_1 ?_
  have hres : thr = thr := by rfl
  exact W.iret (v := thr) hx hb hr (fun t ht _ => ⟨congrArg (fun z => Outcome.returned (some (Value.int z))) hres, ht⟩) (fun _ h => nomatch h) dX7_thrown_4
