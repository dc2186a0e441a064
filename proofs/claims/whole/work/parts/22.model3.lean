/-! The reference: hint, field. -/
/-- powers of ten; a number's digits -/
def zten : Nat → Int64
  | 0 => 1
  | k + 1 => 10 * zten k
theorem zten_nat : ∀ k, k ≤ 18 → zten k = lN (10 ^ k) := by
  intro k
  induction k with
  | zero => intro _; rfl
  | succ k ih =>
    intro h
    rw [zten, ih (by omega), show (10 : Int64) = lN 10 from rfl, lN_mul, Nat.pow_succ, Nat.mul_comm]
theorem zdoA_nat : ∀ (k m c : Nat), m < 10 ^ k → m < 2 ^ 63 → c + k < 2 ^ 31 → ∃ q, zdoA k (lN m) (nI c) = nI (c + q) ∧ q ≤ k ∧ ∀ j, m < 10 ^ j ↔ q ≤ j := by
  intro k
  induction k with
  | zero =>
    intro m c hm h63 hc
    have h0 : m = 0 := by simp at hm; exact hm
    subst h0
    exact ⟨0, rfl, Nat.le_refl _, fun j => ⟨fun _ => Nat.zero_le _, fun _ => Nat.pow_pos (by decide)⟩⟩
  | succ k ih =>
    intro m c hm h63 hc
    rw [zdoA]
    by_cases h0 : m = 0
    · subst h0
      rw [if_pos (show lN 0 = 0 from rfl)]
      exact ⟨0, rfl, Nat.zero_le _, fun j => ⟨fun _ => Nat.zero_le _, fun _ => Nat.pow_pos (by decide)⟩⟩
    · rw [if_neg (show ¬ lN m = 0 from fun q => h0 ((pk_lEQ h63 (by decide)).mp (show lN m = lN 0 from q)))]
      have e1 : lN m / 10 = lN (m / 10) := pk_lDiv (b := 10) h63 (by decide) (by decide)
      have hm2 : m / 10 < 10 ^ k := by rw [Nat.pow_succ] at hm; exact Nat.div_lt_of_lt_mul (by rw [Nat.mul_comm]; exact hm)
      obtain ⟨q, e2, hq, hj⟩ := ih (m / 10) (c + 1) hm2 (by omega) (by omega)
      refine ⟨q + 1, ?_, by omega, ?_⟩
      · rw [e1, nI_1, e2]; congr 1; omega
      · intro j
        cases j with
        | zero => simp; omega
        | succ j =>
          rw [Nat.pow_succ, ← Nat.div_lt_iff_lt_mul (by decide), hj j]
          omega
/-- so many digits are enough: by the class's count, and by the reference's power -/
theorem zdo_le {v : Int64} (h0 : 0 ≤ v) {d : Nat} (h1 : 1 ≤ d) (h12 : d ≤ 12) : zdo v ≤ nI d ↔ ¬ zten d ≤ v := by
  obtain ⟨n, hn, rfl⟩ := pk_lOf (Int64.not_lt.mpr h0)
  rw [zten_nat d (by omega), pk_lLE (Nat.lt_of_le_of_lt (Nat.pow_le_pow_right (by decide) h12) (by decide)) hn]
  unfold zdo
  rw [show (10 : Int64) = lN 10 from rfl, pk_lDiv hn (by decide) (by decide), show (1 : Int32) = nI 1 from rfl]
  have hb : n / 10 < 10 ^ 19 := by
    have : (2 : Nat) ^ 63 ≤ 10 ^ 19 := by decide
    omega
  obtain ⟨q, e1, hq, hj⟩ := zdoA_nat 19 (n / 10) 1 hb (by omega) (by decide)
  rw [e1, nI_leI (by omega) (by omega)]
  obtain ⟨j, rfl⟩ : ∃ j, d = j + 1 := ⟨d - 1, by omega⟩
  have h2 := hj j
  rw [Nat.div_lt_iff_lt_mul (by decide), ← Nat.pow_succ] at h2
  omega
theorem zm_d12 {d : Int32} (h1 : ¬ d < 1) (h2 : ¬ 12 < d) : ∃ dn, 1 ≤ dn ∧ dn ≤ 12 ∧ d = nI dn := by
  have e1 : (1 : Int32).toInt = 1 := by decide
  have e2 : (12 : Int32).toInt = 12 := by decide
  rw [Int32.lt_iff_toInt_lt, e1] at h1
  rw [Int32.lt_iff_toInt_lt, e2] at h2
  refine ⟨d.toInt.toNat, by omega, by omega, ?_⟩
  apply Int32.toInt_inj.mp
  rw [nI_toInt (by omega)]
  omega
theorem zl_ge {x y : Int64} : (0 ≤ lg_cmp x y) ↔ y ≤ x := lg_cmp_ge x y
theorem zf_hasS {fp : Nat → Int32} {j : Nat} {x : Int32} : zf_has fp (j + 1) x ↔ zf_has fp j x ∨ fp j = x := by
  constructor
  · rintro ⟨i, hi, e⟩
    by_cases q : i = j
    · rw [q] at e; exact Or.inr e
    · exact Or.inl ⟨i, by omega, e⟩
  · rintro (⟨i, hi, e⟩ | e)
    · exact ⟨i, by omega, e⟩
    · exact ⟨j, by omega, e⟩
theorem zf_has0 {fp : Nat → Int32} {x : Int32} : ¬ zf_has fp 0 x := fun ⟨i, hi, _⟩ => absurd hi (Nat.not_lt_zero _)
theorem zm_u {u : Int32} (h : u = -1 ∨ 0 ≤ u) : (0 ≤ u → ¬ u = -1) ∧ (¬ 0 ≤ u → u = -1) := ⟨fun q e => by rw [e] at q; exact absurd q (by decide), fun q => h.elim id (fun z => absurd z q)⟩

set_option maxHeartbeats 4000000 in
set_option maxRecDepth 100000 in
theorem c_X7_hint (l : Launch) (dC : Nat → ClassId) (dI : Nat → Nat → Nat) (cI cZ cJ : ClassId) (h : Nat) (thr : Int32) (fm : Nat) (bL : Nat) (bF : Nat) (bS : Nat) (bN : Nat) (wc : Nat) (bwp : Nat) (bwg : Nat) (bwv : Nat) (mn : Nat) (bmo : Nat) (rn : Nat) (brd : Nat) (tn : Nat) (bty : Nat) (mm : Int32) (sgn : Nat) (bsg : Nat) (fc : Nat) (bpf : Nat) (bpg : Nat) (bpv : Nat) (u : Int32) (lb : Nat) (blF : Nat) (blP : Nat) (blD : Nat) (blN : Nat) (bwn : Nat) (lat : Int32) (bla : Nat) (L : Nat → Int32) (x : Int32) (hu : u = -1 ∨ 0 ≤ u) (sz : Nat) : Met l yX7_hint wsX7_hint ({ frames := 0, cells := 0, slots := 0, locals := 0 }) (zc_PW [.ref h, .int x] (dC, dI) (zc_T cI cZ cJ) [(h, .inr (8, [.int thr, .int (nI fm), .ref bL, .ref bF, .ref bS, .ref bN, .int (nI wc), .ref bwp, .ref bwg, .ref bwv, .int (nI mn), .ref bmo, .int (nI rn), .ref brd, .int (nI tn), .ref bty, .int mm, .int (nI sgn), .ref bsg, .int (nI fc), .ref bpf, .ref bpg, .ref bpv, .int u, .int (nI lb), .ref blF, .ref blP, .ref blD, .ref blN, .ref bwn, .int lat, .ref bla])), (bL, .inl (cI, 100, .inl L))] sz) (va_Qi (fun (r : Int32) (_ : Unit) => r = zi (ze_hint x = 0) (if u = -1 then -1 else zp_near L u x 90 10 0) 0) (fun _ t => zc_B (dC, dI) (zc_T cI cZ cJ) (va_A [(h, .inr (8, [.int thr, .int (nI fm), .ref bL, .ref bF, .ref bS, .ref bN, .int (nI wc), .ref bwp, .ref bwg, .ref bwv, .int (nI mn), .ref bmo, .int (nI rn), .ref brd, .int (nI tn), .ref bty, .int mm, .int (nI sgn), .ref bsg, .int (nI fc), .ref bpf, .ref bpg, .ref bpv, .int u, .int (nI lb), .ref blF, .ref blP, .ref blD, .ref blN, .ref bwn, .int lat, .ref bla])), (bL, .inl (cI, 100, .inl L))] sz) [(h, .inr (8, [.int (nI (ze_hint x)), .int (nI fm), .ref bL, .ref bF, .ref bS, .ref bN, .int (nI wc), .ref bwp, .ref bwg, .ref bwv, .int (nI mn), .ref bmo, .int (nI rn), .ref brd, .int (nI tn), .ref bty, .int mm, .int (nI sgn), .ref bsg, .int (nI fc), .ref bpf, .ref bpg, .ref bpv, .int u, .int (nI lb), .ref blF, .ref blP, .ref blD, .ref blN, .ref bwn, .int lat, .ref bla])), (bL, .inl (cI, 100, .inl L))] t) (va_A [(h, .inr (8, [.int thr, .int (nI fm), .ref bL, .ref bF, .ref bS, .ref bN, .int (nI wc), .ref bwp, .ref bwg, .ref bwv, .int (nI mn), .ref bmo, .int (nI rn), .ref brd, .int (nI tn), .ref bty, .int mm, .int (nI sgn), .ref bsg, .int (nI fc), .ref bpf, .ref bpg, .ref bpv, .int u, .int (nI lb), .ref blF, .ref blP, .ref blD, .ref blN, .ref bwn, .int lat, .ref bla])), (bL, .inl (cI, 100, .inl L))] sz)) 0 0 (va_A [(h, .inr (8, [.int thr, .int (nI fm), .ref bL, .ref bF, .ref bS, .ref bN, .int (nI wc), .ref bwp, .ref bwg, .ref bwv, .int (nI mn), .ref bmo, .int (nI rn), .ref brd, .int (nI tn), .ref bty, .int mm, .int (nI sgn), .ref bsg, .int (nI fc), .ref bpf, .ref bpg, .ref bpv, .int u, .int (nI lb), .ref blF, .ref blP, .ref blD, .ref blN, .ref bwn, .int lat, .ref bla])), (bL, .inl (cI, 100, .inl L))] sz) := by
  refine Met.ofW (cc := cX7_hint) (maxL := 5) (ret := (some .int)) (by decide) rfl ?_
  intro p e s m args below meth c s₁ B hml hv
  obtain ⟨rfl, hsz, hP, hK, hD0⟩ := hv
  have hx := B.exec
  have hb := B.bytes
  have hr := B.returns
  have hts := atoms_spec (ws := wsX7_hint) B.pre
  have hown : s.vm.findClass RX7 = some m.cls := findClass_of_methodNamed B.named
  have hlocks := B.notSynchronized
  subst hsz
  have hD := hD0.self (sz := s.heap.size)
  generalize hAe : va_A [(h, .inr (8, [.int thr, .int (nI fm), .ref bL, .ref bF, .ref bS, .ref bN, .int (nI wc), .ref bwp, .ref bwg, .ref bwv, .int (nI mn), .ref bmo, .int (nI rn), .ref brd, .int (nI tn), .ref bty, .int mm, .int (nI sgn), .ref bsg, .int (nI fc), .ref bpf, .ref bpg, .ref bpv, .int u, .int (nI lb), .ref blF, .ref blP, .ref blD, .ref blN, .ref bwn, .int lat, .ref bla])), (bL, .inl (cI, 100, .inl L))] s.heap.size = A at hD ⊢
  have hA : ∀ q : Nat, s.heap.size ≤ q → A q := fun q h => by rw [← hAe]; exact Or.inr h
  have hS : va_S A s.heap s.heap [] := va_S.rf
  have hinX7 : ∀ w ∈ wsX70, w ∈ wsX7_hint := by decide +kernel
  have hl := lv_entry ([.ref h, .int x]) (n := 5) (Nat.le_of_ble_eq_true rfl)
  rw [lg_entry_eq]
  generalize (lg_sl ([.ref h, .int x]) ++ List.replicate (5 - (lg_sl ([.ref h, .int x])).length) Slot.unset).toArray = ls at hl ⊢
  have hl : lv_has ls 5 [(0, .ref h), (1, .int x)] := hl
  refine lv_aload_n hx hb dX7_hint_0 rfl (lv_at hl 0 rfl) ?_
  refine lv_iload_n hx hb dX7_hint_1 rfl (lv_at hl 1 rfl) ?_
  refine lv_if_ge (tgt := 9) hx hb dX7_hint_2 (by decide) (fun c2 => ?_) (fun c2 => ?_)
  · refine lv_iconst (v := 0) hx hb dX7_hint_9 (by decide) ?_
    refine va_put (D := (dC, dI)) (ci := 8) (v := .int 0) (ty := .int) (C := RX7) (T := TX7) (N := 32) hx hb hts hinX7 tyX7 tyX7_ok nmX7 hown hK hP hD hS 0 rfl rfl 0 (by decide) (hts (.fieldLink RX7 7 "ScanCodesModel" "thrownCode" "I") (by decide +kernel)) (fun _ h9 => h9) rfl (by decide +kernel) rfl rfl (Nat.le_of_ble_eq_true rfl) dX7_hint_10 (fun H locs hP hD hS => ?_)
    have hP : va_P (dC, dI) vwCl [(h, .inr (8, [.int 0, .int (nI fm), .ref bL, .ref bF, .ref bS, .ref bN, .int (nI wc), .ref bwp, .ref bwg, .ref bwv, .int (nI mn), .ref bmo, .int (nI rn), .ref brd, .int (nI tn), .ref bty, .int mm, .int (nI sgn), .ref bsg, .int (nI fc), .ref bpf, .ref bpg, .ref bpv, .int u, .int (nI lb), .ref blF, .ref blP, .ref blD, .ref blN, .ref bwn, .int lat, .ref bla])), (bL, .inl (cI, 100, .inl L))] H := hP
    have hD : va_D A [(h, .inr (8, [.int 0, .int (nI fm), .ref bL, .ref bF, .ref bS, .ref bN, .int (nI wc), .ref bwp, .ref bwg, .ref bwv, .int (nI mn), .ref bmo, .int (nI rn), .ref brd, .int (nI tn), .ref bty, .int mm, .int (nI sgn), .ref bsg, .int (nI fc), .ref bpf, .ref bpg, .ref bpv, .int u, .int (nI lb), .ref blF, .ref blP, .ref blD, .ref blN, .ref bwn, .int lat, .ref bla])), (bL, .inl (cI, 100, .inl L))] := hD
    refine lv_aload_n hx hb dX7_hint_13 rfl (lv_at hl 0 rfl) ?_
    refine va_get (D := (dC, dI)) (ci := 8) (v := .int 0) (C := RX7) (T := TX7) (N := 32) hx hb hts hinX7 hown hK hP 0 rfl rfl 0 (by decide) (hts (.fieldLink RX7 7 "ScanCodesModel" "thrownCode" "I") (by decide +kernel)) (fun _ h9 => h9) rfl dX7_hint_14 ?_
    refine lv_if_ne (tgt := 27) hx hb dX7_hint_17 (by decide) (fun c17 => absurd (by decide) c17) (fun c17 => ?_)
    refine lv_aload_n hx hb dX7_hint_20 rfl (lv_at hl 0 rfl) ?_
    refine va_get (D := (dC, dI)) (ci := 8) (v := .int u) (C := RX7) (T := TX7) (N := 32) hx hb hts hinX7 hown hK hP 0 rfl rfl 23 (by decide) (hts (.fieldLink RX7 79 "ScanCodesModel" "unknown" "I") (by decide +kernel)) (fun _ h9 => h9) rfl dX7_hint_21 ?_
    refine lv_if_ge (tgt := 40) hx hb dX7_hint_24 (by decide) (fun c24 => ?_) (fun c24 => ?_)
    · have hu1 := (zm_u hu).1 c24
      refine lv_iconst (v := 0) hx hb dX7_hint_40 (by decide) ?_
      refine lv_istore_n (lv' := [(2, .int 0), (0, .ref h), (1, .int x)]) hx hb dX7_hint_41 rfl hl (by decide) rfl (fun ls hl => ?_)
      refine lv_bipush (v := 10) hx hb dX7_hint_42 (by decide) ?_
      refine lv_istore_n (lv' := [(3, .int 10), (2, .int 0), (0, .ref h), (1, .int x)]) hx hb dX7_hint_44 rfl hl (by decide) rfl (fun ls hl => ?_)
      refine zc_loop (α := Nat × Nat × Int32) (fun (⟨k, pn, b⟩ : Nat × Nat × Int32) ls => lv_has ls 5 [(3, .int (nI pn)), (2, .int b), (0, .ref h), (1, .int x)] ∧ (pn + k = 100) ∧ (zp_near L u x k pn b = zp_near L u x 90 10 0) ∧ (10 ≤ pn)) (fun (⟨k, pn, b⟩ : Nat × Nat × Int32) => k) ⟨90, 10, 0⟩ ⟨lv_sub hl [0, 1, 2, 3] rfl, rfl, rfl, by decide⟩ ?_
      intro x ls hI ih45
      obtain ⟨k, pn, b⟩ := x
      obtain ⟨hl, hi1, hi2, hp10⟩ := hI
      have hl : lv_has ls 5 [(3, .int (nI pn)), (2, .int b), (0, .ref h), (1, .int x)] := hl
      try dsimp only at ih45
      refine lv_iload_n hx hb dX7_hint_45 rfl (lv_at hl 0 rfl) ?_
      refine lv_bipush (v := 100) hx hb dX7_hint_46 (by decide) ?_
      refine lv_icmp_ge (tgt := 129) hx hb dX7_hint_48 (by decide) (fun c48 => ?_) (fun c48 => ?_)
      · have hk0 : k = 0 := by have := zn_le (a := 100) c48 (by decide) (by omega); omega
        rw [hk0, zp_near] at hi2
        refine lv_iconst (v := (-1)) hx hb dX7_hint_129 (by decide) ?_
        have hex : ze_hint x = 0 := by exact zi_t c2
        have hP9 : va_P (dC, dI) vwCl [(h, .inr (8, [.int (nI (ze_hint x)), .int (nI fm), .ref bL, .ref bF, .ref bS, .ref bN, .int (nI wc), .ref bwp, .ref bwg, .ref bwv, .int (nI mn), .ref bmo, .int (nI rn), .ref brd, .int (nI tn), .ref bty, .int mm, .int (nI sgn), .ref bsg, .int (nI fc), .ref bpf, .ref bpg, .ref bpv, .int u, .int (nI lb), .ref blF, .ref blP, .ref blD, .ref blN, .ref bwn, .int lat, .ref bla])), (bL, .inl (cI, 100, .inl L))] H := by simp only [hex, zi0, zi1, zi2, zi3, zi_t (P := True) trivial, zi_f (P := False) id]; exact hP
        have hD9 : va_D A [(h, .inr (8, [.int (nI (ze_hint x)), .int (nI fm), .ref bL, .ref bF, .ref bS, .ref bN, .int (nI wc), .ref bwp, .ref bwg, .ref bwv, .int (nI mn), .ref bmo, .int (nI rn), .ref brd, .int (nI tn), .ref bty, .int mm, .int (nI sgn), .ref bsg, .int (nI fc), .ref bpf, .ref bpg, .ref bpv, .int u, .int (nI lb), .ref blF, .ref blP, .ref blD, .ref blN, .ref bwn, .int lat, .ref bla])), (bL, .inl (cI, 100, .inl L))] := by simp only [hex, zi0, zi1, zi2, zi3, zi_t (P := True) trivial, zi_f (P := False) id]; exact hD
        have hres : ((-1) : Int32) = zi (ze_hint x = 0) (if u = -1 then -1 else zp_near L u x 90 10 0) 0 := by simp only [hex, zi0, zi1, zi2, zi3, zi_t (P := True) trivial, zi_f (P := False) id]; rw [if_neg hu1]; exact hi2
        exact W.iret (v := (-1)) hx hb hr (fun t ht hW => ⟨⟨_, (), rfl, hres, by rw [ht]; exact hP9, va_K.moved hW.alike hK, hD9⟩, hS.F ht⟩) hS.2.2 dX7_hint_130
      · have hk0 : 0 < k := by have := zn_nle (a := 100) c48 (by decide) (by omega); omega
        obtain ⟨k2, hk2⟩ : ∃ k2, k = k2 + 1 := ⟨k - 1, by omega⟩
        rw [hk2, zp_near] at hi2
        refine lv_iload_n hx hb dX7_hint_51 rfl (lv_at hl 0 rfl) ?_
        refine lv_bipush (v := 10) hx hb dX7_hint_52 (by decide) ?_
        refine lv_idiv hx hb dX7_hint_54 (by decide) ?_
        refine lv_aload_n hx hb dX7_hint_55 rfl (lv_at hl 2 rfl) ?_
        refine va_get (D := (dC, dI)) (ci := 8) (v := .int u) (C := RX7) (T := TX7) (N := 32) hx hb hts hinX7 hown hK hP 0 rfl rfl 23 (by decide) (hts (.fieldLink RX7 79 "ScanCodesModel" "unknown" "I") (by decide +kernel)) (fun _ h9 => h9) rfl dX7_hint_56 ?_
        refine lv_bipush (v := 10) hx hb dX7_hint_59 (by decide) ?_
        refine lv_idiv hx hb dX7_hint_61 (by decide) ?_
        refine lv_icmp_ne (tgt := 69) hx hb dX7_hint_62 (by decide) (fun c62 => ?_) (fun c62 => ?_)
        · refine lv_iconst (v := 0) hx hb dX7_hint_69 (by decide) ?_
          refine lv_iload_n hx hb dX7_hint_70 rfl (lv_at hl 0 rfl) ?_
          refine lv_bipush (v := 10) hx hb dX7_hint_71 (by decide) ?_
          refine lv_irem hx hb dX7_hint_73 (by decide) ?_
          refine lv_aload_n hx hb dX7_hint_74 rfl (lv_at hl 2 rfl) ?_
          refine va_get (D := (dC, dI)) (ci := 8) (v := .int u) (C := RX7) (T := TX7) (N := 32) hx hb hts hinX7 hown hK hP 0 rfl rfl 23 (by decide) (hts (.fieldLink RX7 79 "ScanCodesModel" "unknown" "I") (by decide +kernel)) (fun _ h9 => h9) rfl dX7_hint_75 ?_
          refine lv_bipush (v := 10) hx hb dX7_hint_78 (by decide) ?_
          refine lv_irem hx hb dX7_hint_80 (by decide) ?_
          refine lv_icmp_ne (tgt := 88) hx hb dX7_hint_81 (by decide) (fun c81 => ?_) (fun c81 => ?_)
          · refine lv_iconst (v := 0) hx hb dX7_hint_88 (by decide) ?_
            refine lv_icmp_eq (tgt := 96) hx hb dX7_hint_89 (by decide) (fun c89 => ?_) (fun c89 => absurd (by decide) c89)
            refine lv_iconst (v := 0) hx hb dX7_hint_96 (by decide) ?_
            refine lv_istore (lv' := [(4, .int 0), (3, .int (nI pn)), (2, .int b), (0, .ref h), (1, .int x)]) hx hb dX7_hint_97 hl (by decide) rfl (fun ls hl => ?_)
            refine lv_aload_n hx hb dX7_hint_99 rfl (lv_at hl 3 rfl) ?_
            refine va_get (D := (dC, dI)) (ci := 8) (v := .ref bL) (C := RX7) (T := TX7) (N := 32) hx hb hts hinX7 hown hK hP 0 rfl rfl 2 (by decide) (hts (.fieldLink RX7 13 "ScanCodesModel" "length" "[I") (by decide +kernel)) (fun _ h9 => h9) rfl dX7_hint_100 ?_
            refine lv_iload_n hx hb dX7_hint_103 rfl (lv_at hl 1 rfl) ?_
            refine zc_iald hx hb hK hP 1 0 rfl rfl pn rfl (by omega) (by decide) dX7_hint_104 ?_
            refine lv_if_le (tgt := 123) hx hb dX7_hint_105 (by decide) (fun c105 => ?_) (fun c105 => ?_)
            · rw [zi_f (fun q => ((zp_hasN hp10 (by omega)).mp q.1) c105)] at hi2
              refine lv_iinc (v := nI (pn + 1)) (lv' := [(3, .int (nI (pn + 1))), (4, .int 0), (2, .int b), (0, .ref h), (1, .int x)]) hx hb dX7_hint_123 hl (k := 1) rfl (nI_1 pn) (by decide) rfl (fun ls hl => ?_)
              refine lv_goto (tgt := 45) hx hb dX7_hint_126 (by decide) ?_
              exact ih45 ⟨k2, pn + 1, b⟩ _ (by simp only []; omega) ⟨lv_sub hl [0, 2, 3, 4] rfl, by dsimp only; omega, hi2, by dsimp only; omega⟩
            · rw [zi_f (fun q => (fun q => q ⟨fun z => absurd z c62, fun z => absurd z c81⟩) q.2)] at hi2
              refine lv_iload hx hb dX7_hint_108 (lv_at hl 0 rfl) ?_
              refine lv_if_eq (tgt := 123) hx hb dX7_hint_110 (by decide) (fun c110 => ?_) (fun c110 => absurd (by decide) c110)
              refine lv_iinc (v := nI (pn + 1)) (lv' := [(3, .int (nI (pn + 1))), (4, .int 0), (2, .int b), (0, .ref h), (1, .int x)]) hx hb dX7_hint_123 hl (k := 1) rfl (nI_1 pn) (by decide) rfl (fun ls hl => ?_)
              refine lv_goto (tgt := 45) hx hb dX7_hint_126 (by decide) ?_
              exact ih45 ⟨k2, pn + 1, b⟩ _ (by simp only []; omega) ⟨lv_sub hl [0, 2, 3, 4] rfl, by dsimp only; omega, hi2, by dsimp only; omega⟩
          · refine lv_iconst (v := 1) hx hb dX7_hint_84 (by decide) ?_
            refine lv_goto (tgt := 89) hx hb dX7_hint_85 (by decide) ?_
            refine lv_icmp_eq (tgt := 96) hx hb dX7_hint_89 (by decide) (fun c89 => absurd c89 (by decide)) (fun c89 => ?_)
            refine lv_iconst (v := 1) hx hb dX7_hint_92 (by decide) ?_
            refine lv_goto (tgt := 97) hx hb dX7_hint_93 (by decide) ?_
            refine lv_istore (lv' := [(4, .int 1), (3, .int (nI pn)), (2, .int b), (0, .ref h), (1, .int x)]) hx hb dX7_hint_97 hl (by decide) rfl (fun ls hl => ?_)
            refine lv_aload_n hx hb dX7_hint_99 rfl (lv_at hl 3 rfl) ?_
            refine va_get (D := (dC, dI)) (ci := 8) (v := .ref bL) (C := RX7) (T := TX7) (N := 32) hx hb hts hinX7 hown hK hP 0 rfl rfl 2 (by decide) (hts (.fieldLink RX7 13 "ScanCodesModel" "length" "[I") (by decide +kernel)) (fun _ h9 => h9) rfl dX7_hint_100 ?_
            refine lv_iload_n hx hb dX7_hint_103 rfl (lv_at hl 1 rfl) ?_
            refine zc_iald hx hb hK hP 1 0 rfl rfl pn rfl (by omega) (by decide) dX7_hint_104 ?_
            refine lv_if_le (tgt := 123) hx hb dX7_hint_105 (by decide) (fun c105 => ?_) (fun c105 => ?_)
            · rw [zi_f (fun q => ((zp_hasN hp10 (by omega)).mp q.1) c105)] at hi2
              refine lv_iinc (v := nI (pn + 1)) (lv' := [(3, .int (nI (pn + 1))), (4, .int 1), (2, .int b), (0, .ref h), (1, .int x)]) hx hb dX7_hint_123 hl (k := 1) rfl (nI_1 pn) (by decide) rfl (fun ls hl => ?_)
              refine lv_goto (tgt := 45) hx hb dX7_hint_126 (by decide) ?_
              exact ih45 ⟨k2, pn + 1, b⟩ _ (by simp only []; omega) ⟨lv_sub hl [0, 2, 3, 4] rfl, by dsimp only; omega, hi2, by dsimp only; omega⟩
            · rw [zi_t ⟨(zp_hasN hp10 (by omega)).mpr c105, (fun q => c62 (q.mpr c81))⟩] at hi2
              refine lv_iload hx hb dX7_hint_108 (lv_at hl 0 rfl) ?_
              refine lv_if_eq (tgt := 123) hx hb dX7_hint_110 (by decide) (fun c110 => absurd c110 (by decide)) (fun c110 => ?_)
              refine lv_iload_n hx hb dX7_hint_113 rfl (lv_at hl 2 rfl) ?_
              refine lv_iload_n hx hb dX7_hint_114 rfl (lv_at hl 4 rfl) ?_
              refine lv_icmp_ne (tgt := 120) hx hb dX7_hint_115 (by decide) (fun c115 => ?_) (fun c115 => ?_)
              · rw [zi_f c115] at hi2
                refine lv_iinc (v := b + 1) (lv' := [(2, .int (b + 1)), (4, .int 1), (3, .int (nI pn)), (0, .ref h), (1, .int x)]) hx hb dX7_hint_120 hl (k := 2) rfl (rfl) (by decide) rfl (fun ls hl => ?_)
                refine lv_iinc (v := nI (pn + 1)) (lv' := [(3, .int (nI (pn + 1))), (2, .int (b + 1)), (4, .int 1), (0, .ref h), (1, .int x)]) hx hb dX7_hint_123 hl (k := 2) rfl (nI_1 pn) (by decide) rfl (fun ls hl => ?_)
                refine lv_goto (tgt := 45) hx hb dX7_hint_126 (by decide) ?_
                exact ih45 ⟨k2, pn + 1, b + 1⟩ _ (by simp only []; omega) ⟨lv_sub hl [0, 1, 3, 4] rfl, by dsimp only; omega, hi2, by dsimp only; omega⟩
              · rw [zi_t c115] at hi2
                refine lv_iload_n hx hb dX7_hint_118 rfl (lv_at hl 1 rfl) ?_
                have hex : ze_hint x = 0 := by exact zi_t c2
                have hP9 : va_P (dC, dI) vwCl [(h, .inr (8, [.int (nI (ze_hint x)), .int (nI fm), .ref bL, .ref bF, .ref bS, .ref bN, .int (nI wc), .ref bwp, .ref bwg, .ref bwv, .int (nI mn), .ref bmo, .int (nI rn), .ref brd, .int (nI tn), .ref bty, .int mm, .int (nI sgn), .ref bsg, .int (nI fc), .ref bpf, .ref bpg, .ref bpv, .int u, .int (nI lb), .ref blF, .ref blP, .ref blD, .ref blN, .ref bwn, .int lat, .ref bla])), (bL, .inl (cI, 100, .inl L))] H := by simp only [hex, zi0, zi1, zi2, zi3, zi_t (P := True) trivial, zi_f (P := False) id]; exact hP
                have hD9 : va_D A [(h, .inr (8, [.int (nI (ze_hint x)), .int (nI fm), .ref bL, .ref bF, .ref bS, .ref bN, .int (nI wc), .ref bwp, .ref bwg, .ref bwv, .int (nI mn), .ref bmo, .int (nI rn), .ref brd, .int (nI tn), .ref bty, .int mm, .int (nI sgn), .ref bsg, .int (nI fc), .ref bpf, .ref bpg, .ref bpv, .int u, .int (nI lb), .ref blF, .ref blP, .ref blD, .ref blN, .ref bwn, .int lat, .ref bla])), (bL, .inl (cI, 100, .inl L))] := by simp only [hex, zi0, zi1, zi2, zi3, zi_t (P := True) trivial, zi_f (P := False) id]; exact hD
                have hres : (nI pn) = zi (ze_hint x = 0) (if u = -1 then -1 else zp_near L u x 90 10 0) 0 := by simp only [hex, zi0, zi1, zi2, zi3, zi_t (P := True) trivial, zi_f (P := False) id]; rw [if_neg hu1]; exact hi2
                exact W.iret (v := nI pn) hx hb hr (fun t ht hW => ⟨⟨_, (), rfl, hres, by rw [ht]; exact hP9, va_K.moved hW.alike hK, hD9⟩, hS.F ht⟩) hS.2.2 dX7_hint_119
        · refine lv_iconst (v := 1) hx hb dX7_hint_65 (by decide) ?_
          refine lv_goto (tgt := 70) hx hb dX7_hint_66 (by decide) ?_
          refine lv_iload_n hx hb dX7_hint_70 rfl (lv_at hl 0 rfl) ?_
          refine lv_bipush (v := 10) hx hb dX7_hint_71 (by decide) ?_
          refine lv_irem hx hb dX7_hint_73 (by decide) ?_
          refine lv_aload_n hx hb dX7_hint_74 rfl (lv_at hl 2 rfl) ?_
          refine va_get (D := (dC, dI)) (ci := 8) (v := .int u) (C := RX7) (T := TX7) (N := 32) hx hb hts hinX7 hown hK hP 0 rfl rfl 23 (by decide) (hts (.fieldLink RX7 79 "ScanCodesModel" "unknown" "I") (by decide +kernel)) (fun _ h9 => h9) rfl dX7_hint_75 ?_
          refine lv_bipush (v := 10) hx hb dX7_hint_78 (by decide) ?_
          refine lv_irem hx hb dX7_hint_80 (by decide) ?_
          refine lv_icmp_ne (tgt := 88) hx hb dX7_hint_81 (by decide) (fun c81 => ?_) (fun c81 => ?_)
          · refine lv_iconst (v := 0) hx hb dX7_hint_88 (by decide) ?_
            refine lv_icmp_eq (tgt := 96) hx hb dX7_hint_89 (by decide) (fun c89 => absurd c89 (by decide)) (fun c89 => ?_)
            refine lv_iconst (v := 1) hx hb dX7_hint_92 (by decide) ?_
            refine lv_goto (tgt := 97) hx hb dX7_hint_93 (by decide) ?_
            refine lv_istore (lv' := [(4, .int 1), (3, .int (nI pn)), (2, .int b), (0, .ref h), (1, .int x)]) hx hb dX7_hint_97 hl (by decide) rfl (fun ls hl => ?_)
            refine lv_aload_n hx hb dX7_hint_99 rfl (lv_at hl 3 rfl) ?_
            refine va_get (D := (dC, dI)) (ci := 8) (v := .ref bL) (C := RX7) (T := TX7) (N := 32) hx hb hts hinX7 hown hK hP 0 rfl rfl 2 (by decide) (hts (.fieldLink RX7 13 "ScanCodesModel" "length" "[I") (by decide +kernel)) (fun _ h9 => h9) rfl dX7_hint_100 ?_
            refine lv_iload_n hx hb dX7_hint_103 rfl (lv_at hl 1 rfl) ?_
            refine zc_iald hx hb hK hP 1 0 rfl rfl pn rfl (by omega) (by decide) dX7_hint_104 ?_
            refine lv_if_le (tgt := 123) hx hb dX7_hint_105 (by decide) (fun c105 => ?_) (fun c105 => ?_)
            · rw [zi_f (fun q => ((zp_hasN hp10 (by omega)).mp q.1) c105)] at hi2
              refine lv_iinc (v := nI (pn + 1)) (lv' := [(3, .int (nI (pn + 1))), (4, .int 1), (2, .int b), (0, .ref h), (1, .int x)]) hx hb dX7_hint_123 hl (k := 1) rfl (nI_1 pn) (by decide) rfl (fun ls hl => ?_)
              refine lv_goto (tgt := 45) hx hb dX7_hint_126 (by decide) ?_
              exact ih45 ⟨k2, pn + 1, b⟩ _ (by simp only []; omega) ⟨lv_sub hl [0, 2, 3, 4] rfl, by dsimp only; omega, hi2, by dsimp only; omega⟩
            · rw [zi_t ⟨(zp_hasN hp10 (by omega)).mpr c105, (fun q => c81 (q.mp c62))⟩] at hi2
              refine lv_iload hx hb dX7_hint_108 (lv_at hl 0 rfl) ?_
              refine lv_if_eq (tgt := 123) hx hb dX7_hint_110 (by decide) (fun c110 => absurd c110 (by decide)) (fun c110 => ?_)
              refine lv_iload_n hx hb dX7_hint_113 rfl (lv_at hl 2 rfl) ?_
              refine lv_iload_n hx hb dX7_hint_114 rfl (lv_at hl 4 rfl) ?_
              refine lv_icmp_ne (tgt := 120) hx hb dX7_hint_115 (by decide) (fun c115 => ?_) (fun c115 => ?_)
              · rw [zi_f c115] at hi2
                refine lv_iinc (v := b + 1) (lv' := [(2, .int (b + 1)), (4, .int 1), (3, .int (nI pn)), (0, .ref h), (1, .int x)]) hx hb dX7_hint_120 hl (k := 2) rfl (rfl) (by decide) rfl (fun ls hl => ?_)
                refine lv_iinc (v := nI (pn + 1)) (lv' := [(3, .int (nI (pn + 1))), (2, .int (b + 1)), (4, .int 1), (0, .ref h), (1, .int x)]) hx hb dX7_hint_123 hl (k := 2) rfl (nI_1 pn) (by decide) rfl (fun ls hl => ?_)
                refine lv_goto (tgt := 45) hx hb dX7_hint_126 (by decide) ?_
                exact ih45 ⟨k2, pn + 1, b + 1⟩ _ (by simp only []; omega) ⟨lv_sub hl [0, 1, 3, 4] rfl, by dsimp only; omega, hi2, by dsimp only; omega⟩
              · rw [zi_t c115] at hi2
                refine lv_iload_n hx hb dX7_hint_118 rfl (lv_at hl 1 rfl) ?_
                have hex : ze_hint x = 0 := by exact zi_t c2
                have hP9 : va_P (dC, dI) vwCl [(h, .inr (8, [.int (nI (ze_hint x)), .int (nI fm), .ref bL, .ref bF, .ref bS, .ref bN, .int (nI wc), .ref bwp, .ref bwg, .ref bwv, .int (nI mn), .ref bmo, .int (nI rn), .ref brd, .int (nI tn), .ref bty, .int mm, .int (nI sgn), .ref bsg, .int (nI fc), .ref bpf, .ref bpg, .ref bpv, .int u, .int (nI lb), .ref blF, .ref blP, .ref blD, .ref blN, .ref bwn, .int lat, .ref bla])), (bL, .inl (cI, 100, .inl L))] H := by simp only [hex, zi0, zi1, zi2, zi3, zi_t (P := True) trivial, zi_f (P := False) id]; exact hP
                have hD9 : va_D A [(h, .inr (8, [.int (nI (ze_hint x)), .int (nI fm), .ref bL, .ref bF, .ref bS, .ref bN, .int (nI wc), .ref bwp, .ref bwg, .ref bwv, .int (nI mn), .ref bmo, .int (nI rn), .ref brd, .int (nI tn), .ref bty, .int mm, .int (nI sgn), .ref bsg, .int (nI fc), .ref bpf, .ref bpg, .ref bpv, .int u, .int (nI lb), .ref blF, .ref blP, .ref blD, .ref blN, .ref bwn, .int lat, .ref bla])), (bL, .inl (cI, 100, .inl L))] := by simp only [hex, zi0, zi1, zi2, zi3, zi_t (P := True) trivial, zi_f (P := False) id]; exact hD
                have hres : (nI pn) = zi (ze_hint x = 0) (if u = -1 then -1 else zp_near L u x 90 10 0) 0 := by simp only [hex, zi0, zi1, zi2, zi3, zi_t (P := True) trivial, zi_f (P := False) id]; rw [if_neg hu1]; exact hi2
                exact W.iret (v := nI pn) hx hb hr (fun t ht hW => ⟨⟨_, (), rfl, hres, by rw [ht]; exact hP9, va_K.moved hW.alike hK, hD9⟩, hS.F ht⟩) hS.2.2 dX7_hint_119
          · refine lv_iconst (v := 1) hx hb dX7_hint_84 (by decide) ?_
            refine lv_goto (tgt := 89) hx hb dX7_hint_85 (by decide) ?_
            refine lv_icmp_eq (tgt := 96) hx hb dX7_hint_89 (by decide) (fun c89 => ?_) (fun c89 => absurd (by decide) c89)
            refine lv_iconst (v := 0) hx hb dX7_hint_96 (by decide) ?_
            refine lv_istore (lv' := [(4, .int 0), (3, .int (nI pn)), (2, .int b), (0, .ref h), (1, .int x)]) hx hb dX7_hint_97 hl (by decide) rfl (fun ls hl => ?_)
            refine lv_aload_n hx hb dX7_hint_99 rfl (lv_at hl 3 rfl) ?_
            refine va_get (D := (dC, dI)) (ci := 8) (v := .ref bL) (C := RX7) (T := TX7) (N := 32) hx hb hts hinX7 hown hK hP 0 rfl rfl 2 (by decide) (hts (.fieldLink RX7 13 "ScanCodesModel" "length" "[I") (by decide +kernel)) (fun _ h9 => h9) rfl dX7_hint_100 ?_
            refine lv_iload_n hx hb dX7_hint_103 rfl (lv_at hl 1 rfl) ?_
            refine zc_iald hx hb hK hP 1 0 rfl rfl pn rfl (by omega) (by decide) dX7_hint_104 ?_
            refine lv_if_le (tgt := 123) hx hb dX7_hint_105 (by decide) (fun c105 => ?_) (fun c105 => ?_)
            · rw [zi_f (fun q => ((zp_hasN hp10 (by omega)).mp q.1) c105)] at hi2
              refine lv_iinc (v := nI (pn + 1)) (lv' := [(3, .int (nI (pn + 1))), (4, .int 0), (2, .int b), (0, .ref h), (1, .int x)]) hx hb dX7_hint_123 hl (k := 1) rfl (nI_1 pn) (by decide) rfl (fun ls hl => ?_)
              refine lv_goto (tgt := 45) hx hb dX7_hint_126 (by decide) ?_
              exact ih45 ⟨k2, pn + 1, b⟩ _ (by simp only []; omega) ⟨lv_sub hl [0, 2, 3, 4] rfl, by dsimp only; omega, hi2, by dsimp only; omega⟩
            · rw [zi_f (fun q => (fun q => q ⟨fun _ => c81, fun _ => c62⟩) q.2)] at hi2
              refine lv_iload hx hb dX7_hint_108 (lv_at hl 0 rfl) ?_
              refine lv_if_eq (tgt := 123) hx hb dX7_hint_110 (by decide) (fun c110 => ?_) (fun c110 => absurd (by decide) c110)
              refine lv_iinc (v := nI (pn + 1)) (lv' := [(3, .int (nI (pn + 1))), (4, .int 0), (2, .int b), (0, .ref h), (1, .int x)]) hx hb dX7_hint_123 hl (k := 1) rfl (nI_1 pn) (by decide) rfl (fun ls hl => ?_)
              refine lv_goto (tgt := 45) hx hb dX7_hint_126 (by decide) ?_
              exact ih45 ⟨k2, pn + 1, b⟩ _ (by simp only []; omega) ⟨lv_sub hl [0, 2, 3, 4] rfl, by dsimp only; omega, hi2, by dsimp only; omega⟩
    · have hu1 := (zm_u hu).2 c24
      refine lv_aload_n hx hb dX7_hint_27 rfl (lv_at hl 0 rfl) ?_
      refine va_get (D := (dC, dI)) (ci := 8) (v := .int 0) (C := RX7) (T := TX7) (N := 32) hx hb hts hinX7 hown hK hP 0 rfl rfl 0 (by decide) (hts (.fieldLink RX7 7 "ScanCodesModel" "thrownCode" "I") (by decide +kernel)) (fun _ h9 => h9) rfl dX7_hint_28 ?_
      refine lv_if_eq (tgt := 38) hx hb dX7_hint_31 (by decide) (fun c31 => ?_) (fun c31 => absurd (by decide) c31)
      refine lv_iconst (v := (-1)) hx hb dX7_hint_38 (by decide) ?_
      have hex : ze_hint x = 0 := by exact zi_t c2
      have hP9 : va_P (dC, dI) vwCl [(h, .inr (8, [.int (nI (ze_hint x)), .int (nI fm), .ref bL, .ref bF, .ref bS, .ref bN, .int (nI wc), .ref bwp, .ref bwg, .ref bwv, .int (nI mn), .ref bmo, .int (nI rn), .ref brd, .int (nI tn), .ref bty, .int mm, .int (nI sgn), .ref bsg, .int (nI fc), .ref bpf, .ref bpg, .ref bpv, .int u, .int (nI lb), .ref blF, .ref blP, .ref blD, .ref blN, .ref bwn, .int lat, .ref bla])), (bL, .inl (cI, 100, .inl L))] H := by simp only [hex, zi0, zi1, zi2, zi3, zi_t (P := True) trivial, zi_f (P := False) id]; exact hP
      have hD9 : va_D A [(h, .inr (8, [.int (nI (ze_hint x)), .int (nI fm), .ref bL, .ref bF, .ref bS, .ref bN, .int (nI wc), .ref bwp, .ref bwg, .ref bwv, .int (nI mn), .ref bmo, .int (nI rn), .ref brd, .int (nI tn), .ref bty, .int mm, .int (nI sgn), .ref bsg, .int (nI fc), .ref bpf, .ref bpg, .ref bpv, .int u, .int (nI lb), .ref blF, .ref blP, .ref blD, .ref blN, .ref bwn, .int lat, .ref bla])), (bL, .inl (cI, 100, .inl L))] := by simp only [hex, zi0, zi1, zi2, zi3, zi_t (P := True) trivial, zi_f (P := False) id]; exact hD
      have hres : ((-1) : Int32) = zi (ze_hint x = 0) (if u = -1 then -1 else zp_near L u x 90 10 0) 0 := by simp only [hex, zi0, zi1, zi2, zi3, zi_t (P := True) trivial, zi_f (P := False) id]; rw [if_pos hu1]
      exact W.iret (v := (-1)) hx hb hr (fun t ht hW => ⟨⟨_, (), rfl, hres, by rw [ht]; exact hP9, va_K.moved hW.alike hK, hD9⟩, hS.F ht⟩) hS.2.2 dX7_hint_39
  · refine lv_iconst (v := 1) hx hb dX7_hint_5 (by decide) ?_
    refine lv_goto (tgt := 10) hx hb dX7_hint_6 (by decide) ?_
    refine va_put (D := (dC, dI)) (ci := 8) (v := .int 1) (ty := .int) (C := RX7) (T := TX7) (N := 32) hx hb hts hinX7 tyX7 tyX7_ok nmX7 hown hK hP hD hS 0 rfl rfl 0 (by decide) (hts (.fieldLink RX7 7 "ScanCodesModel" "thrownCode" "I") (by decide +kernel)) (fun _ h9 => h9) rfl (by decide +kernel) rfl rfl (Nat.le_of_ble_eq_true rfl) dX7_hint_10 (fun H locs hP hD hS => ?_)
    have hP : va_P (dC, dI) vwCl [(h, .inr (8, [.int 1, .int (nI fm), .ref bL, .ref bF, .ref bS, .ref bN, .int (nI wc), .ref bwp, .ref bwg, .ref bwv, .int (nI mn), .ref bmo, .int (nI rn), .ref brd, .int (nI tn), .ref bty, .int mm, .int (nI sgn), .ref bsg, .int (nI fc), .ref bpf, .ref bpg, .ref bpv, .int u, .int (nI lb), .ref blF, .ref blP, .ref blD, .ref blN, .ref bwn, .int lat, .ref bla])), (bL, .inl (cI, 100, .inl L))] H := hP
    have hD : va_D A [(h, .inr (8, [.int 1, .int (nI fm), .ref bL, .ref bF, .ref bS, .ref bN, .int (nI wc), .ref bwp, .ref bwg, .ref bwv, .int (nI mn), .ref bmo, .int (nI rn), .ref brd, .int (nI tn), .ref bty, .int mm, .int (nI sgn), .ref bsg, .int (nI fc), .ref bpf, .ref bpg, .ref bpv, .int u, .int (nI lb), .ref blF, .ref blP, .ref blD, .ref blN, .ref bwn, .int lat, .ref bla])), (bL, .inl (cI, 100, .inl L))] := hD
    refine lv_aload_n hx hb dX7_hint_13 rfl (lv_at hl 0 rfl) ?_
    refine va_get (D := (dC, dI)) (ci := 8) (v := .int 1) (C := RX7) (T := TX7) (N := 32) hx hb hts hinX7 hown hK hP 0 rfl rfl 0 (by decide) (hts (.fieldLink RX7 7 "ScanCodesModel" "thrownCode" "I") (by decide +kernel)) (fun _ h9 => h9) rfl dX7_hint_14 ?_
    refine lv_if_ne (tgt := 27) hx hb dX7_hint_17 (by decide) (fun c17 => ?_) (fun c17 => absurd c17 (by decide))
    refine lv_aload_n hx hb dX7_hint_27 rfl (lv_at hl 0 rfl) ?_
    refine va_get (D := (dC, dI)) (ci := 8) (v := .int 1) (C := RX7) (T := TX7) (N := 32) hx hb hts hinX7 hown hK hP 0 rfl rfl 0 (by decide) (hts (.fieldLink RX7 7 "ScanCodesModel" "thrownCode" "I") (by decide +kernel)) (fun _ h9 => h9) rfl dX7_hint_28 ?_
    refine lv_if_eq (tgt := 38) hx hb dX7_hint_31 (by decide) (fun c31 => absurd c31 (by decide)) (fun c31 => ?_)
    refine lv_iconst (v := 0) hx hb dX7_hint_34 (by decide) ?_
    refine lv_goto (tgt := 39) hx hb dX7_hint_35 (by decide) ?_
    have hex : ze_hint x = 1 := by exact zi_f c2
    have hP9 : va_P (dC, dI) vwCl [(h, .inr (8, [.int (nI (ze_hint x)), .int (nI fm), .ref bL, .ref bF, .ref bS, .ref bN, .int (nI wc), .ref bwp, .ref bwg, .ref bwv, .int (nI mn), .ref bmo, .int (nI rn), .ref brd, .int (nI tn), .ref bty, .int mm, .int (nI sgn), .ref bsg, .int (nI fc), .ref bpf, .ref bpg, .ref bpv, .int u, .int (nI lb), .ref blF, .ref blP, .ref blD, .ref blN, .ref bwn, .int lat, .ref bla])), (bL, .inl (cI, 100, .inl L))] H := by simp only [hex, zi0, zi1, zi2, zi3, zi_t (P := True) trivial, zi_f (P := False) id]; exact hP
    have hD9 : va_D A [(h, .inr (8, [.int (nI (ze_hint x)), .int (nI fm), .ref bL, .ref bF, .ref bS, .ref bN, .int (nI wc), .ref bwp, .ref bwg, .ref bwv, .int (nI mn), .ref bmo, .int (nI rn), .ref brd, .int (nI tn), .ref bty, .int mm, .int (nI sgn), .ref bsg, .int (nI fc), .ref bpf, .ref bpg, .ref bpv, .int u, .int (nI lb), .ref blF, .ref blP, .ref blD, .ref blN, .ref bwn, .int lat, .ref bla])), (bL, .inl (cI, 100, .inl L))] := by simp only [hex, zi0, zi1, zi2, zi3, zi_t (P := True) trivial, zi_f (P := False) id]; exact hD
    have hres : (0 : Int32) = zi (ze_hint x = 0) (if u = -1 then -1 else zp_near L u x 90 10 0) 0 := by simp only [hex, zi0, zi1, zi2, zi3, zi_t (P := True) trivial, zi_f (P := False) id]
    exact W.iret (v := 0) hx hb hr (fun t ht hW => ⟨⟨_, (), rfl, hres, by rw [ht]; exact hP9, va_K.moved hW.alike hK, hD9⟩, hS.F ht⟩) hS.2.2 dX7_hint_39
set_option maxHeartbeats 4000000 in
set_option maxRecDepth 100000 in
theorem c_X7_field (l : Launch) (dC : Nat → ClassId) (dI : Nat → Nat → Nat) (cI cZ cJ : ClassId) (h : Nat) (thr : Int32) (fm : Nat) (bL : Nat) (bF : Nat) (bS : Nat) (bN : Nat) (wc : Nat) (bwp : Nat) (bwg : Nat) (bwv : Nat) (mn : Nat) (bmo : Nat) (rn : Nat) (brd : Nat) (tn : Nat) (bty : Nat) (mm : Int32) (sgn : Nat) (bsg : Nat) (fc : Nat) (bpf : Nat) (bpg : Nat) (bpv : Nat) (u : Int32) (lb : Nat) (blF : Nat) (blP : Nat) (blD : Nat) (blN : Nat) (bwn : Nat) (lat : Int32) (bla : Nat) (L : Nat → Int32) (F : Nat → Int32) (wp : Nat → Int32) (wg : Nat → Int32) (wv : Nat → Int64) (x : Int32) (v : Int64) (d : Int32) (hw6 : wc ≤ 6) (sz : Nat) : Met l yX7_field wsX7_field ({ frames := 1, cells := 0, slots := 0, locals := 21 }) (zc_PW [.ref h, .int x, .long v, .int d] (dC, dI) (zc_T cI cZ cJ) [(h, .inr (8, [.int thr, .int (nI fm), .ref bL, .ref bF, .ref bS, .ref bN, .int (nI wc), .ref bwp, .ref bwg, .ref bwv, .int (nI mn), .ref bmo, .int (nI rn), .ref brd, .int (nI tn), .ref bty, .int mm, .int (nI sgn), .ref bsg, .int (nI fc), .ref bpf, .ref bpg, .ref bpv, .int u, .int (nI lb), .ref blF, .ref blP, .ref blD, .ref blN, .ref bwn, .int lat, .ref bla])), (bL, .inl (cI, 100, .inl L)), (bF, .inl (cZ, 100, .inl F)), (bwp, .inl (cI, 6, .inl wp)), (bwg, .inl (cI, 6, .inl wg)), (bwv, .inl (cJ, 6, .inr (.inl wv)))] sz) (va_Qi (fun (r : Int32) (_ : Unit) => r = zi (ze_field L F wp wc x v d = 0) (nI (wc + 1)) 0) (fun _ t => zc_B (dC, dI) (zc_T cI cZ cJ) (va_A [(h, .inr (8, [.int thr, .int (nI fm), .ref bL, .ref bF, .ref bS, .ref bN, .int (nI wc), .ref bwp, .ref bwg, .ref bwv, .int (nI mn), .ref bmo, .int (nI rn), .ref brd, .int (nI tn), .ref bty, .int mm, .int (nI sgn), .ref bsg, .int (nI fc), .ref bpf, .ref bpg, .ref bpv, .int u, .int (nI lb), .ref blF, .ref blP, .ref blD, .ref blN, .ref bwn, .int lat, .ref bla])), (bL, .inl (cI, 100, .inl L)), (bF, .inl (cZ, 100, .inl F)), (bwp, .inl (cI, 6, .inl wp)), (bwg, .inl (cI, 6, .inl wg)), (bwv, .inl (cJ, 6, .inr (.inl wv)))] sz) [(h, .inr (8, [.int (nI (ze_field L F wp wc x v d)), .int (nI fm), .ref bL, .ref bF, .ref bS, .ref bN, .int (nI (zi (ze_field L F wp wc x v d = 0) (wc + 1) (wc))), .ref bwp, .ref bwg, .ref bwv, .int (nI mn), .ref bmo, .int (nI rn), .ref brd, .int (nI tn), .ref bty, .int mm, .int (nI sgn), .ref bsg, .int (nI fc), .ref bpf, .ref bpg, .ref bpv, .int u, .int (nI lb), .ref blF, .ref blP, .ref blD, .ref blN, .ref bwn, .int lat, .ref bla])), (bL, .inl (cI, 100, .inl L)), (bF, .inl (cZ, 100, .inl F)), (bwp, .inl (cI, 6, .inl (zi (ze_field L F wp wc x v d = 0) (upd wp wc x) (wp)))), (bwg, .inl (cI, 6, .inl (zi (ze_field L F wp wc x v d = 0) (upd wg wc d) (wg)))), (bwv, .inl (cJ, 6, .inr (.inl (zi (ze_field L F wp wc x v d = 0) (vp_updL wv wc v) (wv)))))] t) (va_A [(h, .inr (8, [.int thr, .int (nI fm), .ref bL, .ref bF, .ref bS, .ref bN, .int (nI wc), .ref bwp, .ref bwg, .ref bwv, .int (nI mn), .ref bmo, .int (nI rn), .ref brd, .int (nI tn), .ref bty, .int mm, .int (nI sgn), .ref bsg, .int (nI fc), .ref bpf, .ref bpg, .ref bpv, .int u, .int (nI lb), .ref blF, .ref blP, .ref blD, .ref blN, .ref bwn, .int lat, .ref bla])), (bL, .inl (cI, 100, .inl L)), (bF, .inl (cZ, 100, .inl F)), (bwp, .inl (cI, 6, .inl wp)), (bwg, .inl (cI, 6, .inl wg)), (bwv, .inl (cJ, 6, .inr (.inl wv)))] sz)) 0 0 (va_A [(h, .inr (8, [.int thr, .int (nI fm), .ref bL, .ref bF, .ref bS, .ref bN, .int (nI wc), .ref bwp, .ref bwg, .ref bwv, .int (nI mn), .ref bmo, .int (nI rn), .ref brd, .int (nI tn), .ref bty, .int mm, .int (nI sgn), .ref bsg, .int (nI fc), .ref bpf, .ref bpg, .ref bpv, .int u, .int (nI lb), .ref blF, .ref blP, .ref blD, .ref blN, .ref bwn, .int lat, .ref bla])), (bL, .inl (cI, 100, .inl L)), (bF, .inl (cZ, 100, .inl F)), (bwp, .inl (cI, 6, .inl wp)), (bwg, .inl (cI, 6, .inl wg)), (bwv, .inl (cJ, 6, .inr (.inl wv)))] sz) := by
  refine Met.ofW (cc := cX7_field) (maxL := 9) (ret := (some .int)) (by decide) rfl ?_
  intro p e s m args below meth c s₁ B hml hv
  obtain ⟨rfl, hsz, hP, hK, hD0⟩ := hv
  have hx := B.exec
  have hb := B.bytes
  have hr := B.returns
  have hts := atoms_spec (ws := wsX7_field) B.pre
  have hown : s.vm.findClass RX7 = some m.cls := findClass_of_methodNamed B.named
  have hlocks := B.notSynchronized
  subst hsz
  have hD := hD0.self (sz := s.heap.size)
  generalize hAe : va_A [(h, .inr (8, [.int thr, .int (nI fm), .ref bL, .ref bF, .ref bS, .ref bN, .int (nI wc), .ref bwp, .ref bwg, .ref bwv, .int (nI mn), .ref bmo, .int (nI rn), .ref brd, .int (nI tn), .ref bty, .int mm, .int (nI sgn), .ref bsg, .int (nI fc), .ref bpf, .ref bpg, .ref bpv, .int u, .int (nI lb), .ref blF, .ref blP, .ref blD, .ref blN, .ref bwn, .int lat, .ref bla])), (bL, .inl (cI, 100, .inl L)), (bF, .inl (cZ, 100, .inl F)), (bwp, .inl (cI, 6, .inl wp)), (bwg, .inl (cI, 6, .inl wg)), (bwv, .inl (cJ, 6, .inr (.inl wv)))] s.heap.size = A at hD ⊢
  have hA : ∀ q : Nat, s.heap.size ≤ q → A q := fun q h => by rw [← hAe]; exact Or.inr h
  have hS : va_S A s.heap s.heap [] := va_S.rf
  have hinX7 : ∀ w ∈ wsX70, w ∈ wsX7_field := by decide +kernel
  have hl := lv_entry ([.ref h, .int x, .long v, .int d]) (n := 9) (Nat.le_of_ble_eq_true rfl)
  rw [lg_entry_eq]
  generalize (lg_sl ([.ref h, .int x, .long v, .int d]) ++ List.replicate (9 - (lg_sl ([.ref h, .int x, .long v, .int d])).length) Slot.unset).toArray = ls at hl ⊢
  have hl : lv_has ls 9 [(0, .ref h), (1, .int x), (2, .long v), (4, .int d)] := hl
  refine lv_aload_n hx hb dX7_field_0 rfl (lv_at hl 0 rfl) ?_
  refine lv_aload_n hx hb dX7_field_1 rfl (lv_at hl 0 rfl) ?_
  refine lv_iload_n hx hb dX7_field_2 rfl (lv_at hl 1 rfl) ?_
  refine zc_callR (va_runV (As := [.int x]) (rest := [.ref h]) ⟨hx, hb, hml, hown, hts⟩ (c_X7_isKnown l dC dI cI cZ cJ h thr fm bL bF bS bN wc bwp bwg bwv mn bmo rn brd tn bty mm sgn bsg fc bpf bpg bpv u lb blF blP blD blN bwn lat bla L x) (zc_V 1 hts ggX7_field_X7_isKnown rfl rfl rfl (by decide +kernel) (by decide +kernel) ⟨Nat.le_of_ble_eq_true rfl, Nat.le_of_ble_eq_true rfl⟩) ⟨zc_blind, va_recv hK hP (ci := 8) (q0 := 0) rfl rfl, zc_pay (hP.sub (ws' := [(h, .inr (8, [.int thr, .int (nI fm), .ref bL, .ref bF, .ref bS, .ref bN, .int (nI wc), .ref bwp, .ref bwg, .ref bwv, .int (nI mn), .ref bmo, .int (nI rn), .ref brd, .int (nI tn), .ref bty, .int mm, .int (nI sgn), .ref bsg, .int (nI fc), .ref bpf, .ref bpg, .ref bpv, .int u, .int (nI lb), .ref blF, .ref blP, .ref blD, .ref blN, .ref bwn, .int lat, .ref bla])), (bL, .inl (cI, 100, .inl L))]) [0, 1] rfl) hK⟩ rfl rfl hl.1 rfl (lv_room (Nat.le_of_ble_eq_true rfl)) dX7_field_3 ⟨Nat.le_of_ble_eq_true rfl, Nat.le_of_ble_eq_true rfl⟩) ?_
  refine lv_if_ne (tgt := 13) hx hb dX7_field_6 (by decide) (fun c6 => ?_) (fun c6 => ?_)
  · have hh := zb_1 c6
    have hix := zp_ix hh.1 hh.2.1
    refine lv_iload hx hb dX7_field_13 (lv_at hl 3 rfl) ?_
    refine lv_iconst (v := 1) hx hb dX7_field_15 (by decide) ?_
    refine lv_icmp_lt (tgt := 32) hx hb dX7_field_16 (by decide) (fun c16 => ?_) (fun c16 => ?_)
    · refine lv_iconst (v := 2) hx hb dX7_field_32 (by decide) ?_
      refine lv_goto (tgt := 37) hx hb dX7_field_33 (by decide) ?_
      refine va_put (D := (dC, dI)) (ci := 8) (v := .int 2) (ty := .int) (C := RX7) (T := TX7) (N := 32) hx hb hts hinX7 tyX7 tyX7_ok nmX7 hown hK hP hD hS 0 rfl rfl 0 (by decide) (hts (.fieldLink RX7 7 "ScanCodesModel" "thrownCode" "I") (by decide +kernel)) (fun _ h9 => h9) rfl (by decide +kernel) rfl rfl (Nat.le_of_ble_eq_true rfl) dX7_field_37 (fun H locs hP hD hS => ?_)
      have hP : va_P (dC, dI) vwCl [(h, .inr (8, [.int 2, .int (nI fm), .ref bL, .ref bF, .ref bS, .ref bN, .int (nI wc), .ref bwp, .ref bwg, .ref bwv, .int (nI mn), .ref bmo, .int (nI rn), .ref brd, .int (nI tn), .ref bty, .int mm, .int (nI sgn), .ref bsg, .int (nI fc), .ref bpf, .ref bpg, .ref bpv, .int u, .int (nI lb), .ref blF, .ref blP, .ref blD, .ref blN, .ref bwn, .int lat, .ref bla])), (bL, .inl (cI, 100, .inl L)), (bF, .inl (cZ, 100, .inl F)), (bwp, .inl (cI, 6, .inl wp)), (bwg, .inl (cI, 6, .inl wg)), (bwv, .inl (cJ, 6, .inr (.inl wv)))] H := hP
      have hD : va_D A [(h, .inr (8, [.int 2, .int (nI fm), .ref bL, .ref bF, .ref bS, .ref bN, .int (nI wc), .ref bwp, .ref bwg, .ref bwv, .int (nI mn), .ref bmo, .int (nI rn), .ref brd, .int (nI tn), .ref bty, .int mm, .int (nI sgn), .ref bsg, .int (nI fc), .ref bpf, .ref bpg, .ref bpv, .int u, .int (nI lb), .ref blF, .ref blP, .ref blD, .ref blN, .ref bwn, .int lat, .ref bla])), (bL, .inl (cI, 100, .inl L)), (bF, .inl (cZ, 100, .inl F)), (bwp, .inl (cI, 6, .inl wp)), (bwg, .inl (cI, 6, .inl wg)), (bwv, .inl (cJ, 6, .inr (.inl wv)))] := hD
      refine lv_aload_n hx hb dX7_field_40 rfl (lv_at hl 0 rfl) ?_
      refine va_get (D := (dC, dI)) (ci := 8) (v := .int 2) (C := RX7) (T := TX7) (N := 32) hx hb hts hinX7 hown hK hP 0 rfl rfl 0 (by decide) (hts (.fieldLink RX7 7 "ScanCodesModel" "thrownCode" "I") (by decide +kernel)) (fun _ h9 => h9) rfl dX7_field_41 ?_
      refine lv_if_eq (tgt := 49) hx hb dX7_field_44 (by decide) (fun c44 => absurd c44 (by decide)) (fun c44 => ?_)
      refine lv_iconst (v := 0) hx hb dX7_field_47 (by decide) ?_
      have hex : ze_field L F wp wc x v d = 2 := by rw [ze_field, zi_t hh, zi_f (fun q => q.1 c16)]
      have hP9 : va_P (dC, dI) vwCl [(h, .inr (8, [.int (nI (ze_field L F wp wc x v d)), .int (nI fm), .ref bL, .ref bF, .ref bS, .ref bN, .int (nI (zi (ze_field L F wp wc x v d = 0) (wc + 1) (wc))), .ref bwp, .ref bwg, .ref bwv, .int (nI mn), .ref bmo, .int (nI rn), .ref brd, .int (nI tn), .ref bty, .int mm, .int (nI sgn), .ref bsg, .int (nI fc), .ref bpf, .ref bpg, .ref bpv, .int u, .int (nI lb), .ref blF, .ref blP, .ref blD, .ref blN, .ref bwn, .int lat, .ref bla])), (bL, .inl (cI, 100, .inl L)), (bF, .inl (cZ, 100, .inl F)), (bwp, .inl (cI, 6, .inl (zi (ze_field L F wp wc x v d = 0) (upd wp wc x) (wp)))), (bwg, .inl (cI, 6, .inl (zi (ze_field L F wp wc x v d = 0) (upd wg wc d) (wg)))), (bwv, .inl (cJ, 6, .inr (.inl (zi (ze_field L F wp wc x v d = 0) (vp_updL wv wc v) (wv)))))] H := by simp only [hex, zi0, zi1, zi2, zi3, zi_t (P := True) trivial, zi_f (P := False) id]; exact hP
      have hD9 : va_D A [(h, .inr (8, [.int (nI (ze_field L F wp wc x v d)), .int (nI fm), .ref bL, .ref bF, .ref bS, .ref bN, .int (nI (zi (ze_field L F wp wc x v d = 0) (wc + 1) (wc))), .ref bwp, .ref bwg, .ref bwv, .int (nI mn), .ref bmo, .int (nI rn), .ref brd, .int (nI tn), .ref bty, .int mm, .int (nI sgn), .ref bsg, .int (nI fc), .ref bpf, .ref bpg, .ref bpv, .int u, .int (nI lb), .ref blF, .ref blP, .ref blD, .ref blN, .ref bwn, .int lat, .ref bla])), (bL, .inl (cI, 100, .inl L)), (bF, .inl (cZ, 100, .inl F)), (bwp, .inl (cI, 6, .inl (zi (ze_field L F wp wc x v d = 0) (upd wp wc x) (wp)))), (bwg, .inl (cI, 6, .inl (zi (ze_field L F wp wc x v d = 0) (upd wg wc d) (wg)))), (bwv, .inl (cJ, 6, .inr (.inl (zi (ze_field L F wp wc x v d = 0) (vp_updL wv wc v) (wv)))))] := by simp only [hex, zi0, zi1, zi2, zi3, zi_t (P := True) trivial, zi_f (P := False) id]; exact hD
      have hres : (0 : Int32) = zi (ze_field L F wp wc x v d = 0) (nI (wc + 1)) 0 := by simp only [hex, zi0, zi1, zi2, zi3, zi_t (P := True) trivial, zi_f (P := False) id]
      exact W.iret (v := 0) hx hb hr (fun t ht hW => ⟨⟨_, (), rfl, hres, by rw [ht]; exact hP9, va_K.moved hW.alike hK, hD9⟩, hS.F ht⟩) hS.2.2 dX7_field_48
    · refine lv_iload hx hb dX7_field_19 (lv_at hl 3 rfl) ?_
      refine lv_bipush (v := 12) hx hb dX7_field_21 (by decide) ?_
      refine lv_icmp_gt (tgt := 32) hx hb dX7_field_23 (by decide) (fun c23 => ?_) (fun c23 => ?_)
      · refine lv_iconst (v := 2) hx hb dX7_field_32 (by decide) ?_
        refine lv_goto (tgt := 37) hx hb dX7_field_33 (by decide) ?_
        refine va_put (D := (dC, dI)) (ci := 8) (v := .int 2) (ty := .int) (C := RX7) (T := TX7) (N := 32) hx hb hts hinX7 tyX7 tyX7_ok nmX7 hown hK hP hD hS 0 rfl rfl 0 (by decide) (hts (.fieldLink RX7 7 "ScanCodesModel" "thrownCode" "I") (by decide +kernel)) (fun _ h9 => h9) rfl (by decide +kernel) rfl rfl (Nat.le_of_ble_eq_true rfl) dX7_field_37 (fun H locs hP hD hS => ?_)
        have hP : va_P (dC, dI) vwCl [(h, .inr (8, [.int 2, .int (nI fm), .ref bL, .ref bF, .ref bS, .ref bN, .int (nI wc), .ref bwp, .ref bwg, .ref bwv, .int (nI mn), .ref bmo, .int (nI rn), .ref brd, .int (nI tn), .ref bty, .int mm, .int (nI sgn), .ref bsg, .int (nI fc), .ref bpf, .ref bpg, .ref bpv, .int u, .int (nI lb), .ref blF, .ref blP, .ref blD, .ref blN, .ref bwn, .int lat, .ref bla])), (bL, .inl (cI, 100, .inl L)), (bF, .inl (cZ, 100, .inl F)), (bwp, .inl (cI, 6, .inl wp)), (bwg, .inl (cI, 6, .inl wg)), (bwv, .inl (cJ, 6, .inr (.inl wv)))] H := hP
        have hD : va_D A [(h, .inr (8, [.int 2, .int (nI fm), .ref bL, .ref bF, .ref bS, .ref bN, .int (nI wc), .ref bwp, .ref bwg, .ref bwv, .int (nI mn), .ref bmo, .int (nI rn), .ref brd, .int (nI tn), .ref bty, .int mm, .int (nI sgn), .ref bsg, .int (nI fc), .ref bpf, .ref bpg, .ref bpv, .int u, .int (nI lb), .ref blF, .ref blP, .ref blD, .ref blN, .ref bwn, .int lat, .ref bla])), (bL, .inl (cI, 100, .inl L)), (bF, .inl (cZ, 100, .inl F)), (bwp, .inl (cI, 6, .inl wp)), (bwg, .inl (cI, 6, .inl wg)), (bwv, .inl (cJ, 6, .inr (.inl wv)))] := hD
        refine lv_aload_n hx hb dX7_field_40 rfl (lv_at hl 0 rfl) ?_
        refine va_get (D := (dC, dI)) (ci := 8) (v := .int 2) (C := RX7) (T := TX7) (N := 32) hx hb hts hinX7 hown hK hP 0 rfl rfl 0 (by decide) (hts (.fieldLink RX7 7 "ScanCodesModel" "thrownCode" "I") (by decide +kernel)) (fun _ h9 => h9) rfl dX7_field_41 ?_
        refine lv_if_eq (tgt := 49) hx hb dX7_field_44 (by decide) (fun c44 => absurd c44 (by decide)) (fun c44 => ?_)
        refine lv_iconst (v := 0) hx hb dX7_field_47 (by decide) ?_
        have hex : ze_field L F wp wc x v d = 2 := by rw [ze_field, zi_t hh, zi_f (fun q => q.2.1 c23)]
        have hP9 : va_P (dC, dI) vwCl [(h, .inr (8, [.int (nI (ze_field L F wp wc x v d)), .int (nI fm), .ref bL, .ref bF, .ref bS, .ref bN, .int (nI (zi (ze_field L F wp wc x v d = 0) (wc + 1) (wc))), .ref bwp, .ref bwg, .ref bwv, .int (nI mn), .ref bmo, .int (nI rn), .ref brd, .int (nI tn), .ref bty, .int mm, .int (nI sgn), .ref bsg, .int (nI fc), .ref bpf, .ref bpg, .ref bpv, .int u, .int (nI lb), .ref blF, .ref blP, .ref blD, .ref blN, .ref bwn, .int lat, .ref bla])), (bL, .inl (cI, 100, .inl L)), (bF, .inl (cZ, 100, .inl F)), (bwp, .inl (cI, 6, .inl (zi (ze_field L F wp wc x v d = 0) (upd wp wc x) (wp)))), (bwg, .inl (cI, 6, .inl (zi (ze_field L F wp wc x v d = 0) (upd wg wc d) (wg)))), (bwv, .inl (cJ, 6, .inr (.inl (zi (ze_field L F wp wc x v d = 0) (vp_updL wv wc v) (wv)))))] H := by simp only [hex, zi0, zi1, zi2, zi3, zi_t (P := True) trivial, zi_f (P := False) id]; exact hP
        have hD9 : va_D A [(h, .inr (8, [.int (nI (ze_field L F wp wc x v d)), .int (nI fm), .ref bL, .ref bF, .ref bS, .ref bN, .int (nI (zi (ze_field L F wp wc x v d = 0) (wc + 1) (wc))), .ref bwp, .ref bwg, .ref bwv, .int (nI mn), .ref bmo, .int (nI rn), .ref brd, .int (nI tn), .ref bty, .int mm, .int (nI sgn), .ref bsg, .int (nI fc), .ref bpf, .ref bpg, .ref bpv, .int u, .int (nI lb), .ref blF, .ref blP, .ref blD, .ref blN, .ref bwn, .int lat, .ref bla])), (bL, .inl (cI, 100, .inl L)), (bF, .inl (cZ, 100, .inl F)), (bwp, .inl (cI, 6, .inl (zi (ze_field L F wp wc x v d = 0) (upd wp wc x) (wp)))), (bwg, .inl (cI, 6, .inl (zi (ze_field L F wp wc x v d = 0) (upd wg wc d) (wg)))), (bwv, .inl (cJ, 6, .inr (.inl (zi (ze_field L F wp wc x v d = 0) (vp_updL wv wc v) (wv)))))] := by simp only [hex, zi0, zi1, zi2, zi3, zi_t (P := True) trivial, zi_f (P := False) id]; exact hD
        have hres : (0 : Int32) = zi (ze_field L F wp wc x v d = 0) (nI (wc + 1)) 0 := by simp only [hex, zi0, zi1, zi2, zi3, zi_t (P := True) trivial, zi_f (P := False) id]
        exact W.iret (v := 0) hx hb hr (fun t ht hW => ⟨⟨_, (), rfl, hres, by rw [ht]; exact hP9, va_K.moved hW.alike hK, hD9⟩, hS.F ht⟩) hS.2.2 dX7_field_48
      · refine lv_lload_n hx hb dX7_field_26 rfl (lv_at hl 2 rfl) ?_
        refine lv_lconst (v := 0) hx hb dX7_field_27 (by decide) ?_
        refine W.lcmp hx hb dX7_field_28 ?_
        refine lv_if_ge (tgt := 36) hx hb dX7_field_29 (by decide) (fun c29 => ?_) (fun c29 => ?_)
        · obtain ⟨dn, hd1, hd12, hdn⟩ := zm_d12 c16 c23
          have hdl := zdo_le (zl_ge.mp c29) hd1 hd12
          rw [← hdn] at hdl
          refine lv_iconst (v := 0) hx hb dX7_field_36 (by decide) ?_
          refine va_put (D := (dC, dI)) (ci := 8) (v := .int 0) (ty := .int) (C := RX7) (T := TX7) (N := 32) hx hb hts hinX7 tyX7 tyX7_ok nmX7 hown hK hP hD hS 0 rfl rfl 0 (by decide) (hts (.fieldLink RX7 7 "ScanCodesModel" "thrownCode" "I") (by decide +kernel)) (fun _ h9 => h9) rfl (by decide +kernel) rfl rfl (Nat.le_of_ble_eq_true rfl) dX7_field_37 (fun H locs hP hD hS => ?_)
          have hP : va_P (dC, dI) vwCl [(h, .inr (8, [.int 0, .int (nI fm), .ref bL, .ref bF, .ref bS, .ref bN, .int (nI wc), .ref bwp, .ref bwg, .ref bwv, .int (nI mn), .ref bmo, .int (nI rn), .ref brd, .int (nI tn), .ref bty, .int mm, .int (nI sgn), .ref bsg, .int (nI fc), .ref bpf, .ref bpg, .ref bpv, .int u, .int (nI lb), .ref blF, .ref blP, .ref blD, .ref blN, .ref bwn, .int lat, .ref bla])), (bL, .inl (cI, 100, .inl L)), (bF, .inl (cZ, 100, .inl F)), (bwp, .inl (cI, 6, .inl wp)), (bwg, .inl (cI, 6, .inl wg)), (bwv, .inl (cJ, 6, .inr (.inl wv)))] H := hP
          have hD : va_D A [(h, .inr (8, [.int 0, .int (nI fm), .ref bL, .ref bF, .ref bS, .ref bN, .int (nI wc), .ref bwp, .ref bwg, .ref bwv, .int (nI mn), .ref bmo, .int (nI rn), .ref brd, .int (nI tn), .ref bty, .int mm, .int (nI sgn), .ref bsg, .int (nI fc), .ref bpf, .ref bpg, .ref bpv, .int u, .int (nI lb), .ref blF, .ref blP, .ref blD, .ref blN, .ref bwn, .int lat, .ref bla])), (bL, .inl (cI, 100, .inl L)), (bF, .inl (cZ, 100, .inl F)), (bwp, .inl (cI, 6, .inl wp)), (bwg, .inl (cI, 6, .inl wg)), (bwv, .inl (cJ, 6, .inr (.inl wv)))] := hD
          refine lv_aload_n hx hb dX7_field_40 rfl (lv_at hl 0 rfl) ?_
          refine va_get (D := (dC, dI)) (ci := 8) (v := .int 0) (C := RX7) (T := TX7) (N := 32) hx hb hts hinX7 hown hK hP 0 rfl rfl 0 (by decide) (hts (.fieldLink RX7 7 "ScanCodesModel" "thrownCode" "I") (by decide +kernel)) (fun _ h9 => h9) rfl dX7_field_41 ?_
          refine lv_if_eq (tgt := 49) hx hb dX7_field_44 (by decide) (fun c44 => ?_) (fun c44 => absurd (by decide) c44)
          refine lv_lconst (v := 1) hx hb dX7_field_49 (by decide) ?_
          refine lv_lstore (lv' := [(5, .long 1), (0, .ref h), (1, .int x), (2, .long v), (4, .int d)]) hx hb dX7_field_50 hl (by decide) rfl (fun ls hl => ?_)
          refine lv_iconst (v := 0) hx hb dX7_field_52 (by decide) ?_
          refine lv_istore (lv' := [(7, .int 0), (5, .long 1), (0, .ref h), (1, .int x), (2, .long v), (4, .int d)]) hx hb dX7_field_53 hl (by decide) rfl (fun ls hl => ?_)
          refine zc_loop (α := Nat) (fun k ls => lv_has ls 9 [(7, .int (nI k)), (5, .long (zten k)), (0, .ref h), (1, .int x), (2, .long v), (4, .int d)] ∧ (k ≤ dn)) (fun k => dn - k) 0 ⟨lv_sub hl [0, 1, 2, 3, 4, 5] rfl, Nat.zero_le _⟩ ?_
          intro x ls hI ih55
          obtain ⟨k, rfl⟩ : ∃ z, z = x := ⟨_, rfl⟩
          obtain ⟨hl, hi1⟩ := hI
          have hl : lv_has ls 9 [(7, .int (nI k)), (5, .long (zten k)), (0, .ref h), (1, .int x), (2, .long v), (4, .int d)] := hl
          try dsimp only at ih55
          refine lv_iload hx hb dX7_field_55 (lv_at hl 0 rfl) ?_
          refine lv_iload hx hb dX7_field_57 (lv_at hl 5 rfl) ?_
          refine zc_ti (y := nI dn) hdn ?_
          refine lv_icmp_ge (tgt := 76) hx hb dX7_field_59 (by decide) (fun c59 => ?_) (fun c59 => ?_)
          · have hge := zn_le c59 (by omega) (by omega)
            have hkd : k = dn := by omega
            rw [hkd] at hl
            refine zc_cut (g' := F0 m 90 ls [.int (zb (wc = 6 ∨ zf_has wp 0 x))]) ?_ (fun J90 => ?_)
            · refine lv_istore (lv' := [(7, .int (zb (wc = 6 ∨ zf_has wp 0 x))), (5, .long (zten dn)), (0, .ref h), (1, .int x), (2, .long v), (4, .int d)]) hx hb dX7_field_90 hl (by decide) rfl (fun ls hl => ?_)
              refine lv_iconst (v := 0) hx hb dX7_field_92 (by decide) ?_
              refine lv_istore (lv' := [(8, .int 0), (7, .int (zb (wc = 6 ∨ zf_has wp 0 x))), (5, .long (zten dn)), (0, .ref h), (1, .int x), (2, .long v), (4, .int d)]) hx hb dX7_field_93 hl (by decide) rfl (fun ls hl => ?_)
              refine zc_loop (α := Nat) (fun j ls => lv_has ls 9 [(8, .int (nI j)), (7, .int (zb (wc = 6 ∨ zf_has wp j x))), (5, .long (zten dn)), (0, .ref h), (1, .int x), (2, .long v), (4, .int d)] ∧ (j ≤ wc)) (fun j => wc - j) 0 ⟨lv_sub hl [0, 1, 2, 3, 4, 5, 6] rfl, Nat.zero_le _⟩ ?_
              intro x ls hI ih95
              obtain ⟨j, rfl⟩ : ∃ z, z = x := ⟨_, rfl⟩
              obtain ⟨hl, hj1⟩ := hI
              have hl : lv_has ls 9 [(8, .int (nI j)), (7, .int (zb (wc = 6 ∨ zf_has wp j x))), (5, .long (zten dn)), (0, .ref h), (1, .int x), (2, .long v), (4, .int d)] := hl
              try dsimp only at ih95
              refine lv_iload hx hb dX7_field_95 (lv_at hl 0 rfl) ?_
              refine lv_aload_n hx hb dX7_field_97 rfl (lv_at hl 3 rfl) ?_
              refine va_get (D := (dC, dI)) (ci := 8) (v := .int (nI wc)) (C := RX7) (T := TX7) (N := 32) hx hb hts hinX7 hown hK hP 0 rfl rfl 6 (by decide) (hts (.fieldLink RX7 27 "ScanCodesModel" "written" "I") (by decide +kernel)) (fun _ h9 => h9) rfl dX7_field_98 ?_
              refine lv_icmp_ge (tgt := 133) hx hb dX7_field_101 (by decide) (fun c101 => ?_) (fun c101 => ?_)
              · have hge2 := zn_le c101 (by omega) (by omega)
                have hjw : j = wc := by omega
                rw [hjw] at hl
                refine lv_aload_n hx hb dX7_field_133 rfl (lv_at hl 3 rfl) ?_
                refine lv_lload_n hx hb dX7_field_134 rfl (lv_at hl 5 rfl) ?_
                refine lv_lload hx hb dX7_field_135 (lv_at hl 2 rfl) ?_
                refine W.lcmp hx hb dX7_field_137 ?_
                refine lv_if_ge (tgt := 172) hx hb dX7_field_138 (by decide) (fun c138 => ?_) (fun c138 => ?_)
                · refine lv_iconst (v := 2) hx hb dX7_field_172 (by decide) ?_
                  refine lv_goto (tgt := 186) hx hb dX7_field_173 (by decide) ?_
                  refine va_put (D := (dC, dI)) (ci := 8) (v := .int 2) (ty := .int) (C := RX7) (T := TX7) (N := 32) hx hb hts hinX7 tyX7 tyX7_ok nmX7 hown hK hP hD hS 0 rfl rfl 0 (by decide) (hts (.fieldLink RX7 7 "ScanCodesModel" "thrownCode" "I") (by decide +kernel)) (fun _ h9 => h9) rfl (by decide +kernel) rfl rfl (Nat.le_of_ble_eq_true rfl) dX7_field_186 (fun H locs hP hD hS => ?_)
                  have hP : va_P (dC, dI) vwCl [(h, .inr (8, [.int 2, .int (nI fm), .ref bL, .ref bF, .ref bS, .ref bN, .int (nI wc), .ref bwp, .ref bwg, .ref bwv, .int (nI mn), .ref bmo, .int (nI rn), .ref brd, .int (nI tn), .ref bty, .int mm, .int (nI sgn), .ref bsg, .int (nI fc), .ref bpf, .ref bpg, .ref bpv, .int u, .int (nI lb), .ref blF, .ref blP, .ref blD, .ref blN, .ref bwn, .int lat, .ref bla])), (bL, .inl (cI, 100, .inl L)), (bF, .inl (cZ, 100, .inl F)), (bwp, .inl (cI, 6, .inl wp)), (bwg, .inl (cI, 6, .inl wg)), (bwv, .inl (cJ, 6, .inr (.inl wv)))] H := hP
                  have hD : va_D A [(h, .inr (8, [.int 2, .int (nI fm), .ref bL, .ref bF, .ref bS, .ref bN, .int (nI wc), .ref bwp, .ref bwg, .ref bwv, .int (nI mn), .ref bmo, .int (nI rn), .ref brd, .int (nI tn), .ref bty, .int mm, .int (nI sgn), .ref bsg, .int (nI fc), .ref bpf, .ref bpg, .ref bpv, .int u, .int (nI lb), .ref blF, .ref blP, .ref blD, .ref blN, .ref bwn, .int lat, .ref bla])), (bL, .inl (cI, 100, .inl L)), (bF, .inl (cZ, 100, .inl F)), (bwp, .inl (cI, 6, .inl wp)), (bwg, .inl (cI, 6, .inl wg)), (bwv, .inl (cJ, 6, .inr (.inl wv)))] := hD
                  refine lv_aload_n hx hb dX7_field_189 rfl (lv_at hl 3 rfl) ?_
                  refine va_get (D := (dC, dI)) (ci := 8) (v := .int 2) (C := RX7) (T := TX7) (N := 32) hx hb hts hinX7 hown hK hP 0 rfl rfl 0 (by decide) (hts (.fieldLink RX7 7 "ScanCodesModel" "thrownCode" "I") (by decide +kernel)) (fun _ h9 => h9) rfl dX7_field_190 ?_
                  refine lv_if_eq (tgt := 198) hx hb dX7_field_193 (by decide) (fun c193 => absurd c193 (by decide)) (fun c193 => ?_)
                  refine lv_iconst (v := 0) hx hb dX7_field_196 (by decide) ?_
                  have hex : ze_field L F wp wc x v d = 2 := by rw [ze_field, zi_t hh, zi_f (fun q => (hdl.mp q.2.2.2) (zl_ge.mp c138))]
                  have hP9 : va_P (dC, dI) vwCl [(h, .inr (8, [.int (nI (ze_field L F wp wc x v d)), .int (nI fm), .ref bL, .ref bF, .ref bS, .ref bN, .int (nI (zi (ze_field L F wp wc x v d = 0) (wc + 1) (wc))), .ref bwp, .ref bwg, .ref bwv, .int (nI mn), .ref bmo, .int (nI rn), .ref brd, .int (nI tn), .ref bty, .int mm, .int (nI sgn), .ref bsg, .int (nI fc), .ref bpf, .ref bpg, .ref bpv, .int u, .int (nI lb), .ref blF, .ref blP, .ref blD, .ref blN, .ref bwn, .int lat, .ref bla])), (bL, .inl (cI, 100, .inl L)), (bF, .inl (cZ, 100, .inl F)), (bwp, .inl (cI, 6, .inl (zi (ze_field L F wp wc x v d = 0) (upd wp wc x) (wp)))), (bwg, .inl (cI, 6, .inl (zi (ze_field L F wp wc x v d = 0) (upd wg wc d) (wg)))), (bwv, .inl (cJ, 6, .inr (.inl (zi (ze_field L F wp wc x v d = 0) (vp_updL wv wc v) (wv)))))] H := by simp only [hex, zi0, zi1, zi2, zi3, zi_t (P := True) trivial, zi_f (P := False) id]; exact hP
                  have hD9 : va_D A [(h, .inr (8, [.int (nI (ze_field L F wp wc x v d)), .int (nI fm), .ref bL, .ref bF, .ref bS, .ref bN, .int (nI (zi (ze_field L F wp wc x v d = 0) (wc + 1) (wc))), .ref bwp, .ref bwg, .ref bwv, .int (nI mn), .ref bmo, .int (nI rn), .ref brd, .int (nI tn), .ref bty, .int mm, .int (nI sgn), .ref bsg, .int (nI fc), .ref bpf, .ref bpg, .ref bpv, .int u, .int (nI lb), .ref blF, .ref blP, .ref blD, .ref blN, .ref bwn, .int lat, .ref bla])), (bL, .inl (cI, 100, .inl L)), (bF, .inl (cZ, 100, .inl F)), (bwp, .inl (cI, 6, .inl (zi (ze_field L F wp wc x v d = 0) (upd wp wc x) (wp)))), (bwg, .inl (cI, 6, .inl (zi (ze_field L F wp wc x v d = 0) (upd wg wc d) (wg)))), (bwv, .inl (cJ, 6, .inr (.inl (zi (ze_field L F wp wc x v d = 0) (vp_updL wv wc v) (wv)))))] := by simp only [hex, zi0, zi1, zi2, zi3, zi_t (P := True) trivial, zi_f (P := False) id]; exact hD
                  have hres : (0 : Int32) = zi (ze_field L F wp wc x v d = 0) (nI (wc + 1)) 0 := by simp only [hex, zi0, zi1, zi2, zi3, zi_t (P := True) trivial, zi_f (P := False) id]
                  exact W.iret (v := 0) hx hb hr (fun t ht hW => ⟨⟨_, (), rfl, hres, by rw [ht]; exact hP9, va_K.moved hW.alike hK, hD9⟩, hS.F ht⟩) hS.2.2 dX7_field_197
                · refine lv_iload hx hb dX7_field_141 (lv_at hl 6 rfl) ?_
                  refine lv_aload_n hx hb dX7_field_143 rfl (lv_at hl 3 rfl) ?_
                  refine va_get (D := (dC, dI)) (ci := 8) (v := .ref bL) (C := RX7) (T := TX7) (N := 32) hx hb hts hinX7 hown hK hP 0 rfl rfl 2 (by decide) (hts (.fieldLink RX7 13 "ScanCodesModel" "length" "[I") (by decide +kernel)) (fun _ h9 => h9) rfl dX7_field_144 ?_
                  refine lv_iload_n hx hb dX7_field_147 rfl (lv_at hl 4 rfl) ?_
                  refine zc_iald hx hb hK hP 1 0 rfl rfl x.toNatClampNeg hix.1 hix.2.1 (by decide) dX7_field_148 ?_
                  refine lv_icmp_gt (tgt := 172) hx hb dX7_field_149 (by decide) (fun c149 => ?_) (fun c149 => ?_)
                  · refine lv_iconst (v := 2) hx hb dX7_field_172 (by decide) ?_
                    refine lv_goto (tgt := 186) hx hb dX7_field_173 (by decide) ?_
                    refine va_put (D := (dC, dI)) (ci := 8) (v := .int 2) (ty := .int) (C := RX7) (T := TX7) (N := 32) hx hb hts hinX7 tyX7 tyX7_ok nmX7 hown hK hP hD hS 0 rfl rfl 0 (by decide) (hts (.fieldLink RX7 7 "ScanCodesModel" "thrownCode" "I") (by decide +kernel)) (fun _ h9 => h9) rfl (by decide +kernel) rfl rfl (Nat.le_of_ble_eq_true rfl) dX7_field_186 (fun H locs hP hD hS => ?_)
                    have hP : va_P (dC, dI) vwCl [(h, .inr (8, [.int 2, .int (nI fm), .ref bL, .ref bF, .ref bS, .ref bN, .int (nI wc), .ref bwp, .ref bwg, .ref bwv, .int (nI mn), .ref bmo, .int (nI rn), .ref brd, .int (nI tn), .ref bty, .int mm, .int (nI sgn), .ref bsg, .int (nI fc), .ref bpf, .ref bpg, .ref bpv, .int u, .int (nI lb), .ref blF, .ref blP, .ref blD, .ref blN, .ref bwn, .int lat, .ref bla])), (bL, .inl (cI, 100, .inl L)), (bF, .inl (cZ, 100, .inl F)), (bwp, .inl (cI, 6, .inl wp)), (bwg, .inl (cI, 6, .inl wg)), (bwv, .inl (cJ, 6, .inr (.inl wv)))] H := hP
                    have hD : va_D A [(h, .inr (8, [.int 2, .int (nI fm), .ref bL, .ref bF, .ref bS, .ref bN, .int (nI wc), .ref bwp, .ref bwg, .ref bwv, .int (nI mn), .ref bmo, .int (nI rn), .ref brd, .int (nI tn), .ref bty, .int mm, .int (nI sgn), .ref bsg, .int (nI fc), .ref bpf, .ref bpg, .ref bpv, .int u, .int (nI lb), .ref blF, .ref blP, .ref blD, .ref blN, .ref bwn, .int lat, .ref bla])), (bL, .inl (cI, 100, .inl L)), (bF, .inl (cZ, 100, .inl F)), (bwp, .inl (cI, 6, .inl wp)), (bwg, .inl (cI, 6, .inl wg)), (bwv, .inl (cJ, 6, .inr (.inl wv)))] := hD
                    refine lv_aload_n hx hb dX7_field_189 rfl (lv_at hl 3 rfl) ?_
                    refine va_get (D := (dC, dI)) (ci := 8) (v := .int 2) (C := RX7) (T := TX7) (N := 32) hx hb hts hinX7 hown hK hP 0 rfl rfl 0 (by decide) (hts (.fieldLink RX7 7 "ScanCodesModel" "thrownCode" "I") (by decide +kernel)) (fun _ h9 => h9) rfl dX7_field_190 ?_
                    refine lv_if_eq (tgt := 198) hx hb dX7_field_193 (by decide) (fun c193 => absurd c193 (by decide)) (fun c193 => ?_)
                    refine lv_iconst (v := 0) hx hb dX7_field_196 (by decide) ?_
                    have hex : ze_field L F wp wc x v d = 2 := by rw [ze_field, zi_t hh, zi_t ⟨c16, c23, zl_ge.mp c29, hdl.mpr (fun q => c138 (zl_ge.mpr q))⟩, zi_f (fun q => q.elim (fun z => by rw [← z.2] at c149; exact Int32.lt_irrefl c149) (fun z => Int32.not_le.mpr c149 z.2))]
                    have hP9 : va_P (dC, dI) vwCl [(h, .inr (8, [.int (nI (ze_field L F wp wc x v d)), .int (nI fm), .ref bL, .ref bF, .ref bS, .ref bN, .int (nI (zi (ze_field L F wp wc x v d = 0) (wc + 1) (wc))), .ref bwp, .ref bwg, .ref bwv, .int (nI mn), .ref bmo, .int (nI rn), .ref brd, .int (nI tn), .ref bty, .int mm, .int (nI sgn), .ref bsg, .int (nI fc), .ref bpf, .ref bpg, .ref bpv, .int u, .int (nI lb), .ref blF, .ref blP, .ref blD, .ref blN, .ref bwn, .int lat, .ref bla])), (bL, .inl (cI, 100, .inl L)), (bF, .inl (cZ, 100, .inl F)), (bwp, .inl (cI, 6, .inl (zi (ze_field L F wp wc x v d = 0) (upd wp wc x) (wp)))), (bwg, .inl (cI, 6, .inl (zi (ze_field L F wp wc x v d = 0) (upd wg wc d) (wg)))), (bwv, .inl (cJ, 6, .inr (.inl (zi (ze_field L F wp wc x v d = 0) (vp_updL wv wc v) (wv)))))] H := by simp only [hex, zi0, zi1, zi2, zi3, zi_t (P := True) trivial, zi_f (P := False) id]; exact hP
                    have hD9 : va_D A [(h, .inr (8, [.int (nI (ze_field L F wp wc x v d)), .int (nI fm), .ref bL, .ref bF, .ref bS, .ref bN, .int (nI (zi (ze_field L F wp wc x v d = 0) (wc + 1) (wc))), .ref bwp, .ref bwg, .ref bwv, .int (nI mn), .ref bmo, .int (nI rn), .ref brd, .int (nI tn), .ref bty, .int mm, .int (nI sgn), .ref bsg, .int (nI fc), .ref bpf, .ref bpg, .ref bpv, .int u, .int (nI lb), .ref blF, .ref blP, .ref blD, .ref blN, .ref bwn, .int lat, .ref bla])), (bL, .inl (cI, 100, .inl L)), (bF, .inl (cZ, 100, .inl F)), (bwp, .inl (cI, 6, .inl (zi (ze_field L F wp wc x v d = 0) (upd wp wc x) (wp)))), (bwg, .inl (cI, 6, .inl (zi (ze_field L F wp wc x v d = 0) (upd wg wc d) (wg)))), (bwv, .inl (cJ, 6, .inr (.inl (zi (ze_field L F wp wc x v d = 0) (vp_updL wv wc v) (wv)))))] := by simp only [hex, zi0, zi1, zi2, zi3, zi_t (P := True) trivial, zi_f (P := False) id]; exact hD
                    have hres : (0 : Int32) = zi (ze_field L F wp wc x v d = 0) (nI (wc + 1)) 0 := by simp only [hex, zi0, zi1, zi2, zi3, zi_t (P := True) trivial, zi_f (P := False) id]
                    exact W.iret (v := 0) hx hb hr (fun t ht hW => ⟨⟨_, (), rfl, hres, by rw [ht]; exact hP9, va_K.moved hW.alike hK, hD9⟩, hS.F ht⟩) hS.2.2 dX7_field_197
                  · refine lv_aload_n hx hb dX7_field_152 rfl (lv_at hl 3 rfl) ?_
                    refine va_get (D := (dC, dI)) (ci := 8) (v := .ref bF) (C := RX7) (T := TX7) (N := 32) hx hb hts hinX7 hown hK hP 0 rfl rfl 3 (by decide) (hts (.fieldLink RX7 17 "ScanCodesModel" "fixed" "[Z") (by decide +kernel)) (fun _ h9 => h9) rfl dX7_field_153 ?_
                    refine lv_iload_n hx hb dX7_field_156 rfl (lv_at hl 4 rfl) ?_
                    refine zc_zald hx hb hK hP 2 1 rfl rfl x.toNatClampNeg hix.1 hix.2.1 (by decide) dX7_field_157 ?_
                    refine lv_if_eq (tgt := 176) hx hb dX7_field_158 (by decide) (fun c158 => ?_) (fun c158 => ?_)
                    · refine lv_iload hx hb dX7_field_176 (lv_at hl 1 rfl) ?_
                      refine lv_if_eq (tgt := 185) hx hb dX7_field_178 (by decide) (fun c178 => ?_) (fun c178 => ?_)
                      · have hw5 : wc < 6 := Nat.lt_of_le_of_ne hw6 (fun q => zb_0 c178 (Or.inl q))
                        refine lv_iconst (v := 0) hx hb dX7_field_185 (by decide) ?_
                        refine va_put (D := (dC, dI)) (ci := 8) (v := .int 0) (ty := .int) (C := RX7) (T := TX7) (N := 32) hx hb hts hinX7 tyX7 tyX7_ok nmX7 hown hK hP hD hS 0 rfl rfl 0 (by decide) (hts (.fieldLink RX7 7 "ScanCodesModel" "thrownCode" "I") (by decide +kernel)) (fun _ h9 => h9) rfl (by decide +kernel) rfl rfl (Nat.le_of_ble_eq_true rfl) dX7_field_186 (fun H locs hP hD hS => ?_)
                        have hP : va_P (dC, dI) vwCl [(h, .inr (8, [.int 0, .int (nI fm), .ref bL, .ref bF, .ref bS, .ref bN, .int (nI wc), .ref bwp, .ref bwg, .ref bwv, .int (nI mn), .ref bmo, .int (nI rn), .ref brd, .int (nI tn), .ref bty, .int mm, .int (nI sgn), .ref bsg, .int (nI fc), .ref bpf, .ref bpg, .ref bpv, .int u, .int (nI lb), .ref blF, .ref blP, .ref blD, .ref blN, .ref bwn, .int lat, .ref bla])), (bL, .inl (cI, 100, .inl L)), (bF, .inl (cZ, 100, .inl F)), (bwp, .inl (cI, 6, .inl wp)), (bwg, .inl (cI, 6, .inl wg)), (bwv, .inl (cJ, 6, .inr (.inl wv)))] H := hP
                        have hD : va_D A [(h, .inr (8, [.int 0, .int (nI fm), .ref bL, .ref bF, .ref bS, .ref bN, .int (nI wc), .ref bwp, .ref bwg, .ref bwv, .int (nI mn), .ref bmo, .int (nI rn), .ref brd, .int (nI tn), .ref bty, .int mm, .int (nI sgn), .ref bsg, .int (nI fc), .ref bpf, .ref bpg, .ref bpv, .int u, .int (nI lb), .ref blF, .ref blP, .ref blD, .ref blN, .ref bwn, .int lat, .ref bla])), (bL, .inl (cI, 100, .inl L)), (bF, .inl (cZ, 100, .inl F)), (bwp, .inl (cI, 6, .inl wp)), (bwg, .inl (cI, 6, .inl wg)), (bwv, .inl (cJ, 6, .inr (.inl wv)))] := hD
                        refine lv_aload_n hx hb dX7_field_189 rfl (lv_at hl 3 rfl) ?_
                        refine va_get (D := (dC, dI)) (ci := 8) (v := .int 0) (C := RX7) (T := TX7) (N := 32) hx hb hts hinX7 hown hK hP 0 rfl rfl 0 (by decide) (hts (.fieldLink RX7 7 "ScanCodesModel" "thrownCode" "I") (by decide +kernel)) (fun _ h9 => h9) rfl dX7_field_190 ?_
                        refine lv_if_eq (tgt := 198) hx hb dX7_field_193 (by decide) (fun c193 => ?_) (fun c193 => absurd (by decide) c193)
                        refine lv_aload_n hx hb dX7_field_198 rfl (lv_at hl 3 rfl) ?_
                        refine va_get (D := (dC, dI)) (ci := 8) (v := .ref bwp) (C := RX7) (T := TX7) (N := 32) hx hb hts hinX7 hown hK hP 0 rfl rfl 7 (by decide) (hts (.fieldLink RX7 30 "ScanCodesModel" "writtenPrefix" "[I") (by decide +kernel)) (fun _ h9 => h9) rfl dX7_field_199 ?_
                        refine lv_aload_n hx hb dX7_field_202 rfl (lv_at hl 3 rfl) ?_
                        refine va_get (D := (dC, dI)) (ci := 8) (v := .int (nI wc)) (C := RX7) (T := TX7) (N := 32) hx hb hts hinX7 hown hK hP 0 rfl rfl 6 (by decide) (hts (.fieldLink RX7 27 "ScanCodesModel" "written" "I") (by decide +kernel)) (fun _ h9 => h9) rfl dX7_field_203 ?_
                        refine lv_iload_n hx hb dX7_field_206 rfl (lv_at hl 4 rfl) ?_
                        refine zc_iast hx hb hK hP hD hS 3 0 rfl rfl wc rfl (by first | assumption | omega) (by decide) dX7_field_207 (fun H locs hP hD hS => ?_)
                        have hP : va_P (dC, dI) vwCl [(h, .inr (8, [.int 0, .int (nI fm), .ref bL, .ref bF, .ref bS, .ref bN, .int (nI wc), .ref bwp, .ref bwg, .ref bwv, .int (nI mn), .ref bmo, .int (nI rn), .ref brd, .int (nI tn), .ref bty, .int mm, .int (nI sgn), .ref bsg, .int (nI fc), .ref bpf, .ref bpg, .ref bpv, .int u, .int (nI lb), .ref blF, .ref blP, .ref blD, .ref blN, .ref bwn, .int lat, .ref bla])), (bL, .inl (cI, 100, .inl L)), (bF, .inl (cZ, 100, .inl F)), (bwp, .inl (cI, 6, .inl (upd wp wc x))), (bwg, .inl (cI, 6, .inl wg)), (bwv, .inl (cJ, 6, .inr (.inl wv)))] H := hP
                        have hD : va_D A [(h, .inr (8, [.int 0, .int (nI fm), .ref bL, .ref bF, .ref bS, .ref bN, .int (nI wc), .ref bwp, .ref bwg, .ref bwv, .int (nI mn), .ref bmo, .int (nI rn), .ref brd, .int (nI tn), .ref bty, .int mm, .int (nI sgn), .ref bsg, .int (nI fc), .ref bpf, .ref bpg, .ref bpv, .int u, .int (nI lb), .ref blF, .ref blP, .ref blD, .ref blN, .ref bwn, .int lat, .ref bla])), (bL, .inl (cI, 100, .inl L)), (bF, .inl (cZ, 100, .inl F)), (bwp, .inl (cI, 6, .inl (upd wp wc x))), (bwg, .inl (cI, 6, .inl wg)), (bwv, .inl (cJ, 6, .inr (.inl wv)))] := hD
                        refine lv_aload_n hx hb dX7_field_208 rfl (lv_at hl 3 rfl) ?_
                        refine va_get (D := (dC, dI)) (ci := 8) (v := .ref bwg) (C := RX7) (T := TX7) (N := 32) hx hb hts hinX7 hown hK hP 0 rfl rfl 8 (by decide) (hts (.fieldLink RX7 33 "ScanCodesModel" "writtenDigits" "[I") (by decide +kernel)) (fun _ h9 => h9) rfl dX7_field_209 ?_
                        refine lv_aload_n hx hb dX7_field_212 rfl (lv_at hl 3 rfl) ?_
                        refine va_get (D := (dC, dI)) (ci := 8) (v := .int (nI wc)) (C := RX7) (T := TX7) (N := 32) hx hb hts hinX7 hown hK hP 0 rfl rfl 6 (by decide) (hts (.fieldLink RX7 27 "ScanCodesModel" "written" "I") (by decide +kernel)) (fun _ h9 => h9) rfl dX7_field_213 ?_
                        refine lv_iload hx hb dX7_field_216 (lv_at hl 6 rfl) ?_
                        refine zc_iast hx hb hK hP hD hS 4 0 rfl rfl wc rfl (by first | assumption | omega) (by decide) dX7_field_218 (fun H locs hP hD hS => ?_)
                        have hP : va_P (dC, dI) vwCl [(h, .inr (8, [.int 0, .int (nI fm), .ref bL, .ref bF, .ref bS, .ref bN, .int (nI wc), .ref bwp, .ref bwg, .ref bwv, .int (nI mn), .ref bmo, .int (nI rn), .ref brd, .int (nI tn), .ref bty, .int mm, .int (nI sgn), .ref bsg, .int (nI fc), .ref bpf, .ref bpg, .ref bpv, .int u, .int (nI lb), .ref blF, .ref blP, .ref blD, .ref blN, .ref bwn, .int lat, .ref bla])), (bL, .inl (cI, 100, .inl L)), (bF, .inl (cZ, 100, .inl F)), (bwp, .inl (cI, 6, .inl (upd wp wc x))), (bwg, .inl (cI, 6, .inl (upd wg wc d))), (bwv, .inl (cJ, 6, .inr (.inl wv)))] H := hP
                        have hD : va_D A [(h, .inr (8, [.int 0, .int (nI fm), .ref bL, .ref bF, .ref bS, .ref bN, .int (nI wc), .ref bwp, .ref bwg, .ref bwv, .int (nI mn), .ref bmo, .int (nI rn), .ref brd, .int (nI tn), .ref bty, .int mm, .int (nI sgn), .ref bsg, .int (nI fc), .ref bpf, .ref bpg, .ref bpv, .int u, .int (nI lb), .ref blF, .ref blP, .ref blD, .ref blN, .ref bwn, .int lat, .ref bla])), (bL, .inl (cI, 100, .inl L)), (bF, .inl (cZ, 100, .inl F)), (bwp, .inl (cI, 6, .inl (upd wp wc x))), (bwg, .inl (cI, 6, .inl (upd wg wc d))), (bwv, .inl (cJ, 6, .inr (.inl wv)))] := hD
                        refine lv_aload_n hx hb dX7_field_219 rfl (lv_at hl 3 rfl) ?_
                        refine va_get (D := (dC, dI)) (ci := 8) (v := .ref bwv) (C := RX7) (T := TX7) (N := 32) hx hb hts hinX7 hown hK hP 0 rfl rfl 9 (by decide) (hts (.fieldLink RX7 36 "ScanCodesModel" "writtenNumber" "[J") (by decide +kernel)) (fun _ h9 => h9) rfl dX7_field_220 ?_
                        refine lv_aload_n hx hb dX7_field_223 rfl (lv_at hl 3 rfl) ?_
                        refine va_get (D := (dC, dI)) (ci := 8) (v := .int (nI wc)) (C := RX7) (T := TX7) (N := 32) hx hb hts hinX7 hown hK hP 0 rfl rfl 6 (by decide) (hts (.fieldLink RX7 27 "ScanCodesModel" "written" "I") (by decide +kernel)) (fun _ h9 => h9) rfl dX7_field_224 ?_
                        refine lv_lload_n hx hb dX7_field_227 rfl (lv_at hl 5 rfl) ?_
                        refine zc_last hx hb hK hP hD hS 5 2 rfl rfl wc rfl (by first | assumption | omega) (by decide) dX7_field_228 (fun H locs hP hD hS => ?_)
                        have hP : va_P (dC, dI) vwCl [(h, .inr (8, [.int 0, .int (nI fm), .ref bL, .ref bF, .ref bS, .ref bN, .int (nI wc), .ref bwp, .ref bwg, .ref bwv, .int (nI mn), .ref bmo, .int (nI rn), .ref brd, .int (nI tn), .ref bty, .int mm, .int (nI sgn), .ref bsg, .int (nI fc), .ref bpf, .ref bpg, .ref bpv, .int u, .int (nI lb), .ref blF, .ref blP, .ref blD, .ref blN, .ref bwn, .int lat, .ref bla])), (bL, .inl (cI, 100, .inl L)), (bF, .inl (cZ, 100, .inl F)), (bwp, .inl (cI, 6, .inl (upd wp wc x))), (bwg, .inl (cI, 6, .inl (upd wg wc d))), (bwv, .inl (cJ, 6, .inr (.inl (vp_updL wv wc v))))] H := hP
                        have hD : va_D A [(h, .inr (8, [.int 0, .int (nI fm), .ref bL, .ref bF, .ref bS, .ref bN, .int (nI wc), .ref bwp, .ref bwg, .ref bwv, .int (nI mn), .ref bmo, .int (nI rn), .ref brd, .int (nI tn), .ref bty, .int mm, .int (nI sgn), .ref bsg, .int (nI fc), .ref bpf, .ref bpg, .ref bpv, .int u, .int (nI lb), .ref blF, .ref blP, .ref blD, .ref blN, .ref bwn, .int lat, .ref bla])), (bL, .inl (cI, 100, .inl L)), (bF, .inl (cZ, 100, .inl F)), (bwp, .inl (cI, 6, .inl (upd wp wc x))), (bwg, .inl (cI, 6, .inl (upd wg wc d))), (bwv, .inl (cJ, 6, .inr (.inl (vp_updL wv wc v))))] := hD
                        refine lv_aload_n hx hb dX7_field_229 rfl (lv_at hl 3 rfl) ?_
                        refine lv_dup hx hb dX7_field_230 rfl ?_
                        refine va_get (D := (dC, dI)) (ci := 8) (v := .int (nI wc)) (C := RX7) (T := TX7) (N := 32) hx hb hts hinX7 hown hK hP 0 rfl rfl 6 (by decide) (hts (.fieldLink RX7 27 "ScanCodesModel" "written" "I") (by decide +kernel)) (fun _ h9 => h9) rfl dX7_field_231 ?_
                        refine lv_iconst (v := 1) hx hb dX7_field_234 (by decide) ?_
                        refine lv_iadd hx hb dX7_field_235 ?_
                        refine zc_ti (y := nI (wc + 1)) (nI_1 wc) ?_
                        refine va_put (D := (dC, dI)) (ci := 8) (v := .int (nI (wc + 1))) (ty := .int) (C := RX7) (T := TX7) (N := 32) hx hb hts hinX7 tyX7 tyX7_ok nmX7 hown hK hP hD hS 0 rfl rfl 6 (by decide) (hts (.fieldLink RX7 27 "ScanCodesModel" "written" "I") (by decide +kernel)) (fun _ h9 => h9) rfl (by decide +kernel) rfl rfl (Nat.le_of_ble_eq_true rfl) dX7_field_236 (fun H locs hP hD hS => ?_)
                        have hP : va_P (dC, dI) vwCl [(h, .inr (8, [.int 0, .int (nI fm), .ref bL, .ref bF, .ref bS, .ref bN, .int (nI (wc + 1)), .ref bwp, .ref bwg, .ref bwv, .int (nI mn), .ref bmo, .int (nI rn), .ref brd, .int (nI tn), .ref bty, .int mm, .int (nI sgn), .ref bsg, .int (nI fc), .ref bpf, .ref bpg, .ref bpv, .int u, .int (nI lb), .ref blF, .ref blP, .ref blD, .ref blN, .ref bwn, .int lat, .ref bla])), (bL, .inl (cI, 100, .inl L)), (bF, .inl (cZ, 100, .inl F)), (bwp, .inl (cI, 6, .inl (upd wp wc x))), (bwg, .inl (cI, 6, .inl (upd wg wc d))), (bwv, .inl (cJ, 6, .inr (.inl (vp_updL wv wc v))))] H := hP
                        have hD : va_D A [(h, .inr (8, [.int 0, .int (nI fm), .ref bL, .ref bF, .ref bS, .ref bN, .int (nI (wc + 1)), .ref bwp, .ref bwg, .ref bwv, .int (nI mn), .ref bmo, .int (nI rn), .ref brd, .int (nI tn), .ref bty, .int mm, .int (nI sgn), .ref bsg, .int (nI fc), .ref bpf, .ref bpg, .ref bpv, .int u, .int (nI lb), .ref blF, .ref blP, .ref blD, .ref blN, .ref bwn, .int lat, .ref bla])), (bL, .inl (cI, 100, .inl L)), (bF, .inl (cZ, 100, .inl F)), (bwp, .inl (cI, 6, .inl (upd wp wc x))), (bwg, .inl (cI, 6, .inl (upd wg wc d))), (bwv, .inl (cJ, 6, .inr (.inl (vp_updL wv wc v))))] := hD
                        refine lv_aload_n hx hb dX7_field_239 rfl (lv_at hl 3 rfl) ?_
                        refine va_get (D := (dC, dI)) (ci := 8) (v := .int (nI (wc + 1))) (C := RX7) (T := TX7) (N := 32) hx hb hts hinX7 hown hK hP 0 rfl rfl 6 (by decide) (hts (.fieldLink RX7 27 "ScanCodesModel" "written" "I") (by decide +kernel)) (fun _ h9 => h9) rfl dX7_field_240 ?_
                        have hex : ze_field L F wp wc x v d = 0 := by rw [ze_field, zi_t hh, zi_t ⟨c16, c23, zl_ge.mp c29, hdl.mpr (fun q => c138 (zl_ge.mpr q))⟩, zi_t (P := zp_lets L F x.toNatClampNeg d) (Or.inr ⟨c158, Int32.not_lt.mp c149⟩), zi_t ⟨fun q => zb_0 c178 (Or.inr q), Nat.lt_of_le_of_ne hw6 (fun q => zb_0 c178 (Or.inl q))⟩]
                        have hP9 : va_P (dC, dI) vwCl [(h, .inr (8, [.int (nI (ze_field L F wp wc x v d)), .int (nI fm), .ref bL, .ref bF, .ref bS, .ref bN, .int (nI (zi (ze_field L F wp wc x v d = 0) (wc + 1) (wc))), .ref bwp, .ref bwg, .ref bwv, .int (nI mn), .ref bmo, .int (nI rn), .ref brd, .int (nI tn), .ref bty, .int mm, .int (nI sgn), .ref bsg, .int (nI fc), .ref bpf, .ref bpg, .ref bpv, .int u, .int (nI lb), .ref blF, .ref blP, .ref blD, .ref blN, .ref bwn, .int lat, .ref bla])), (bL, .inl (cI, 100, .inl L)), (bF, .inl (cZ, 100, .inl F)), (bwp, .inl (cI, 6, .inl (zi (ze_field L F wp wc x v d = 0) (upd wp wc x) (wp)))), (bwg, .inl (cI, 6, .inl (zi (ze_field L F wp wc x v d = 0) (upd wg wc d) (wg)))), (bwv, .inl (cJ, 6, .inr (.inl (zi (ze_field L F wp wc x v d = 0) (vp_updL wv wc v) (wv)))))] H := by simp only [hex, zi0, zi1, zi2, zi3, zi_t (P := True) trivial, zi_f (P := False) id]; exact hP
                        have hD9 : va_D A [(h, .inr (8, [.int (nI (ze_field L F wp wc x v d)), .int (nI fm), .ref bL, .ref bF, .ref bS, .ref bN, .int (nI (zi (ze_field L F wp wc x v d = 0) (wc + 1) (wc))), .ref bwp, .ref bwg, .ref bwv, .int (nI mn), .ref bmo, .int (nI rn), .ref brd, .int (nI tn), .ref bty, .int mm, .int (nI sgn), .ref bsg, .int (nI fc), .ref bpf, .ref bpg, .ref bpv, .int u, .int (nI lb), .ref blF, .ref blP, .ref blD, .ref blN, .ref bwn, .int lat, .ref bla])), (bL, .inl (cI, 100, .inl L)), (bF, .inl (cZ, 100, .inl F)), (bwp, .inl (cI, 6, .inl (zi (ze_field L F wp wc x v d = 0) (upd wp wc x) (wp)))), (bwg, .inl (cI, 6, .inl (zi (ze_field L F wp wc x v d = 0) (upd wg wc d) (wg)))), (bwv, .inl (cJ, 6, .inr (.inl (zi (ze_field L F wp wc x v d = 0) (vp_updL wv wc v) (wv)))))] := by simp only [hex, zi0, zi1, zi2, zi3, zi_t (P := True) trivial, zi_f (P := False) id]; exact hD
                        have hres : (nI (wc + 1)) = zi (ze_field L F wp wc x v d = 0) (nI (wc + 1)) 0 := by simp only [hex, zi0, zi1, zi2, zi3, zi_t (P := True) trivial, zi_f (P := False) id]
                        exact W.iret (v := nI (wc + 1)) hx hb hr (fun t ht hW => ⟨⟨_, (), rfl, hres, by rw [ht]; exact hP9, va_K.moved hW.alike hK, hD9⟩, hS.F ht⟩) hS.2.2 dX7_field_243
                      · refine lv_iconst (v := 3) hx hb dX7_field_181 (by decide) ?_
                        refine lv_goto (tgt := 186) hx hb dX7_field_182 (by decide) ?_
                        refine va_put (D := (dC, dI)) (ci := 8) (v := .int 3) (ty := .int) (C := RX7) (T := TX7) (N := 32) hx hb hts hinX7 tyX7 tyX7_ok nmX7 hown hK hP hD hS 0 rfl rfl 0 (by decide) (hts (.fieldLink RX7 7 "ScanCodesModel" "thrownCode" "I") (by decide +kernel)) (fun _ h9 => h9) rfl (by decide +kernel) rfl rfl (Nat.le_of_ble_eq_true rfl) dX7_field_186 (fun H locs hP hD hS => ?_)
                        have hP : va_P (dC, dI) vwCl [(h, .inr (8, [.int 3, .int (nI fm), .ref bL, .ref bF, .ref bS, .ref bN, .int (nI wc), .ref bwp, .ref bwg, .ref bwv, .int (nI mn), .ref bmo, .int (nI rn), .ref brd, .int (nI tn), .ref bty, .int mm, .int (nI sgn), .ref bsg, .int (nI fc), .ref bpf, .ref bpg, .ref bpv, .int u, .int (nI lb), .ref blF, .ref blP, .ref blD, .ref blN, .ref bwn, .int lat, .ref bla])), (bL, .inl (cI, 100, .inl L)), (bF, .inl (cZ, 100, .inl F)), (bwp, .inl (cI, 6, .inl wp)), (bwg, .inl (cI, 6, .inl wg)), (bwv, .inl (cJ, 6, .inr (.inl wv)))] H := hP
                        have hD : va_D A [(h, .inr (8, [.int 3, .int (nI fm), .ref bL, .ref bF, .ref bS, .ref bN, .int (nI wc), .ref bwp, .ref bwg, .ref bwv, .int (nI mn), .ref bmo, .int (nI rn), .ref brd, .int (nI tn), .ref bty, .int mm, .int (nI sgn), .ref bsg, .int (nI fc), .ref bpf, .ref bpg, .ref bpv, .int u, .int (nI lb), .ref blF, .ref blP, .ref blD, .ref blN, .ref bwn, .int lat, .ref bla])), (bL, .inl (cI, 100, .inl L)), (bF, .inl (cZ, 100, .inl F)), (bwp, .inl (cI, 6, .inl wp)), (bwg, .inl (cI, 6, .inl wg)), (bwv, .inl (cJ, 6, .inr (.inl wv)))] := hD
                        refine lv_aload_n hx hb dX7_field_189 rfl (lv_at hl 3 rfl) ?_
                        refine va_get (D := (dC, dI)) (ci := 8) (v := .int 3) (C := RX7) (T := TX7) (N := 32) hx hb hts hinX7 hown hK hP 0 rfl rfl 0 (by decide) (hts (.fieldLink RX7 7 "ScanCodesModel" "thrownCode" "I") (by decide +kernel)) (fun _ h9 => h9) rfl dX7_field_190 ?_
                        refine lv_if_eq (tgt := 198) hx hb dX7_field_193 (by decide) (fun c193 => absurd c193 (by decide)) (fun c193 => ?_)
                        refine lv_iconst (v := 0) hx hb dX7_field_196 (by decide) ?_
                        have hex : ze_field L F wp wc x v d = 3 := by rw [ze_field, zi_t hh, zi_t ⟨c16, c23, zl_ge.mp c29, hdl.mpr (fun q => c138 (zl_ge.mpr q))⟩, zi_t (P := zp_lets L F x.toNatClampNeg d) (Or.inr ⟨c158, Int32.not_lt.mp c149⟩), zi_f (fun q => (zb_1 c178).elim (fun z => by have := q.2; omega) q.1)]
                        have hP9 : va_P (dC, dI) vwCl [(h, .inr (8, [.int (nI (ze_field L F wp wc x v d)), .int (nI fm), .ref bL, .ref bF, .ref bS, .ref bN, .int (nI (zi (ze_field L F wp wc x v d = 0) (wc + 1) (wc))), .ref bwp, .ref bwg, .ref bwv, .int (nI mn), .ref bmo, .int (nI rn), .ref brd, .int (nI tn), .ref bty, .int mm, .int (nI sgn), .ref bsg, .int (nI fc), .ref bpf, .ref bpg, .ref bpv, .int u, .int (nI lb), .ref blF, .ref blP, .ref blD, .ref blN, .ref bwn, .int lat, .ref bla])), (bL, .inl (cI, 100, .inl L)), (bF, .inl (cZ, 100, .inl F)), (bwp, .inl (cI, 6, .inl (zi (ze_field L F wp wc x v d = 0) (upd wp wc x) (wp)))), (bwg, .inl (cI, 6, .inl (zi (ze_field L F wp wc x v d = 0) (upd wg wc d) (wg)))), (bwv, .inl (cJ, 6, .inr (.inl (zi (ze_field L F wp wc x v d = 0) (vp_updL wv wc v) (wv)))))] H := by simp only [hex, zi0, zi1, zi2, zi3, zi_t (P := True) trivial, zi_f (P := False) id]; exact hP
                        have hD9 : va_D A [(h, .inr (8, [.int (nI (ze_field L F wp wc x v d)), .int (nI fm), .ref bL, .ref bF, .ref bS, .ref bN, .int (nI (zi (ze_field L F wp wc x v d = 0) (wc + 1) (wc))), .ref bwp, .ref bwg, .ref bwv, .int (nI mn), .ref bmo, .int (nI rn), .ref brd, .int (nI tn), .ref bty, .int mm, .int (nI sgn), .ref bsg, .int (nI fc), .ref bpf, .ref bpg, .ref bpv, .int u, .int (nI lb), .ref blF, .ref blP, .ref blD, .ref blN, .ref bwn, .int lat, .ref bla])), (bL, .inl (cI, 100, .inl L)), (bF, .inl (cZ, 100, .inl F)), (bwp, .inl (cI, 6, .inl (zi (ze_field L F wp wc x v d = 0) (upd wp wc x) (wp)))), (bwg, .inl (cI, 6, .inl (zi (ze_field L F wp wc x v d = 0) (upd wg wc d) (wg)))), (bwv, .inl (cJ, 6, .inr (.inl (zi (ze_field L F wp wc x v d = 0) (vp_updL wv wc v) (wv)))))] := by simp only [hex, zi0, zi1, zi2, zi3, zi_t (P := True) trivial, zi_f (P := False) id]; exact hD
                        have hres : (0 : Int32) = zi (ze_field L F wp wc x v d = 0) (nI (wc + 1)) 0 := by simp only [hex, zi0, zi1, zi2, zi3, zi_t (P := True) trivial, zi_f (P := False) id]
                        exact W.iret (v := 0) hx hb hr (fun t ht hW => ⟨⟨_, (), rfl, hres, by rw [ht]; exact hP9, va_K.moved hW.alike hK, hD9⟩, hS.F ht⟩) hS.2.2 dX7_field_197
                    · refine lv_iload hx hb dX7_field_161 (lv_at hl 6 rfl) ?_
                      refine lv_aload_n hx hb dX7_field_163 rfl (lv_at hl 3 rfl) ?_
                      refine va_get (D := (dC, dI)) (ci := 8) (v := .ref bL) (C := RX7) (T := TX7) (N := 32) hx hb hts hinX7 hown hK hP 0 rfl rfl 2 (by decide) (hts (.fieldLink RX7 13 "ScanCodesModel" "length" "[I") (by decide +kernel)) (fun _ h9 => h9) rfl dX7_field_164 ?_
                      refine lv_iload_n hx hb dX7_field_167 rfl (lv_at hl 4 rfl) ?_
                      refine zc_iald hx hb hK hP 1 0 rfl rfl x.toNatClampNeg hix.1 hix.2.1 (by decide) dX7_field_168 ?_
                      refine lv_icmp_eq (tgt := 176) hx hb dX7_field_169 (by decide) (fun c169 => ?_) (fun c169 => ?_)
                      · refine lv_iload hx hb dX7_field_176 (lv_at hl 1 rfl) ?_
                        refine lv_if_eq (tgt := 185) hx hb dX7_field_178 (by decide) (fun c178 => ?_) (fun c178 => ?_)
                        · have hw5 : wc < 6 := Nat.lt_of_le_of_ne hw6 (fun q => zb_0 c178 (Or.inl q))
                          refine lv_iconst (v := 0) hx hb dX7_field_185 (by decide) ?_
                          refine va_put (D := (dC, dI)) (ci := 8) (v := .int 0) (ty := .int) (C := RX7) (T := TX7) (N := 32) hx hb hts hinX7 tyX7 tyX7_ok nmX7 hown hK hP hD hS 0 rfl rfl 0 (by decide) (hts (.fieldLink RX7 7 "ScanCodesModel" "thrownCode" "I") (by decide +kernel)) (fun _ h9 => h9) rfl (by decide +kernel) rfl rfl (Nat.le_of_ble_eq_true rfl) dX7_field_186 (fun H locs hP hD hS => ?_)
                          have hP : va_P (dC, dI) vwCl [(h, .inr (8, [.int 0, .int (nI fm), .ref bL, .ref bF, .ref bS, .ref bN, .int (nI wc), .ref bwp, .ref bwg, .ref bwv, .int (nI mn), .ref bmo, .int (nI rn), .ref brd, .int (nI tn), .ref bty, .int mm, .int (nI sgn), .ref bsg, .int (nI fc), .ref bpf, .ref bpg, .ref bpv, .int u, .int (nI lb), .ref blF, .ref blP, .ref blD, .ref blN, .ref bwn, .int lat, .ref bla])), (bL, .inl (cI, 100, .inl L)), (bF, .inl (cZ, 100, .inl F)), (bwp, .inl (cI, 6, .inl wp)), (bwg, .inl (cI, 6, .inl wg)), (bwv, .inl (cJ, 6, .inr (.inl wv)))] H := hP
                          have hD : va_D A [(h, .inr (8, [.int 0, .int (nI fm), .ref bL, .ref bF, .ref bS, .ref bN, .int (nI wc), .ref bwp, .ref bwg, .ref bwv, .int (nI mn), .ref bmo, .int (nI rn), .ref brd, .int (nI tn), .ref bty, .int mm, .int (nI sgn), .ref bsg, .int (nI fc), .ref bpf, .ref bpg, .ref bpv, .int u, .int (nI lb), .ref blF, .ref blP, .ref blD, .ref blN, .ref bwn, .int lat, .ref bla])), (bL, .inl (cI, 100, .inl L)), (bF, .inl (cZ, 100, .inl F)), (bwp, .inl (cI, 6, .inl wp)), (bwg, .inl (cI, 6, .inl wg)), (bwv, .inl (cJ, 6, .inr (.inl wv)))] := hD
                          refine lv_aload_n hx hb dX7_field_189 rfl (lv_at hl 3 rfl) ?_
                          refine va_get (D := (dC, dI)) (ci := 8) (v := .int 0) (C := RX7) (T := TX7) (N := 32) hx hb hts hinX7 hown hK hP 0 rfl rfl 0 (by decide) (hts (.fieldLink RX7 7 "ScanCodesModel" "thrownCode" "I") (by decide +kernel)) (fun _ h9 => h9) rfl dX7_field_190 ?_
                          refine lv_if_eq (tgt := 198) hx hb dX7_field_193 (by decide) (fun c193 => ?_) (fun c193 => absurd (by decide) c193)
                          refine lv_aload_n hx hb dX7_field_198 rfl (lv_at hl 3 rfl) ?_
                          refine va_get (D := (dC, dI)) (ci := 8) (v := .ref bwp) (C := RX7) (T := TX7) (N := 32) hx hb hts hinX7 hown hK hP 0 rfl rfl 7 (by decide) (hts (.fieldLink RX7 30 "ScanCodesModel" "writtenPrefix" "[I") (by decide +kernel)) (fun _ h9 => h9) rfl dX7_field_199 ?_
                          refine lv_aload_n hx hb dX7_field_202 rfl (lv_at hl 3 rfl) ?_
                          refine va_get (D := (dC, dI)) (ci := 8) (v := .int (nI wc)) (C := RX7) (T := TX7) (N := 32) hx hb hts hinX7 hown hK hP 0 rfl rfl 6 (by decide) (hts (.fieldLink RX7 27 "ScanCodesModel" "written" "I") (by decide +kernel)) (fun _ h9 => h9) rfl dX7_field_203 ?_
                          refine lv_iload_n hx hb dX7_field_206 rfl (lv_at hl 4 rfl) ?_
                          refine zc_iast hx hb hK hP hD hS 3 0 rfl rfl wc rfl (by first | assumption | omega) (by decide) dX7_field_207 (fun H locs hP hD hS => ?_)
                          have hP : va_P (dC, dI) vwCl [(h, .inr (8, [.int 0, .int (nI fm), .ref bL, .ref bF, .ref bS, .ref bN, .int (nI wc), .ref bwp, .ref bwg, .ref bwv, .int (nI mn), .ref bmo, .int (nI rn), .ref brd, .int (nI tn), .ref bty, .int mm, .int (nI sgn), .ref bsg, .int (nI fc), .ref bpf, .ref bpg, .ref bpv, .int u, .int (nI lb), .ref blF, .ref blP, .ref blD, .ref blN, .ref bwn, .int lat, .ref bla])), (bL, .inl (cI, 100, .inl L)), (bF, .inl (cZ, 100, .inl F)), (bwp, .inl (cI, 6, .inl (upd wp wc x))), (bwg, .inl (cI, 6, .inl wg)), (bwv, .inl (cJ, 6, .inr (.inl wv)))] H := hP
                          have hD : va_D A [(h, .inr (8, [.int 0, .int (nI fm), .ref bL, .ref bF, .ref bS, .ref bN, .int (nI wc), .ref bwp, .ref bwg, .ref bwv, .int (nI mn), .ref bmo, .int (nI rn), .ref brd, .int (nI tn), .ref bty, .int mm, .int (nI sgn), .ref bsg, .int (nI fc), .ref bpf, .ref bpg, .ref bpv, .int u, .int (nI lb), .ref blF, .ref blP, .ref blD, .ref blN, .ref bwn, .int lat, .ref bla])), (bL, .inl (cI, 100, .inl L)), (bF, .inl (cZ, 100, .inl F)), (bwp, .inl (cI, 6, .inl (upd wp wc x))), (bwg, .inl (cI, 6, .inl wg)), (bwv, .inl (cJ, 6, .inr (.inl wv)))] := hD
                          refine lv_aload_n hx hb dX7_field_208 rfl (lv_at hl 3 rfl) ?_
                          refine va_get (D := (dC, dI)) (ci := 8) (v := .ref bwg) (C := RX7) (T := TX7) (N := 32) hx hb hts hinX7 hown hK hP 0 rfl rfl 8 (by decide) (hts (.fieldLink RX7 33 "ScanCodesModel" "writtenDigits" "[I") (by decide +kernel)) (fun _ h9 => h9) rfl dX7_field_209 ?_
                          refine lv_aload_n hx hb dX7_field_212 rfl (lv_at hl 3 rfl) ?_
                          refine va_get (D := (dC, dI)) (ci := 8) (v := .int (nI wc)) (C := RX7) (T := TX7) (N := 32) hx hb hts hinX7 hown hK hP 0 rfl rfl 6 (by decide) (hts (.fieldLink RX7 27 "ScanCodesModel" "written" "I") (by decide +kernel)) (fun _ h9 => h9) rfl dX7_field_213 ?_
                          refine lv_iload hx hb dX7_field_216 (lv_at hl 6 rfl) ?_
                          refine zc_iast hx hb hK hP hD hS 4 0 rfl rfl wc rfl (by first | assumption | omega) (by decide) dX7_field_218 (fun H locs hP hD hS => ?_)
                          have hP : va_P (dC, dI) vwCl [(h, .inr (8, [.int 0, .int (nI fm), .ref bL, .ref bF, .ref bS, .ref bN, .int (nI wc), .ref bwp, .ref bwg, .ref bwv, .int (nI mn), .ref bmo, .int (nI rn), .ref brd, .int (nI tn), .ref bty, .int mm, .int (nI sgn), .ref bsg, .int (nI fc), .ref bpf, .ref bpg, .ref bpv, .int u, .int (nI lb), .ref blF, .ref blP, .ref blD, .ref blN, .ref bwn, .int lat, .ref bla])), (bL, .inl (cI, 100, .inl L)), (bF, .inl (cZ, 100, .inl F)), (bwp, .inl (cI, 6, .inl (upd wp wc x))), (bwg, .inl (cI, 6, .inl (upd wg wc d))), (bwv, .inl (cJ, 6, .inr (.inl wv)))] H := hP
                          have hD : va_D A [(h, .inr (8, [.int 0, .int (nI fm), .ref bL, .ref bF, .ref bS, .ref bN, .int (nI wc), .ref bwp, .ref bwg, .ref bwv, .int (nI mn), .ref bmo, .int (nI rn), .ref brd, .int (nI tn), .ref bty, .int mm, .int (nI sgn), .ref bsg, .int (nI fc), .ref bpf, .ref bpg, .ref bpv, .int u, .int (nI lb), .ref blF, .ref blP, .ref blD, .ref blN, .ref bwn, .int lat, .ref bla])), (bL, .inl (cI, 100, .inl L)), (bF, .inl (cZ, 100, .inl F)), (bwp, .inl (cI, 6, .inl (upd wp wc x))), (bwg, .inl (cI, 6, .inl (upd wg wc d))), (bwv, .inl (cJ, 6, .inr (.inl wv)))] := hD
                          refine lv_aload_n hx hb dX7_field_219 rfl (lv_at hl 3 rfl) ?_
                          refine va_get (D := (dC, dI)) (ci := 8) (v := .ref bwv) (C := RX7) (T := TX7) (N := 32) hx hb hts hinX7 hown hK hP 0 rfl rfl 9 (by decide) (hts (.fieldLink RX7 36 "ScanCodesModel" "writtenNumber" "[J") (by decide +kernel)) (fun _ h9 => h9) rfl dX7_field_220 ?_
                          refine lv_aload_n hx hb dX7_field_223 rfl (lv_at hl 3 rfl) ?_
                          refine va_get (D := (dC, dI)) (ci := 8) (v := .int (nI wc)) (C := RX7) (T := TX7) (N := 32) hx hb hts hinX7 hown hK hP 0 rfl rfl 6 (by decide) (hts (.fieldLink RX7 27 "ScanCodesModel" "written" "I") (by decide +kernel)) (fun _ h9 => h9) rfl dX7_field_224 ?_
                          refine lv_lload_n hx hb dX7_field_227 rfl (lv_at hl 5 rfl) ?_
                          refine zc_last hx hb hK hP hD hS 5 2 rfl rfl wc rfl (by first | assumption | omega) (by decide) dX7_field_228 (fun H locs hP hD hS => ?_)
                          have hP : va_P (dC, dI) vwCl [(h, .inr (8, [.int 0, .int (nI fm), .ref bL, .ref bF, .ref bS, .ref bN, .int (nI wc), .ref bwp, .ref bwg, .ref bwv, .int (nI mn), .ref bmo, .int (nI rn), .ref brd, .int (nI tn), .ref bty, .int mm, .int (nI sgn), .ref bsg, .int (nI fc), .ref bpf, .ref bpg, .ref bpv, .int u, .int (nI lb), .ref blF, .ref blP, .ref blD, .ref blN, .ref bwn, .int lat, .ref bla])), (bL, .inl (cI, 100, .inl L)), (bF, .inl (cZ, 100, .inl F)), (bwp, .inl (cI, 6, .inl (upd wp wc x))), (bwg, .inl (cI, 6, .inl (upd wg wc d))), (bwv, .inl (cJ, 6, .inr (.inl (vp_updL wv wc v))))] H := hP
                          have hD : va_D A [(h, .inr (8, [.int 0, .int (nI fm), .ref bL, .ref bF, .ref bS, .ref bN, .int (nI wc), .ref bwp, .ref bwg, .ref bwv, .int (nI mn), .ref bmo, .int (nI rn), .ref brd, .int (nI tn), .ref bty, .int mm, .int (nI sgn), .ref bsg, .int (nI fc), .ref bpf, .ref bpg, .ref bpv, .int u, .int (nI lb), .ref blF, .ref blP, .ref blD, .ref blN, .ref bwn, .int lat, .ref bla])), (bL, .inl (cI, 100, .inl L)), (bF, .inl (cZ, 100, .inl F)), (bwp, .inl (cI, 6, .inl (upd wp wc x))), (bwg, .inl (cI, 6, .inl (upd wg wc d))), (bwv, .inl (cJ, 6, .inr (.inl (vp_updL wv wc v))))] := hD
                          refine lv_aload_n hx hb dX7_field_229 rfl (lv_at hl 3 rfl) ?_
                          refine lv_dup hx hb dX7_field_230 rfl ?_
                          refine va_get (D := (dC, dI)) (ci := 8) (v := .int (nI wc)) (C := RX7) (T := TX7) (N := 32) hx hb hts hinX7 hown hK hP 0 rfl rfl 6 (by decide) (hts (.fieldLink RX7 27 "ScanCodesModel" "written" "I") (by decide +kernel)) (fun _ h9 => h9) rfl dX7_field_231 ?_
                          refine lv_iconst (v := 1) hx hb dX7_field_234 (by decide) ?_
                          refine lv_iadd hx hb dX7_field_235 ?_
                          refine zc_ti (y := nI (wc + 1)) (nI_1 wc) ?_
                          refine va_put (D := (dC, dI)) (ci := 8) (v := .int (nI (wc + 1))) (ty := .int) (C := RX7) (T := TX7) (N := 32) hx hb hts hinX7 tyX7 tyX7_ok nmX7 hown hK hP hD hS 0 rfl rfl 6 (by decide) (hts (.fieldLink RX7 27 "ScanCodesModel" "written" "I") (by decide +kernel)) (fun _ h9 => h9) rfl (by decide +kernel) rfl rfl (Nat.le_of_ble_eq_true rfl) dX7_field_236 (fun H locs hP hD hS => ?_)
                          have hP : va_P (dC, dI) vwCl [(h, .inr (8, [.int 0, .int (nI fm), .ref bL, .ref bF, .ref bS, .ref bN, .int (nI (wc + 1)), .ref bwp, .ref bwg, .ref bwv, .int (nI mn), .ref bmo, .int (nI rn), .ref brd, .int (nI tn), .ref bty, .int mm, .int (nI sgn), .ref bsg, .int (nI fc), .ref bpf, .ref bpg, .ref bpv, .int u, .int (nI lb), .ref blF, .ref blP, .ref blD, .ref blN, .ref bwn, .int lat, .ref bla])), (bL, .inl (cI, 100, .inl L)), (bF, .inl (cZ, 100, .inl F)), (bwp, .inl (cI, 6, .inl (upd wp wc x))), (bwg, .inl (cI, 6, .inl (upd wg wc d))), (bwv, .inl (cJ, 6, .inr (.inl (vp_updL wv wc v))))] H := hP
                          have hD : va_D A [(h, .inr (8, [.int 0, .int (nI fm), .ref bL, .ref bF, .ref bS, .ref bN, .int (nI (wc + 1)), .ref bwp, .ref bwg, .ref bwv, .int (nI mn), .ref bmo, .int (nI rn), .ref brd, .int (nI tn), .ref bty, .int mm, .int (nI sgn), .ref bsg, .int (nI fc), .ref bpf, .ref bpg, .ref bpv, .int u, .int (nI lb), .ref blF, .ref blP, .ref blD, .ref blN, .ref bwn, .int lat, .ref bla])), (bL, .inl (cI, 100, .inl L)), (bF, .inl (cZ, 100, .inl F)), (bwp, .inl (cI, 6, .inl (upd wp wc x))), (bwg, .inl (cI, 6, .inl (upd wg wc d))), (bwv, .inl (cJ, 6, .inr (.inl (vp_updL wv wc v))))] := hD
                          refine lv_aload_n hx hb dX7_field_239 rfl (lv_at hl 3 rfl) ?_
                          refine va_get (D := (dC, dI)) (ci := 8) (v := .int (nI (wc + 1))) (C := RX7) (T := TX7) (N := 32) hx hb hts hinX7 hown hK hP 0 rfl rfl 6 (by decide) (hts (.fieldLink RX7 27 "ScanCodesModel" "written" "I") (by decide +kernel)) (fun _ h9 => h9) rfl dX7_field_240 ?_
                          have hex : ze_field L F wp wc x v d = 0 := by rw [ze_field, zi_t hh, zi_t ⟨c16, c23, zl_ge.mp c29, hdl.mpr (fun q => c138 (zl_ge.mpr q))⟩, zi_t (P := zp_lets L F x.toNatClampNeg d) (Or.inl ⟨c158, c169⟩), zi_t ⟨fun q => zb_0 c178 (Or.inr q), Nat.lt_of_le_of_ne hw6 (fun q => zb_0 c178 (Or.inl q))⟩]
                          have hP9 : va_P (dC, dI) vwCl [(h, .inr (8, [.int (nI (ze_field L F wp wc x v d)), .int (nI fm), .ref bL, .ref bF, .ref bS, .ref bN, .int (nI (zi (ze_field L F wp wc x v d = 0) (wc + 1) (wc))), .ref bwp, .ref bwg, .ref bwv, .int (nI mn), .ref bmo, .int (nI rn), .ref brd, .int (nI tn), .ref bty, .int mm, .int (nI sgn), .ref bsg, .int (nI fc), .ref bpf, .ref bpg, .ref bpv, .int u, .int (nI lb), .ref blF, .ref blP, .ref blD, .ref blN, .ref bwn, .int lat, .ref bla])), (bL, .inl (cI, 100, .inl L)), (bF, .inl (cZ, 100, .inl F)), (bwp, .inl (cI, 6, .inl (zi (ze_field L F wp wc x v d = 0) (upd wp wc x) (wp)))), (bwg, .inl (cI, 6, .inl (zi (ze_field L F wp wc x v d = 0) (upd wg wc d) (wg)))), (bwv, .inl (cJ, 6, .inr (.inl (zi (ze_field L F wp wc x v d = 0) (vp_updL wv wc v) (wv)))))] H := by simp only [hex, zi0, zi1, zi2, zi3, zi_t (P := True) trivial, zi_f (P := False) id]; exact hP
                          have hD9 : va_D A [(h, .inr (8, [.int (nI (ze_field L F wp wc x v d)), .int (nI fm), .ref bL, .ref bF, .ref bS, .ref bN, .int (nI (zi (ze_field L F wp wc x v d = 0) (wc + 1) (wc))), .ref bwp, .ref bwg, .ref bwv, .int (nI mn), .ref bmo, .int (nI rn), .ref brd, .int (nI tn), .ref bty, .int mm, .int (nI sgn), .ref bsg, .int (nI fc), .ref bpf, .ref bpg, .ref bpv, .int u, .int (nI lb), .ref blF, .ref blP, .ref blD, .ref blN, .ref bwn, .int lat, .ref bla])), (bL, .inl (cI, 100, .inl L)), (bF, .inl (cZ, 100, .inl F)), (bwp, .inl (cI, 6, .inl (zi (ze_field L F wp wc x v d = 0) (upd wp wc x) (wp)))), (bwg, .inl (cI, 6, .inl (zi (ze_field L F wp wc x v d = 0) (upd wg wc d) (wg)))), (bwv, .inl (cJ, 6, .inr (.inl (zi (ze_field L F wp wc x v d = 0) (vp_updL wv wc v) (wv)))))] := by simp only [hex, zi0, zi1, zi2, zi3, zi_t (P := True) trivial, zi_f (P := False) id]; exact hD
                          have hres : (nI (wc + 1)) = zi (ze_field L F wp wc x v d = 0) (nI (wc + 1)) 0 := by simp only [hex, zi0, zi1, zi2, zi3, zi_t (P := True) trivial, zi_f (P := False) id]
                          exact W.iret (v := nI (wc + 1)) hx hb hr (fun t ht hW => ⟨⟨_, (), rfl, hres, by rw [ht]; exact hP9, va_K.moved hW.alike hK, hD9⟩, hS.F ht⟩) hS.2.2 dX7_field_243
                        · refine lv_iconst (v := 3) hx hb dX7_field_181 (by decide) ?_
                          refine lv_goto (tgt := 186) hx hb dX7_field_182 (by decide) ?_
                          refine va_put (D := (dC, dI)) (ci := 8) (v := .int 3) (ty := .int) (C := RX7) (T := TX7) (N := 32) hx hb hts hinX7 tyX7 tyX7_ok nmX7 hown hK hP hD hS 0 rfl rfl 0 (by decide) (hts (.fieldLink RX7 7 "ScanCodesModel" "thrownCode" "I") (by decide +kernel)) (fun _ h9 => h9) rfl (by decide +kernel) rfl rfl (Nat.le_of_ble_eq_true rfl) dX7_field_186 (fun H locs hP hD hS => ?_)
                          have hP : va_P (dC, dI) vwCl [(h, .inr (8, [.int 3, .int (nI fm), .ref bL, .ref bF, .ref bS, .ref bN, .int (nI wc), .ref bwp, .ref bwg, .ref bwv, .int (nI mn), .ref bmo, .int (nI rn), .ref brd, .int (nI tn), .ref bty, .int mm, .int (nI sgn), .ref bsg, .int (nI fc), .ref bpf, .ref bpg, .ref bpv, .int u, .int (nI lb), .ref blF, .ref blP, .ref blD, .ref blN, .ref bwn, .int lat, .ref bla])), (bL, .inl (cI, 100, .inl L)), (bF, .inl (cZ, 100, .inl F)), (bwp, .inl (cI, 6, .inl wp)), (bwg, .inl (cI, 6, .inl wg)), (bwv, .inl (cJ, 6, .inr (.inl wv)))] H := hP
                          have hD : va_D A [(h, .inr (8, [.int 3, .int (nI fm), .ref bL, .ref bF, .ref bS, .ref bN, .int (nI wc), .ref bwp, .ref bwg, .ref bwv, .int (nI mn), .ref bmo, .int (nI rn), .ref brd, .int (nI tn), .ref bty, .int mm, .int (nI sgn), .ref bsg, .int (nI fc), .ref bpf, .ref bpg, .ref bpv, .int u, .int (nI lb), .ref blF, .ref blP, .ref blD, .ref blN, .ref bwn, .int lat, .ref bla])), (bL, .inl (cI, 100, .inl L)), (bF, .inl (cZ, 100, .inl F)), (bwp, .inl (cI, 6, .inl wp)), (bwg, .inl (cI, 6, .inl wg)), (bwv, .inl (cJ, 6, .inr (.inl wv)))] := hD
                          refine lv_aload_n hx hb dX7_field_189 rfl (lv_at hl 3 rfl) ?_
                          refine va_get (D := (dC, dI)) (ci := 8) (v := .int 3) (C := RX7) (T := TX7) (N := 32) hx hb hts hinX7 hown hK hP 0 rfl rfl 0 (by decide) (hts (.fieldLink RX7 7 "ScanCodesModel" "thrownCode" "I") (by decide +kernel)) (fun _ h9 => h9) rfl dX7_field_190 ?_
                          refine lv_if_eq (tgt := 198) hx hb dX7_field_193 (by decide) (fun c193 => absurd c193 (by decide)) (fun c193 => ?_)
                          refine lv_iconst (v := 0) hx hb dX7_field_196 (by decide) ?_
                          have hex : ze_field L F wp wc x v d = 3 := by rw [ze_field, zi_t hh, zi_t ⟨c16, c23, zl_ge.mp c29, hdl.mpr (fun q => c138 (zl_ge.mpr q))⟩, zi_t (P := zp_lets L F x.toNatClampNeg d) (Or.inl ⟨c158, c169⟩), zi_f (fun q => (zb_1 c178).elim (fun z => by have := q.2; omega) q.1)]
                          have hP9 : va_P (dC, dI) vwCl [(h, .inr (8, [.int (nI (ze_field L F wp wc x v d)), .int (nI fm), .ref bL, .ref bF, .ref bS, .ref bN, .int (nI (zi (ze_field L F wp wc x v d = 0) (wc + 1) (wc))), .ref bwp, .ref bwg, .ref bwv, .int (nI mn), .ref bmo, .int (nI rn), .ref brd, .int (nI tn), .ref bty, .int mm, .int (nI sgn), .ref bsg, .int (nI fc), .ref bpf, .ref bpg, .ref bpv, .int u, .int (nI lb), .ref blF, .ref blP, .ref blD, .ref blN, .ref bwn, .int lat, .ref bla])), (bL, .inl (cI, 100, .inl L)), (bF, .inl (cZ, 100, .inl F)), (bwp, .inl (cI, 6, .inl (zi (ze_field L F wp wc x v d = 0) (upd wp wc x) (wp)))), (bwg, .inl (cI, 6, .inl (zi (ze_field L F wp wc x v d = 0) (upd wg wc d) (wg)))), (bwv, .inl (cJ, 6, .inr (.inl (zi (ze_field L F wp wc x v d = 0) (vp_updL wv wc v) (wv)))))] H := by simp only [hex, zi0, zi1, zi2, zi3, zi_t (P := True) trivial, zi_f (P := False) id]; exact hP
                          have hD9 : va_D A [(h, .inr (8, [.int (nI (ze_field L F wp wc x v d)), .int (nI fm), .ref bL, .ref bF, .ref bS, .ref bN, .int (nI (zi (ze_field L F wp wc x v d = 0) (wc + 1) (wc))), .ref bwp, .ref bwg, .ref bwv, .int (nI mn), .ref bmo, .int (nI rn), .ref brd, .int (nI tn), .ref bty, .int mm, .int (nI sgn), .ref bsg, .int (nI fc), .ref bpf, .ref bpg, .ref bpv, .int u, .int (nI lb), .ref blF, .ref blP, .ref blD, .ref blN, .ref bwn, .int lat, .ref bla])), (bL, .inl (cI, 100, .inl L)), (bF, .inl (cZ, 100, .inl F)), (bwp, .inl (cI, 6, .inl (zi (ze_field L F wp wc x v d = 0) (upd wp wc x) (wp)))), (bwg, .inl (cI, 6, .inl (zi (ze_field L F wp wc x v d = 0) (upd wg wc d) (wg)))), (bwv, .inl (cJ, 6, .inr (.inl (zi (ze_field L F wp wc x v d = 0) (vp_updL wv wc v) (wv)))))] := by simp only [hex, zi0, zi1, zi2, zi3, zi_t (P := True) trivial, zi_f (P := False) id]; exact hD
                          have hres : (0 : Int32) = zi (ze_field L F wp wc x v d = 0) (nI (wc + 1)) 0 := by simp only [hex, zi0, zi1, zi2, zi3, zi_t (P := True) trivial, zi_f (P := False) id]
                          exact W.iret (v := 0) hx hb hr (fun t ht hW => ⟨⟨_, (), rfl, hres, by rw [ht]; exact hP9, va_K.moved hW.alike hK, hD9⟩, hS.F ht⟩) hS.2.2 dX7_field_197
                      · refine lv_iconst (v := 2) hx hb dX7_field_172 (by decide) ?_
                        refine lv_goto (tgt := 186) hx hb dX7_field_173 (by decide) ?_
                        refine va_put (D := (dC, dI)) (ci := 8) (v := .int 2) (ty := .int) (C := RX7) (T := TX7) (N := 32) hx hb hts hinX7 tyX7 tyX7_ok nmX7 hown hK hP hD hS 0 rfl rfl 0 (by decide) (hts (.fieldLink RX7 7 "ScanCodesModel" "thrownCode" "I") (by decide +kernel)) (fun _ h9 => h9) rfl (by decide +kernel) rfl rfl (Nat.le_of_ble_eq_true rfl) dX7_field_186 (fun H locs hP hD hS => ?_)
                        have hP : va_P (dC, dI) vwCl [(h, .inr (8, [.int 2, .int (nI fm), .ref bL, .ref bF, .ref bS, .ref bN, .int (nI wc), .ref bwp, .ref bwg, .ref bwv, .int (nI mn), .ref bmo, .int (nI rn), .ref brd, .int (nI tn), .ref bty, .int mm, .int (nI sgn), .ref bsg, .int (nI fc), .ref bpf, .ref bpg, .ref bpv, .int u, .int (nI lb), .ref blF, .ref blP, .ref blD, .ref blN, .ref bwn, .int lat, .ref bla])), (bL, .inl (cI, 100, .inl L)), (bF, .inl (cZ, 100, .inl F)), (bwp, .inl (cI, 6, .inl wp)), (bwg, .inl (cI, 6, .inl wg)), (bwv, .inl (cJ, 6, .inr (.inl wv)))] H := hP
                        have hD : va_D A [(h, .inr (8, [.int 2, .int (nI fm), .ref bL, .ref bF, .ref bS, .ref bN, .int (nI wc), .ref bwp, .ref bwg, .ref bwv, .int (nI mn), .ref bmo, .int (nI rn), .ref brd, .int (nI tn), .ref bty, .int mm, .int (nI sgn), .ref bsg, .int (nI fc), .ref bpf, .ref bpg, .ref bpv, .int u, .int (nI lb), .ref blF, .ref blP, .ref blD, .ref blN, .ref bwn, .int lat, .ref bla])), (bL, .inl (cI, 100, .inl L)), (bF, .inl (cZ, 100, .inl F)), (bwp, .inl (cI, 6, .inl wp)), (bwg, .inl (cI, 6, .inl wg)), (bwv, .inl (cJ, 6, .inr (.inl wv)))] := hD
                        refine lv_aload_n hx hb dX7_field_189 rfl (lv_at hl 3 rfl) ?_
                        refine va_get (D := (dC, dI)) (ci := 8) (v := .int 2) (C := RX7) (T := TX7) (N := 32) hx hb hts hinX7 hown hK hP 0 rfl rfl 0 (by decide) (hts (.fieldLink RX7 7 "ScanCodesModel" "thrownCode" "I") (by decide +kernel)) (fun _ h9 => h9) rfl dX7_field_190 ?_
                        refine lv_if_eq (tgt := 198) hx hb dX7_field_193 (by decide) (fun c193 => absurd c193 (by decide)) (fun c193 => ?_)
                        refine lv_iconst (v := 0) hx hb dX7_field_196 (by decide) ?_
                        have hex : ze_field L F wp wc x v d = 2 := by rw [ze_field, zi_t hh, zi_t ⟨c16, c23, zl_ge.mp c29, hdl.mpr (fun q => c138 (zl_ge.mpr q))⟩, zi_f (fun q => q.elim (fun z => c169 z.2) (fun z => c158 z.1))]
                        have hP9 : va_P (dC, dI) vwCl [(h, .inr (8, [.int (nI (ze_field L F wp wc x v d)), .int (nI fm), .ref bL, .ref bF, .ref bS, .ref bN, .int (nI (zi (ze_field L F wp wc x v d = 0) (wc + 1) (wc))), .ref bwp, .ref bwg, .ref bwv, .int (nI mn), .ref bmo, .int (nI rn), .ref brd, .int (nI tn), .ref bty, .int mm, .int (nI sgn), .ref bsg, .int (nI fc), .ref bpf, .ref bpg, .ref bpv, .int u, .int (nI lb), .ref blF, .ref blP, .ref blD, .ref blN, .ref bwn, .int lat, .ref bla])), (bL, .inl (cI, 100, .inl L)), (bF, .inl (cZ, 100, .inl F)), (bwp, .inl (cI, 6, .inl (zi (ze_field L F wp wc x v d = 0) (upd wp wc x) (wp)))), (bwg, .inl (cI, 6, .inl (zi (ze_field L F wp wc x v d = 0) (upd wg wc d) (wg)))), (bwv, .inl (cJ, 6, .inr (.inl (zi (ze_field L F wp wc x v d = 0) (vp_updL wv wc v) (wv)))))] H := by simp only [hex, zi0, zi1, zi2, zi3, zi_t (P := True) trivial, zi_f (P := False) id]; exact hP
                        have hD9 : va_D A [(h, .inr (8, [.int (nI (ze_field L F wp wc x v d)), .int (nI fm), .ref bL, .ref bF, .ref bS, .ref bN, .int (nI (zi (ze_field L F wp wc x v d = 0) (wc + 1) (wc))), .ref bwp, .ref bwg, .ref bwv, .int (nI mn), .ref bmo, .int (nI rn), .ref brd, .int (nI tn), .ref bty, .int mm, .int (nI sgn), .ref bsg, .int (nI fc), .ref bpf, .ref bpg, .ref bpv, .int u, .int (nI lb), .ref blF, .ref blP, .ref blD, .ref blN, .ref bwn, .int lat, .ref bla])), (bL, .inl (cI, 100, .inl L)), (bF, .inl (cZ, 100, .inl F)), (bwp, .inl (cI, 6, .inl (zi (ze_field L F wp wc x v d = 0) (upd wp wc x) (wp)))), (bwg, .inl (cI, 6, .inl (zi (ze_field L F wp wc x v d = 0) (upd wg wc d) (wg)))), (bwv, .inl (cJ, 6, .inr (.inl (zi (ze_field L F wp wc x v d = 0) (vp_updL wv wc v) (wv)))))] := by simp only [hex, zi0, zi1, zi2, zi3, zi_t (P := True) trivial, zi_f (P := False) id]; exact hD
                        have hres : (0 : Int32) = zi (ze_field L F wp wc x v d = 0) (nI (wc + 1)) 0 := by simp only [hex, zi0, zi1, zi2, zi3, zi_t (P := True) trivial, zi_f (P := False) id]
                        exact W.iret (v := 0) hx hb hr (fun t ht hW => ⟨⟨_, (), rfl, hres, by rw [ht]; exact hP9, va_K.moved hW.alike hK, hD9⟩, hS.F ht⟩) hS.2.2 dX7_field_197
              · have hlt2 := zn_nle c101 (by omega) (by omega)
                refine zc_cut (g' := F0 m 125 ls [.int (zb (wc = 6 ∨ zf_has wp (j + 1) x))]) ?_ (fun J125 => ?_)
                · refine lv_istore (lv' := [(7, .int (zb (wc = 6 ∨ zf_has wp (j + 1) x))), (8, .int (nI j)), (5, .long (zten dn)), (0, .ref h), (1, .int x), (2, .long v), (4, .int d)]) hx hb dX7_field_125 hl (by decide) rfl (fun ls hl => ?_)
                  refine lv_iinc (v := nI (j + 1)) (lv' := [(8, .int (nI (j + 1))), (7, .int (zb (wc = 6 ∨ zf_has wp (j + 1) x))), (5, .long (zten dn)), (0, .ref h), (1, .int x), (2, .long v), (4, .int d)]) hx hb dX7_field_127 hl (k := 1) rfl (nI_1 j) (by decide) rfl (fun ls hl => ?_)
                  refine lv_goto (tgt := 95) hx hb dX7_field_130 (by decide) ?_
                  exact ih95 (j + 1) _ (by omega) ⟨lv_sub hl [0, 1, 2, 3, 4, 5, 6] rfl, hlt2⟩
                · refine lv_iload hx hb dX7_field_104 (lv_at hl 1 rfl) ?_
                  refine lv_if_ne (tgt := 120) hx hb dX7_field_106 (by decide) (fun c106 => ?_) (fun c106 => ?_)
                  · refine lv_iconst (v := 1) hx hb dX7_field_120 (by decide) ?_
                    refine lv_goto (tgt := 125) hx hb dX7_field_121 (by decide) ?_
                    refine zc_ti (y := zb (wc = 6 ∨ zf_has wp (j + 1) x)) ((zb_t ((zb_1 c106).elim Or.inl (fun z => Or.inr (zf_hasS.mpr (Or.inl z))))).symm) ?_
                    exact J125
                  · refine lv_aload_n hx hb dX7_field_109 rfl (lv_at hl 3 rfl) ?_
                    refine va_get (D := (dC, dI)) (ci := 8) (v := .ref bwp) (C := RX7) (T := TX7) (N := 32) hx hb hts hinX7 hown hK hP 0 rfl rfl 7 (by decide) (hts (.fieldLink RX7 30 "ScanCodesModel" "writtenPrefix" "[I") (by decide +kernel)) (fun _ h9 => h9) rfl dX7_field_110 ?_
                    refine lv_iload hx hb dX7_field_113 (lv_at hl 0 rfl) ?_
                    refine zc_iald hx hb hK hP 3 0 rfl rfl j rfl (by first | assumption | omega) (by decide) dX7_field_115 ?_
                    refine lv_iload_n hx hb dX7_field_116 rfl (lv_at hl 4 rfl) ?_
                    refine lv_icmp_ne (tgt := 124) hx hb dX7_field_117 (by decide) (fun c117 => ?_) (fun c117 => ?_)
                    · refine lv_iconst (v := 0) hx hb dX7_field_124 (by decide) ?_
                      refine zc_ti (y := zb (wc = 6 ∨ zf_has wp (j + 1) x)) ((zb_f (fun q => q.elim (fun z => zb_0 c106 (Or.inl z)) (fun z => (zf_hasS.mp z).elim (fun y => zb_0 c106 (Or.inr y)) c117))).symm) ?_
                      exact J125
                    · refine lv_iconst (v := 1) hx hb dX7_field_120 (by decide) ?_
                      refine lv_goto (tgt := 125) hx hb dX7_field_121 (by decide) ?_
                      refine zc_ti (y := zb (wc = 6 ∨ zf_has wp (j + 1) x)) ((zb_t (Or.inr (zf_hasS.mpr (Or.inr c117)))).symm) ?_
                      exact J125
            · refine lv_aload_n hx hb dX7_field_76 rfl (lv_at hl 2 rfl) ?_
              refine va_get (D := (dC, dI)) (ci := 8) (v := .int (nI wc)) (C := RX7) (T := TX7) (N := 32) hx hb hts hinX7 hown hK hP 0 rfl rfl 6 (by decide) (hts (.fieldLink RX7 27 "ScanCodesModel" "written" "I") (by decide +kernel)) (fun _ h9 => h9) rfl dX7_field_77 ?_
              refine lv_bipush (v := 6) hx hb dX7_field_80 (by decide) ?_
              refine lv_icmp_ne (tgt := 89) hx hb dX7_field_82 (by decide) (fun c82 => ?_) (fun c82 => ?_)
              · refine lv_iconst (v := 0) hx hb dX7_field_89 (by decide) ?_
                refine zc_ti (y := zb (wc = 6 ∨ zf_has wp 0 x)) (by first | exact (zb_f (fun q => q.elim (zn_ne (b := 6) c82 (by omega) (by decide)) zf_has0)).symm) ?_
                exact J90
              · refine lv_iconst (v := 1) hx hb dX7_field_85 (by decide) ?_
                refine lv_goto (tgt := 90) hx hb dX7_field_86 (by decide) ?_
                refine zc_ti (y := zb (wc = 6 ∨ zf_has wp 0 x)) ((zb_t (Or.inl (zn_eq (b := 6) c82 (by omega) (by decide)))).symm) ?_
                exact J90
          · have hlt := zn_nle c59 (by omega) (by omega)
            refine lv_ldc2 (v := 10) hx hb hown (hts (.constantLong RX7 132 10) (by decide +kernel)) dX7_field_62 ?_
            refine lv_lload hx hb dX7_field_65 (lv_at hl 1 rfl) ?_
            refine lv_lmul hx hb dX7_field_67 ?_
            refine zc_tl (y := zten (k + 1)) rfl ?_
            refine lv_lstore (lv' := [(5, .long (zten (k + 1))), (7, .int (nI k)), (0, .ref h), (1, .int x), (2, .long v), (4, .int d)]) hx hb dX7_field_68 hl (by decide) rfl (fun ls hl => ?_)
            refine lv_iinc (v := nI (k + 1)) (lv' := [(7, .int (nI (k + 1))), (5, .long (zten (k + 1))), (0, .ref h), (1, .int x), (2, .long v), (4, .int d)]) hx hb dX7_field_70 hl (k := 1) rfl (nI_1 k) (by decide) rfl (fun ls hl => ?_)
            refine lv_goto (tgt := 55) hx hb dX7_field_73 (by decide) ?_
            exact ih55 (k + 1) _ (by omega) ⟨lv_sub hl [0, 1, 2, 3, 4, 5] rfl, hlt⟩
        · refine lv_iconst (v := 2) hx hb dX7_field_32 (by decide) ?_
          refine lv_goto (tgt := 37) hx hb dX7_field_33 (by decide) ?_
          refine va_put (D := (dC, dI)) (ci := 8) (v := .int 2) (ty := .int) (C := RX7) (T := TX7) (N := 32) hx hb hts hinX7 tyX7 tyX7_ok nmX7 hown hK hP hD hS 0 rfl rfl 0 (by decide) (hts (.fieldLink RX7 7 "ScanCodesModel" "thrownCode" "I") (by decide +kernel)) (fun _ h9 => h9) rfl (by decide +kernel) rfl rfl (Nat.le_of_ble_eq_true rfl) dX7_field_37 (fun H locs hP hD hS => ?_)
          have hP : va_P (dC, dI) vwCl [(h, .inr (8, [.int 2, .int (nI fm), .ref bL, .ref bF, .ref bS, .ref bN, .int (nI wc), .ref bwp, .ref bwg, .ref bwv, .int (nI mn), .ref bmo, .int (nI rn), .ref brd, .int (nI tn), .ref bty, .int mm, .int (nI sgn), .ref bsg, .int (nI fc), .ref bpf, .ref bpg, .ref bpv, .int u, .int (nI lb), .ref blF, .ref blP, .ref blD, .ref blN, .ref bwn, .int lat, .ref bla])), (bL, .inl (cI, 100, .inl L)), (bF, .inl (cZ, 100, .inl F)), (bwp, .inl (cI, 6, .inl wp)), (bwg, .inl (cI, 6, .inl wg)), (bwv, .inl (cJ, 6, .inr (.inl wv)))] H := hP
          have hD : va_D A [(h, .inr (8, [.int 2, .int (nI fm), .ref bL, .ref bF, .ref bS, .ref bN, .int (nI wc), .ref bwp, .ref bwg, .ref bwv, .int (nI mn), .ref bmo, .int (nI rn), .ref brd, .int (nI tn), .ref bty, .int mm, .int (nI sgn), .ref bsg, .int (nI fc), .ref bpf, .ref bpg, .ref bpv, .int u, .int (nI lb), .ref blF, .ref blP, .ref blD, .ref blN, .ref bwn, .int lat, .ref bla])), (bL, .inl (cI, 100, .inl L)), (bF, .inl (cZ, 100, .inl F)), (bwp, .inl (cI, 6, .inl wp)), (bwg, .inl (cI, 6, .inl wg)), (bwv, .inl (cJ, 6, .inr (.inl wv)))] := hD
          refine lv_aload_n hx hb dX7_field_40 rfl (lv_at hl 0 rfl) ?_
          refine va_get (D := (dC, dI)) (ci := 8) (v := .int 2) (C := RX7) (T := TX7) (N := 32) hx hb hts hinX7 hown hK hP 0 rfl rfl 0 (by decide) (hts (.fieldLink RX7 7 "ScanCodesModel" "thrownCode" "I") (by decide +kernel)) (fun _ h9 => h9) rfl dX7_field_41 ?_
          refine lv_if_eq (tgt := 49) hx hb dX7_field_44 (by decide) (fun c44 => absurd c44 (by decide)) (fun c44 => ?_)
          refine lv_iconst (v := 0) hx hb dX7_field_47 (by decide) ?_
          have hex : ze_field L F wp wc x v d = 2 := by rw [ze_field, zi_t hh, zi_f (fun q => c29 (zl_ge.mpr q.2.2.1))]
          have hP9 : va_P (dC, dI) vwCl [(h, .inr (8, [.int (nI (ze_field L F wp wc x v d)), .int (nI fm), .ref bL, .ref bF, .ref bS, .ref bN, .int (nI (zi (ze_field L F wp wc x v d = 0) (wc + 1) (wc))), .ref bwp, .ref bwg, .ref bwv, .int (nI mn), .ref bmo, .int (nI rn), .ref brd, .int (nI tn), .ref bty, .int mm, .int (nI sgn), .ref bsg, .int (nI fc), .ref bpf, .ref bpg, .ref bpv, .int u, .int (nI lb), .ref blF, .ref blP, .ref blD, .ref blN, .ref bwn, .int lat, .ref bla])), (bL, .inl (cI, 100, .inl L)), (bF, .inl (cZ, 100, .inl F)), (bwp, .inl (cI, 6, .inl (zi (ze_field L F wp wc x v d = 0) (upd wp wc x) (wp)))), (bwg, .inl (cI, 6, .inl (zi (ze_field L F wp wc x v d = 0) (upd wg wc d) (wg)))), (bwv, .inl (cJ, 6, .inr (.inl (zi (ze_field L F wp wc x v d = 0) (vp_updL wv wc v) (wv)))))] H := by simp only [hex, zi0, zi1, zi2, zi3, zi_t (P := True) trivial, zi_f (P := False) id]; exact hP
          have hD9 : va_D A [(h, .inr (8, [.int (nI (ze_field L F wp wc x v d)), .int (nI fm), .ref bL, .ref bF, .ref bS, .ref bN, .int (nI (zi (ze_field L F wp wc x v d = 0) (wc + 1) (wc))), .ref bwp, .ref bwg, .ref bwv, .int (nI mn), .ref bmo, .int (nI rn), .ref brd, .int (nI tn), .ref bty, .int mm, .int (nI sgn), .ref bsg, .int (nI fc), .ref bpf, .ref bpg, .ref bpv, .int u, .int (nI lb), .ref blF, .ref blP, .ref blD, .ref blN, .ref bwn, .int lat, .ref bla])), (bL, .inl (cI, 100, .inl L)), (bF, .inl (cZ, 100, .inl F)), (bwp, .inl (cI, 6, .inl (zi (ze_field L F wp wc x v d = 0) (upd wp wc x) (wp)))), (bwg, .inl (cI, 6, .inl (zi (ze_field L F wp wc x v d = 0) (upd wg wc d) (wg)))), (bwv, .inl (cJ, 6, .inr (.inl (zi (ze_field L F wp wc x v d = 0) (vp_updL wv wc v) (wv)))))] := by simp only [hex, zi0, zi1, zi2, zi3, zi_t (P := True) trivial, zi_f (P := False) id]; exact hD
          have hres : (0 : Int32) = zi (ze_field L F wp wc x v d = 0) (nI (wc + 1)) 0 := by simp only [hex, zi0, zi1, zi2, zi3, zi_t (P := True) trivial, zi_f (P := False) id]
          exact W.iret (v := 0) hx hb hr (fun t ht hW => ⟨⟨_, (), rfl, hres, by rw [ht]; exact hP9, va_K.moved hW.alike hK, hD9⟩, hS.F ht⟩) hS.2.2 dX7_field_48
  · have hh := zb_0 c6
    refine lv_iconst (v := 1) hx hb dX7_field_9 (by decide) ?_
    refine lv_goto (tgt := 37) hx hb dX7_field_10 (by decide) ?_
    refine va_put (D := (dC, dI)) (ci := 8) (v := .int 1) (ty := .int) (C := RX7) (T := TX7) (N := 32) hx hb hts hinX7 tyX7 tyX7_ok nmX7 hown hK hP hD hS 0 rfl rfl 0 (by decide) (hts (.fieldLink RX7 7 "ScanCodesModel" "thrownCode" "I") (by decide +kernel)) (fun _ h9 => h9) rfl (by decide +kernel) rfl rfl (Nat.le_of_ble_eq_true rfl) dX7_field_37 (fun H locs hP hD hS => ?_)
    have hP : va_P (dC, dI) vwCl [(h, .inr (8, [.int 1, .int (nI fm), .ref bL, .ref bF, .ref bS, .ref bN, .int (nI wc), .ref bwp, .ref bwg, .ref bwv, .int (nI mn), .ref bmo, .int (nI rn), .ref brd, .int (nI tn), .ref bty, .int mm, .int (nI sgn), .ref bsg, .int (nI fc), .ref bpf, .ref bpg, .ref bpv, .int u, .int (nI lb), .ref blF, .ref blP, .ref blD, .ref blN, .ref bwn, .int lat, .ref bla])), (bL, .inl (cI, 100, .inl L)), (bF, .inl (cZ, 100, .inl F)), (bwp, .inl (cI, 6, .inl wp)), (bwg, .inl (cI, 6, .inl wg)), (bwv, .inl (cJ, 6, .inr (.inl wv)))] H := hP
    have hD : va_D A [(h, .inr (8, [.int 1, .int (nI fm), .ref bL, .ref bF, .ref bS, .ref bN, .int (nI wc), .ref bwp, .ref bwg, .ref bwv, .int (nI mn), .ref bmo, .int (nI rn), .ref brd, .int (nI tn), .ref bty, .int mm, .int (nI sgn), .ref bsg, .int (nI fc), .ref bpf, .ref bpg, .ref bpv, .int u, .int (nI lb), .ref blF, .ref blP, .ref blD, .ref blN, .ref bwn, .int lat, .ref bla])), (bL, .inl (cI, 100, .inl L)), (bF, .inl (cZ, 100, .inl F)), (bwp, .inl (cI, 6, .inl wp)), (bwg, .inl (cI, 6, .inl wg)), (bwv, .inl (cJ, 6, .inr (.inl wv)))] := hD
    refine lv_aload_n hx hb dX7_field_40 rfl (lv_at hl 0 rfl) ?_
    refine va_get (D := (dC, dI)) (ci := 8) (v := .int 1) (C := RX7) (T := TX7) (N := 32) hx hb hts hinX7 hown hK hP 0 rfl rfl 0 (by decide) (hts (.fieldLink RX7 7 "ScanCodesModel" "thrownCode" "I") (by decide +kernel)) (fun _ h9 => h9) rfl dX7_field_41 ?_
    refine lv_if_eq (tgt := 49) hx hb dX7_field_44 (by decide) (fun c44 => absurd c44 (by decide)) (fun c44 => ?_)
    refine lv_iconst (v := 0) hx hb dX7_field_47 (by decide) ?_
    have hex : ze_field L F wp wc x v d = 1 := by rw [ze_field, zi_f hh]
    have hP9 : va_P (dC, dI) vwCl [(h, .inr (8, [.int (nI (ze_field L F wp wc x v d)), .int (nI fm), .ref bL, .ref bF, .ref bS, .ref bN, .int (nI (zi (ze_field L F wp wc x v d = 0) (wc + 1) (wc))), .ref bwp, .ref bwg, .ref bwv, .int (nI mn), .ref bmo, .int (nI rn), .ref brd, .int (nI tn), .ref bty, .int mm, .int (nI sgn), .ref bsg, .int (nI fc), .ref bpf, .ref bpg, .ref bpv, .int u, .int (nI lb), .ref blF, .ref blP, .ref blD, .ref blN, .ref bwn, .int lat, .ref bla])), (bL, .inl (cI, 100, .inl L)), (bF, .inl (cZ, 100, .inl F)), (bwp, .inl (cI, 6, .inl (zi (ze_field L F wp wc x v d = 0) (upd wp wc x) (wp)))), (bwg, .inl (cI, 6, .inl (zi (ze_field L F wp wc x v d = 0) (upd wg wc d) (wg)))), (bwv, .inl (cJ, 6, .inr (.inl (zi (ze_field L F wp wc x v d = 0) (vp_updL wv wc v) (wv)))))] H := by simp only [hex, zi0, zi1, zi2, zi3, zi_t (P := True) trivial, zi_f (P := False) id]; exact hP
    have hD9 : va_D A [(h, .inr (8, [.int (nI (ze_field L F wp wc x v d)), .int (nI fm), .ref bL, .ref bF, .ref bS, .ref bN, .int (nI (zi (ze_field L F wp wc x v d = 0) (wc + 1) (wc))), .ref bwp, .ref bwg, .ref bwv, .int (nI mn), .ref bmo, .int (nI rn), .ref brd, .int (nI tn), .ref bty, .int mm, .int (nI sgn), .ref bsg, .int (nI fc), .ref bpf, .ref bpg, .ref bpv, .int u, .int (nI lb), .ref blF, .ref blP, .ref blD, .ref blN, .ref bwn, .int lat, .ref bla])), (bL, .inl (cI, 100, .inl L)), (bF, .inl (cZ, 100, .inl F)), (bwp, .inl (cI, 6, .inl (zi (ze_field L F wp wc x v d = 0) (upd wp wc x) (wp)))), (bwg, .inl (cI, 6, .inl (zi (ze_field L F wp wc x v d = 0) (upd wg wc d) (wg)))), (bwv, .inl (cJ, 6, .inr (.inl (zi (ze_field L F wp wc x v d = 0) (vp_updL wv wc v) (wv)))))] := by simp only [hex, zi0, zi1, zi2, zi3, zi_t (P := True) trivial, zi_f (P := False) id]; exact hD
    have hres : (0 : Int32) = zi (ze_field L F wp wc x v d = 0) (nI (wc + 1)) 0 := by simp only [hex, zi0, zi1, zi2, zi3, zi_t (P := True) trivial, zi_f (P := False) id]
    exact W.iret (v := 0) hx hb hr (fun t ht hW => ⟨⟨_, (), rfl, hres, by rw [ht]; exact hP9, va_K.moved hW.alike hK, hD9⟩, hS.F ht⟩) hS.2.2 dX7_field_48
