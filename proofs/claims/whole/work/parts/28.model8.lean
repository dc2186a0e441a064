/-! The reference: size and make. -/
/-- the written fields, without the table of the known ones -/
def zwj (wp wg : Nat → Int32) (wc : Nat) : Prop := ∀ j, j < wc → (wp j = nI (wp j).toNatClampNeg ∧ 10 ≤ (wp j).toNatClampNeg ∧ (wp j).toNatClampNeg < 100) ∧ wg j = nI (zdg wg j) ∧ zdg wg j ≤ 12
theorem zwj_of {L wp wg : Nat → Int32} {wc : Nat} (h : zwk L wp wg wc) : zwj wp wg wc := fun j hj => by
  obtain ⟨h1, h2, h3⟩ := h j hj
  have := zp_ix h1.1 h1.2.1
  exact ⟨⟨this.1, this.2.2, this.2.1⟩, h2, h3⟩
theorem zwn_up (F wp wg : Nat → Int32) (wc : Nat) : ∀ k i, i + k = wc → zwn F wp wg wc i ≤ zwn F wp wg wc wc := by
  intro k
  induction k with
  | zero => intro i h; rw [show i = wc by omega]; exact Nat.le_refl _
  | succ k ih =>
    intro i h
    have h1 := ih (i + 1) (by omega)
    rw [zwn] at h1
    omega
theorem zwn_up2 (F wp wg : Nat → Int32) {wc i : Nat} (h : i < wc) : zwn F wp wg wc i + 2 + zdg wg i + zi (zsep F wp wc i) 1 0 ≤ zwn F wp wg wc wc := by
  have := zwn_up F wp wg wc (wc - (i + 1)) (i + 1) (by omega)
  rw [zwn] at this; exact this
theorem zr_d2 : ∀ k, k < 100 → zr_dig (nI k).toInt64 0 = nI k - nI k / 10 * 10 ∧ zr_dig (nI k).toInt64 1 = nI k / 10 := by decide +kernel
theorem zr_an2 (f : Nat → Int32) (n : Nat) {x : Int32} (hx : x = nI x.toNatClampNeg) (h1 : x.toNatClampNeg < 100) : upd (upd f n (x / 10)) (n + 1) (x - x / 10 * 10) = zr_an f n 2 x.toInt64 := by
  have h2 := zr_d2 _ h1
  rw [← hx] at h2
  funext j
  unfold upd zr_an
  by_cases q1 : j = n + 1
  · rw [if_pos q1, if_pos (by omega), show n + 2 - 1 - j = 0 by omega, h2.1]
  · rw [if_neg q1]
    by_cases q2 : j = n
    · rw [if_pos q2, if_pos (by omega), show n + 2 - 1 - j = 1 by omega, h2.2]
    · rw [if_neg q2, if_neg (by omega)]
/-- a number's digits, the last k written -/
def zr_anM (f : Nat → Int32) (n d : Nat) (v : Int64) (k : Nat) : Nat → Int32 := fun j => if n + d - k ≤ j ∧ j < n + d then zr_dig v (n + d - 1 - j) else f j
theorem zr_anM_0 (f : Nat → Int32) (n d : Nat) (v : Int64) : zr_anM f n d v 0 = f := by funext j; unfold zr_anM; rw [if_neg (by omega)]
theorem zr_anM_s (f : Nat → Int32) {n d k : Nat} (v : Int64) (h : k < d) : upd (zr_anM f n d v k) (n + (d - 1 - k)) (zr_dig v k) = zr_anM f n d v (k + 1) := by
  funext j
  unfold upd zr_anM
  by_cases q : j = n + (d - 1 - k)
  · rw [if_pos q, if_pos (by omega), show n + d - 1 - j = k by omega]
  · rw [if_neg q]
    by_cases q2 : n + d - k ≤ j ∧ j < n + d
    · rw [if_pos q2, if_pos (by omega)]
    · rw [if_neg q2, if_neg (by omega)]
theorem zr_anM_e (f : Nat → Int32) (n d : Nat) (v : Int64) : zr_anM f n d v d = zr_an f n d v := by
  funext j; unfold zr_anM zr_an; rw [show n + d - d = n by omega]
theorem zr_q_pos {v : Int64} (hv : 0 ≤ v) : ∀ k, 0 ≤ zr_q v k := by
  have h0 : (0 : Int64).toInt = 0 := by decide
  have h10 : (10 : Int64).toInt = 10 := by decide
  intro k
  induction k with
  | zero => exact hv
  | succ k ih =>
    rw [zr_q]
    rw [Int64.le_iff_toInt_le, h0] at ih ⊢
    have hlt := (zr_q v k).toInt_lt
    rw [Int64.toInt_div, h10, Int.tdiv_eq_ediv_of_nonneg ih, Int.bmod_eq_of_le (by omega) (by omega)]
    omega
theorem zr_dig_10 {v : Int64} (hv : 0 ≤ v) (k : Nat) : ∃ d, d ≤ 9 ∧ zr_dig v k = nI d := by
  have h0 : (0 : Int64).toInt = 0 := by decide
  have h10 : (10 : Int64).toInt = 10 := by decide
  have hq := zr_q_pos hv k
  rw [Int64.le_iff_toInt_le, h0] at hq
  have hlt := (zr_q v k).toInt_lt
  have hd : (zr_q v k / 10).toInt = (zr_q v k).toInt / 10 := by
    rw [Int64.toInt_div, h10, Int.tdiv_eq_ediv_of_nonneg hq, Int.bmod_eq_of_le (by omega) (by omega)]
  have hm : (zr_q v k / 10 * 10).toInt = (zr_q v k).toInt / 10 * 10 := by
    rw [Int64.toInt_mul, hd, h10, Int.bmod_eq_of_le (by omega) (by omega)]
  have hr : (zr_q v k - zr_q v k / 10 * 10).toInt = (zr_q v k).toInt % 10 := by
    rw [Int64.toInt_sub, hm, Int.bmod_eq_of_le (by omega) (by omega)]
    omega
  refine ⟨((zr_q v k).toInt % 10).toNat, by omega, ?_⟩
  unfold zr_dig
  apply Int32.toInt_inj.mp
  rw [Int64.toInt_toInt32, hr, nI_toInt (by omega), Int.bmod_eq_of_le (by omega) (by omega)]
  omega
theorem zsgn_an {f : Nat → Int32} {n d : Nat} {v : Int64} (h : zsgn f n) (hv : 0 ≤ v) : zsgn (zr_an f n d v) (n + d) := fun j hj => by
  unfold zr_an
  by_cases q : n ≤ j ∧ j < n + d
  · rw [if_pos q]; obtain ⟨x, hx, ex⟩ := zr_dig_10 hv (n + d - 1 - j); exact ⟨x, by omega, ex⟩
  · rw [if_neg q]; exact h j (by omega)
theorem zsgn_upd {f : Nat → Int32} {n : Nat} {x : Int32} (h : zsgn f n) (hx : ∃ v, v ≤ 10 ∧ x = nI v) : zsgn (upd f n x) (n + 1) := fun j hj => by
  unfold upd
  by_cases q : j = n
  · rw [if_pos q]; exact hx
  · rw [if_neg q]; exact h j (by omega)
theorem zwr_sgn {F wp wg : Nat → Int32} {wv : Nat → Int64} {wc : Nat} {sf : Nat → Int32} (hw : zwj wp wg wc) (hv : ∀ j, j < wc → 0 ≤ wv j) : ∀ i, i ≤ wc → zsgn (zwr F wp wg wv wc sf i) (zwn F wp wg wc i) := by
  intro i
  induction i with
  | zero => intro _ j hj; exact absurd hj (Nat.not_lt_zero _)
  | succ i ih =>
    intro hi
    have h1 := ih (by omega)
    obtain ⟨⟨hp, hp1, hp2⟩, -, -⟩ := hw i (by omega)
    have hp0 : 0 ≤ (wp i).toInt64 := by
      rw [hp, nI_l (by omega)]; exact (lN_le (a := 0) (by decide) (by omega)).mpr (Nat.zero_le _)
    have h2 := zsgn_an (d := zdg wg i) (zsgn_an (d := 2) h1 hp0) (hv i (by omega))
    by_cases hs : zsep F wp wc i
    · rw [zwr_t hs, zwn, zi_t hs]; exact zsgn_upd h2 ⟨10, by decide, rfl⟩
    · rw [zwr_f hs, zwn, zi_f hs]; exact h2
theorem zchk_10 {f : Nat → Int32} {n : Nat} (h : zsgn f n) (hn : n ≤ 120) : ∃ v, v ≤ 10 ∧ zchk f n = nI v := by
  obtain ⟨t, ht, et⟩ := zsw_nat h n (Nat.le_refl _)
  refine ⟨(10 - t % 10) % 10, by omega, ?_⟩
  unfold zchk; rw [et, zfm_neg (by omega)]

set_option maxHeartbeats 4000000 in
set_option maxRecDepth 100000 in
theorem c_X7_size (l : Launch) (dC : Nat → ClassId) (dI : Nat → Nat → Nat) (cI cZ cJ : ClassId) (h : Nat) (thr : Int32) (fm : Nat) (bL : Nat) (bF : Nat) (bS : Nat) (bN : Nat) (wc : Nat) (bwp : Nat) (bwg : Nat) (bwv : Nat) (mn : Nat) (bmo : Nat) (rn : Nat) (brd : Nat) (tn : Nat) (bty : Nat) (mm : Int32) (sgn : Nat) (bsg : Nat) (fc : Nat) (bpf : Nat) (bpg : Nat) (bpv : Nat) (u : Int32) (lb : Nat) (blF : Nat) (blP : Nat) (blD : Nat) (blN : Nat) (bwn : Nat) (lat : Int32) (bla : Nat) (F : Nat → Int32) (wp : Nat → Int32) (wg : Nat → Int32) (hw6 : wc ≤ 6) (hwj : zwj wp wg wc) : Met l yX7_size wsX7_size ({ frames := 0, cells := 0, slots := 0, locals := 0 }) (zc_P [.ref h] (dC, dI) (zc_T cI cZ cJ) [(h, .inr (8, [.int thr, .int (nI fm), .ref bL, .ref bF, .ref bS, .ref bN, .int (nI wc), .ref bwp, .ref bwg, .ref bwv, .int (nI mn), .ref bmo, .int (nI rn), .ref brd, .int (nI tn), .ref bty, .int mm, .int (nI sgn), .ref bsg, .int (nI fc), .ref bpf, .ref bpg, .ref bpv, .int u, .int (nI lb), .ref blF, .ref blP, .ref blD, .ref blN, .ref bwn, .int lat, .ref bla])), (bF, .inl (cZ, 100, .inl F)), (bwp, .inl (cI, 6, .inl wp)), (bwg, .inl (cI, 6, .inl wg))]) (zc_Q (.int (nI (zwn F wp wg wc wc + 1)))) 0 0 (fun _ => False) := by
  refine Met.ofW (cc := cX7_size) (maxL := 3) (ret := (some .int)) (by decide) rfl ?_
  intro p e s m args below meth c s₁ B hml hv
  obtain ⟨rfl, hP, hK⟩ := hv
  have hx := B.exec
  have hb := B.bytes
  have hr := B.returns
  have hts := atoms_spec (ws := wsX7_size) B.pre
  have hown : s.vm.findClass RX7 = some m.cls := findClass_of_methodNamed B.named
  have hlocks := B.notSynchronized
  have hinX7 : ∀ w ∈ wsX70, w ∈ wsX7_size := by decide +kernel
  have hl := lv_entry ([.ref h]) (n := 3) (Nat.le_of_ble_eq_true rfl)
  rw [lg_entry_eq]
  generalize (lg_sl ([.ref h]) ++ List.replicate (3 - (lg_sl ([.ref h])).length) Slot.unset).toArray = ls at hl ⊢
  have hl : lv_has ls 3 [(0, .ref h)] := hl
  refine lv_iconst (v := 1) hx hb dX7_size_0 (by decide) ?_
  refine lv_istore_n (lv' := [(1, .int 1), (0, .ref h)]) hx hb dX7_size_1 rfl hl (by decide) rfl (fun ls hl => ?_)
  refine lv_iconst (v := 0) hx hb dX7_size_2 (by decide) ?_
  refine lv_istore_n (lv' := [(2, .int 0), (1, .int 1), (0, .ref h)]) hx hb dX7_size_3 rfl hl (by decide) rfl (fun ls hl => ?_)
  refine zc_loop (α := Nat) (fun k ls => lv_has ls 3 [(2, .int (nI k)), (1, .int (nI (zwn F wp wg wc k + 1))), (0, .ref h)] ∧ (k ≤ wc)) (fun k => wc - k) 0 ⟨lv_sub hl [0, 1, 2] rfl, Nat.zero_le _⟩ ?_
  intro x ls hI ih4
  obtain ⟨k, rfl⟩ : ∃ z, z = x := ⟨_, rfl⟩
  obtain ⟨hl, hi1⟩ := hI
  have hl : lv_has ls 3 [(2, .int (nI k)), (1, .int (nI (zwn F wp wg wc k + 1))), (0, .ref h)] := hl
  try dsimp only at ih4
  refine lv_iload_n hx hb dX7_size_4 rfl (lv_at hl 0 rfl) ?_
  refine lv_aload_n hx hb dX7_size_5 rfl (lv_at hl 2 rfl) ?_
  refine va_get (D := (dC, dI)) (ci := 8) (v := .int (nI wc)) (C := RX7) (T := TX7) (N := 32) hx hb hts hinX7 hown hK hP 0 rfl rfl 6 (by decide) (hts (.fieldLink RX7 27 "ScanCodesModel" "written" "I") (by decide +kernel)) (fun _ h9 => h9) rfl dX7_size_6 ?_
  refine lv_icmp_ge (tgt := 59) hx hb dX7_size_9 (by decide) (fun c9 => ?_) (fun c9 => ?_)
  · have hgek := zn_le c9 (by omega) (by omega)
    obtain rfl : wc = k := by omega
    refine lv_iload_n hx hb dX7_size_59 rfl (lv_at hl 1 rfl) ?_
    have hres : (nI (zwn F wp wg wc wc + 1)) = nI (zwn F wp wg wc wc + 1) := by rfl
    exact W.iret (v := nI (zwn F wp wg wc wc + 1)) hx hb hr (fun t ht _ => ⟨congrArg (fun z => Outcome.returned (some (Value.int z))) hres, ht⟩) (fun _ h => nomatch h) dX7_size_60
  · have hltk := zn_nle c9 (by omega) (by omega)
    have hj := hwj k hltk
    refine lv_iload_n hx hb dX7_size_12 rfl (lv_at hl 1 rfl) ?_
    refine lv_iconst (v := 2) hx hb dX7_size_13 (by decide) ?_
    refine lv_aload_n hx hb dX7_size_14 rfl (lv_at hl 2 rfl) ?_
    refine va_get (D := (dC, dI)) (ci := 8) (v := .ref bwg) (C := RX7) (T := TX7) (N := 32) hx hb hts hinX7 hown hK hP 0 rfl rfl 8 (by decide) (hts (.fieldLink RX7 33 "ScanCodesModel" "writtenDigits" "[I") (by decide +kernel)) (fun _ h9 => h9) rfl dX7_size_15 ?_
    refine lv_iload_n hx hb dX7_size_18 rfl (lv_at hl 0 rfl) ?_
    refine zc_iald hx hb hK hP 3 0 rfl rfl k rfl (by first | assumption | omega) (by decide) dX7_size_19 ?_
    refine zc_ti (y := nI (zdg wg k)) (hj.2.1) ?_
    refine lv_iadd hx hb dX7_size_20 ?_
    refine zc_ti (y := nI (2 + zdg wg k)) (nI_add 2 _) ?_
    refine lv_iload_n hx hb dX7_size_21 rfl (lv_at hl 0 rfl) ?_
    refine lv_iconst (v := 1) hx hb dX7_size_22 (by decide) ?_
    refine lv_iadd hx hb dX7_size_23 ?_
    refine zc_ti (y := nI (k + 1)) (nI_1 k) ?_
    refine lv_aload_n hx hb dX7_size_24 rfl (lv_at hl 2 rfl) ?_
    refine va_get (D := (dC, dI)) (ci := 8) (v := .int (nI wc)) (C := RX7) (T := TX7) (N := 32) hx hb hts hinX7 hown hK hP 0 rfl rfl 6 (by decide) (hts (.fieldLink RX7 27 "ScanCodesModel" "written" "I") (by decide +kernel)) (fun _ h9 => h9) rfl dX7_size_25 ?_
    refine lv_icmp_ge (tgt := 49) hx hb dX7_size_28 (by decide) (fun c28 => ?_) (fun c28 => ?_)
    · have hns : ¬ zsep F wp wc k := fun q => by have := zn_le c28 (by omega) (by omega); have := q.1; omega
      refine lv_iconst (v := 0) hx hb dX7_size_49 (by decide) ?_
      refine lv_iadd hx hb dX7_size_50 ?_
      refine lv_iadd hx hb dX7_size_51 ?_
      refine zc_ti (y := nI (zwn F wp wg wc (k + 1) + 1)) (by rw [zwn, zi_f hns, show (0 : Int32) = nI 0 from rfl, nI_add, nI_add]; congr 1; omega) ?_
      refine lv_istore_n (lv' := [(1, .int (nI (zwn F wp wg wc (k + 1) + 1))), (2, .int (nI k)), (0, .ref h)]) hx hb dX7_size_52 rfl hl (by decide) rfl (fun ls hl => ?_)
      refine lv_iinc (v := nI (k + 1)) (lv' := [(2, .int (nI (k + 1))), (1, .int (nI (zwn F wp wg wc (k + 1) + 1))), (0, .ref h)]) hx hb dX7_size_53 hl (k := 1) rfl (nI_1 k) (by decide) rfl (fun ls hl => ?_)
      refine lv_goto (tgt := 4) hx hb dX7_size_56 (by decide) ?_
      exact ih4 (k + 1) _ (by omega) ⟨lv_sub hl [0, 1, 2] rfl, hltk⟩
    · have hlt2 := zn_nle c28 (by omega) (by omega)
      refine lv_aload_n hx hb dX7_size_31 rfl (lv_at hl 2 rfl) ?_
      refine va_get (D := (dC, dI)) (ci := 8) (v := .ref bF) (C := RX7) (T := TX7) (N := 32) hx hb hts hinX7 hown hK hP 0 rfl rfl 3 (by decide) (hts (.fieldLink RX7 17 "ScanCodesModel" "fixed" "[Z") (by decide +kernel)) (fun _ h9 => h9) rfl dX7_size_32 ?_
      refine lv_aload_n hx hb dX7_size_35 rfl (lv_at hl 2 rfl) ?_
      refine va_get (D := (dC, dI)) (ci := 8) (v := .ref bwp) (C := RX7) (T := TX7) (N := 32) hx hb hts hinX7 hown hK hP 0 rfl rfl 7 (by decide) (hts (.fieldLink RX7 30 "ScanCodesModel" "writtenPrefix" "[I") (by decide +kernel)) (fun _ h9 => h9) rfl dX7_size_36 ?_
      refine lv_iload_n hx hb dX7_size_39 rfl (lv_at hl 0 rfl) ?_
      refine zc_iald hx hb hK hP 2 0 rfl rfl k rfl (by first | assumption | omega) (by decide) dX7_size_40 ?_
      refine zc_zald hx hb hK hP 1 1 rfl rfl ((wp k).toNatClampNeg) hj.1.1 hj.1.2.2 (by decide) dX7_size_41 ?_
      refine lv_if_ne (tgt := 49) hx hb dX7_size_42 (by decide) (fun c42 => ?_) (fun c42 => ?_)
      · have hns : ¬ zsep F wp wc k := fun q => c42 q.2
        refine lv_iconst (v := 0) hx hb dX7_size_49 (by decide) ?_
        refine lv_iadd hx hb dX7_size_50 ?_
        refine lv_iadd hx hb dX7_size_51 ?_
        refine zc_ti (y := nI (zwn F wp wg wc (k + 1) + 1)) (by rw [zwn, zi_f hns, show (0 : Int32) = nI 0 from rfl, nI_add, nI_add]; congr 1; omega) ?_
        refine lv_istore_n (lv' := [(1, .int (nI (zwn F wp wg wc (k + 1) + 1))), (2, .int (nI k)), (0, .ref h)]) hx hb dX7_size_52 rfl hl (by decide) rfl (fun ls hl => ?_)
        refine lv_iinc (v := nI (k + 1)) (lv' := [(2, .int (nI (k + 1))), (1, .int (nI (zwn F wp wg wc (k + 1) + 1))), (0, .ref h)]) hx hb dX7_size_53 hl (k := 1) rfl (nI_1 k) (by decide) rfl (fun ls hl => ?_)
        refine lv_goto (tgt := 4) hx hb dX7_size_56 (by decide) ?_
        exact ih4 (k + 1) _ (by omega) ⟨lv_sub hl [0, 1, 2] rfl, hltk⟩
      · have hsp : zsep F wp wc k := ⟨hlt2, c42⟩
        refine lv_iconst (v := 1) hx hb dX7_size_45 (by decide) ?_
        refine lv_goto (tgt := 50) hx hb dX7_size_46 (by decide) ?_
        refine lv_iadd hx hb dX7_size_50 ?_
        refine lv_iadd hx hb dX7_size_51 ?_
        refine zc_ti (y := nI (zwn F wp wg wc (k + 1) + 1)) (by rw [zwn, zi_t hsp, show (1 : Int32) = nI 1 from rfl, nI_add, nI_add]; congr 1; omega) ?_
        refine lv_istore_n (lv' := [(1, .int (nI (zwn F wp wg wc (k + 1) + 1))), (2, .int (nI k)), (0, .ref h)]) hx hb dX7_size_52 rfl hl (by decide) rfl (fun ls hl => ?_)
        refine lv_iinc (v := nI (k + 1)) (lv' := [(2, .int (nI (k + 1))), (1, .int (nI (zwn F wp wg wc (k + 1) + 1))), (0, .ref h)]) hx hb dX7_size_53 hl (k := 1) rfl (nI_1 k) (by decide) rfl (fun ls hl => ?_)
        refine lv_goto (tgt := 4) hx hb dX7_size_56 (by decide) ?_
        exact ih4 (k + 1) _ (by omega) ⟨lv_sub hl [0, 1, 2] rfl, hltk⟩
set_option maxHeartbeats 4000000 in
set_option maxRecDepth 100000 in
theorem c_X7_make (l : Launch) (dC : Nat → ClassId) (dI : Nat → Nat → Nat) (cI cZ cJ : ClassId) (h : Nat) (thr : Int32) (fm : Nat) (bL : Nat) (bF : Nat) (bS : Nat) (bN : Nat) (wc : Nat) (bwp : Nat) (bwg : Nat) (bwv : Nat) (mn : Nat) (bmo : Nat) (rn : Nat) (brd : Nat) (tn : Nat) (bty : Nat) (mm : Int32) (sgn : Nat) (bsg : Nat) (fc : Nat) (bpf : Nat) (bpg : Nat) (bpv : Nat) (u : Int32) (lb : Nat) (blF : Nat) (blP : Nat) (blD : Nat) (blN : Nat) (bwn : Nat) (lat : Int32) (bla : Nat) (F : Nat → Int32) (wp : Nat → Int32) (wg : Nat → Int32) (wv : Nat → Int64) (mo : Nat → Int32) (la : Nat → Int32) (hf : fm ≤ 2) (hw6 : wc ≤ 6) (hwj : zwj wp wg wc) (hwv : ∀ j, j < wc → 0 ≤ wv j) (sz : Nat) : Met l yX7_make wsX7_make ({ frames := 2, cells := 0, slots := 0, locals := 43 }) (zc_PW [.ref h] (dC, dI) (zc_T cI cZ cJ) [(h, .inr (8, [.int thr, .int (nI fm), .ref bL, .ref bF, .ref bS, .ref bN, .int (nI wc), .ref bwp, .ref bwg, .ref bwv, .int (nI mn), .ref bmo, .int (nI rn), .ref brd, .int (nI tn), .ref bty, .int mm, .int (nI sgn), .ref bsg, .int (nI fc), .ref bpf, .ref bpg, .ref bpv, .int u, .int (nI lb), .ref blF, .ref blP, .ref blD, .ref blN, .ref bwn, .int lat, .ref bla])), (bF, .inl (cZ, 100, .inl F)), (bwp, .inl (cI, 6, .inl wp)), (bwg, .inl (cI, 6, .inl wg)), (bwv, .inl (cJ, 6, .inr (.inl wv))), (bmo, .inl (cI, 420, .inl mo)), (bla, .inl (cI, 61, .inl la))] sz) (va_Qi (fun (r : Int32) (_ : Unit) => r = zi (ze_make wc (zwn F wp wg wc wc) = 0) (nI ((zwn F wp wg wc wc + 1) * zw fm)) 0) (fun _ t => zc_B (dC, dI) (zc_T cI cZ cJ) (va_A [(h, .inr (8, [.int thr, .int (nI fm), .ref bL, .ref bF, .ref bS, .ref bN, .int (nI wc), .ref bwp, .ref bwg, .ref bwv, .int (nI mn), .ref bmo, .int (nI rn), .ref brd, .int (nI tn), .ref bty, .int mm, .int (nI sgn), .ref bsg, .int (nI fc), .ref bpf, .ref bpg, .ref bpv, .int u, .int (nI lb), .ref blF, .ref blP, .ref blD, .ref blN, .ref bwn, .int lat, .ref bla])), (bF, .inl (cZ, 100, .inl F)), (bwp, .inl (cI, 6, .inl wp)), (bwg, .inl (cI, 6, .inl wg)), (bwv, .inl (cJ, 6, .inr (.inl wv))), (bmo, .inl (cI, 420, .inl mo)), (bla, .inl (cI, 61, .inl la))] sz) [(h, .inr (8, [.int (nI (ze_make wc (zwn F wp wg wc wc))), .int (nI fm), .ref bL, .ref bF, .ref bS, .ref bN, .int (nI wc), .ref bwp, .ref bwg, .ref bwv, .int (nI (zi (ze_make wc (zwn F wp wg wc wc) = 0) ((zwn F wp wg wc wc + 1) * zw fm) (mn))), .ref bmo, .int (nI rn), .ref brd, .int (nI tn), .ref bty, .int mm, .int (nI sgn), .ref bsg, .int (nI fc), .ref bpf, .ref bpg, .ref bpv, .int u, .int (nI lb), .ref blF, .ref blP, .ref blD, .ref blN, .ref bwn, .int lat, .ref bla])), (bF, .inl (cZ, 100, .inl F)), (bwp, .inl (cI, 6, .inl wp)), (bwg, .inl (cI, 6, .inl wg)), (bwv, .inl (cJ, 6, .inr (.inl wv))), (bmo, .inl (cI, 420, .inl (zi (ze_make wc (zwn F wp wg wc wc) = 0) (zenc fm (zwn F wp wg wc wc + 1) (fun a k => zbt ((upd (zwr F wp wg wv wc la wc) (zwn F wp wg wc wc) (zchk (zwr F wp wg wv wc la wc) (zwn F wp wg wc wc))) a) (nI k)) mo (zwn F wp wg wc wc + 1) 0) (mo)))), (bla, .inl (cI, 61, .inl (zi (ze_make wc (zwn F wp wg wc wc) = 0) (upd (zwr F wp wg wv wc la wc) (zwn F wp wg wc wc) (zchk (zwr F wp wg wv wc la wc) (zwn F wp wg wc wc))) (la))))] t) (va_A [(h, .inr (8, [.int thr, .int (nI fm), .ref bL, .ref bF, .ref bS, .ref bN, .int (nI wc), .ref bwp, .ref bwg, .ref bwv, .int (nI mn), .ref bmo, .int (nI rn), .ref brd, .int (nI tn), .ref bty, .int mm, .int (nI sgn), .ref bsg, .int (nI fc), .ref bpf, .ref bpg, .ref bpv, .int u, .int (nI lb), .ref blF, .ref blP, .ref blD, .ref blN, .ref bwn, .int lat, .ref bla])), (bF, .inl (cZ, 100, .inl F)), (bwp, .inl (cI, 6, .inl wp)), (bwg, .inl (cI, 6, .inl wg)), (bwv, .inl (cJ, 6, .inr (.inl wv))), (bmo, .inl (cI, 420, .inl mo)), (bla, .inl (cI, 61, .inl la))] sz)) 0 0 (va_A [(h, .inr (8, [.int thr, .int (nI fm), .ref bL, .ref bF, .ref bS, .ref bN, .int (nI wc), .ref bwp, .ref bwg, .ref bwv, .int (nI mn), .ref bmo, .int (nI rn), .ref brd, .int (nI tn), .ref bty, .int mm, .int (nI sgn), .ref bsg, .int (nI fc), .ref bpf, .ref bpg, .ref bpv, .int u, .int (nI lb), .ref blF, .ref blP, .ref blD, .ref blN, .ref bwn, .int lat, .ref bla])), (bF, .inl (cZ, 100, .inl F)), (bwp, .inl (cI, 6, .inl wp)), (bwg, .inl (cI, 6, .inl wg)), (bwv, .inl (cJ, 6, .inr (.inl wv))), (bmo, .inl (cI, 420, .inl mo)), (bla, .inl (cI, 61, .inl la))] sz) := by
  refine Met.ofW (cc := cX7_make) (maxL := 7) (ret := (some .int)) (by decide) rfl ?_
  intro p e s m args below meth c s₁ B hml hv
  obtain ⟨rfl, hsz, hP, hK, hD0⟩ := hv
  have hx := B.exec
  have hb := B.bytes
  have hr := B.returns
  have hts := atoms_spec (ws := wsX7_make) B.pre
  have hown : s.vm.findClass RX7 = some m.cls := findClass_of_methodNamed B.named
  have hlocks := B.notSynchronized
  subst hsz
  have hD := hD0.self (sz := s.heap.size)
  generalize hAe : va_A [(h, .inr (8, [.int thr, .int (nI fm), .ref bL, .ref bF, .ref bS, .ref bN, .int (nI wc), .ref bwp, .ref bwg, .ref bwv, .int (nI mn), .ref bmo, .int (nI rn), .ref brd, .int (nI tn), .ref bty, .int mm, .int (nI sgn), .ref bsg, .int (nI fc), .ref bpf, .ref bpg, .ref bpv, .int u, .int (nI lb), .ref blF, .ref blP, .ref blD, .ref blN, .ref bwn, .int lat, .ref bla])), (bF, .inl (cZ, 100, .inl F)), (bwp, .inl (cI, 6, .inl wp)), (bwg, .inl (cI, 6, .inl wg)), (bwv, .inl (cJ, 6, .inr (.inl wv))), (bmo, .inl (cI, 420, .inl mo)), (bla, .inl (cI, 61, .inl la))] s.heap.size = A at hD ⊢
  have hA : ∀ q : Nat, s.heap.size ≤ q → A q := fun q h => by rw [← hAe]; exact Or.inr h
  have hS : va_S A s.heap s.heap [] := va_S.rf
  have hinX7 : ∀ w ∈ wsX70, w ∈ wsX7_make := by decide +kernel
  have hl := lv_entry ([.ref h]) (n := 7) (Nat.le_of_ble_eq_true rfl)
  rw [lg_entry_eq]
  generalize (lg_sl ([.ref h]) ++ List.replicate (7 - (lg_sl ([.ref h])).length) Slot.unset).toArray = ls at hl ⊢
  have hl : lv_has ls 7 [(0, .ref h)] := hl
  refine lv_aload_n hx hb dX7_make_0 rfl (lv_at hl 0 rfl) ?_
  refine lv_aload_n hx hb dX7_make_1 rfl (lv_at hl 0 rfl) ?_
  refine va_get (D := (dC, dI)) (ci := 8) (v := .int (nI wc)) (C := RX7) (T := TX7) (N := 32) hx hb hts hinX7 hown hK hP 0 rfl rfl 6 (by decide) (hts (.fieldLink RX7 27 "ScanCodesModel" "written" "I") (by decide +kernel)) (fun _ h9 => h9) rfl dX7_make_2 ?_
  refine lv_if_ne (tgt := 12) hx hb dX7_make_5 (by decide) (fun c5 => ?_) (fun c5 => ?_)
  · have hne := zn_ne (b := 0) c5 (by omega) (by decide)
    have hnb := zwn_le F wp wg wc (fun j hj => (hwj j hj).2.2) wc (Nat.le_refl _)
    refine lv_aload_n hx hb dX7_make_12 rfl (lv_at hl 0 rfl) ?_
    refine zc_callR (va_runV (As := []) (rest := [.ref h]) ⟨hx, hb, hml, hown, hts⟩ (c_X7_size l dC dI cI cZ cJ h thr fm bL bF bS bN wc bwp bwg bwv mn bmo rn brd tn bty mm sgn bsg fc bpf bpg bpv u lb blF blP blD blN bwn lat bla F wp wg hw6 hwj) (zc_V 0 hts ggX7_make_X7_size rfl rfl rfl (by decide +kernel) (by decide +kernel) ⟨Nat.le_of_ble_eq_true rfl, Nat.le_of_ble_eq_true rfl⟩) ⟨zc_blind, va_recv hK hP (ci := 8) (q0 := 0) rfl rfl, zc_pay (hP.sub (ws' := [(h, .inr (8, [.int thr, .int (nI fm), .ref bL, .ref bF, .ref bS, .ref bN, .int (nI wc), .ref bwp, .ref bwg, .ref bwv, .int (nI mn), .ref bmo, .int (nI rn), .ref brd, .int (nI tn), .ref bty, .int mm, .int (nI sgn), .ref bsg, .int (nI fc), .ref bpf, .ref bpg, .ref bpv, .int u, .int (nI lb), .ref blF, .ref blP, .ref blD, .ref blN, .ref bwn, .int lat, .ref bla])), (bF, .inl (cZ, 100, .inl F)), (bwp, .inl (cI, 6, .inl wp)), (bwg, .inl (cI, 6, .inl wg))]) [0, 1, 2, 3] rfl) hK⟩ rfl rfl hl.1 rfl (lv_room (Nat.le_of_ble_eq_true rfl)) dX7_make_13 ⟨Nat.le_of_ble_eq_true rfl, Nat.le_of_ble_eq_true rfl⟩) ?_
    refine lv_bipush (v := 60) hx hb dX7_make_16 (by decide) ?_
    refine lv_icmp_le (tgt := 25) hx hb dX7_make_18 (by decide) (fun c18 => ?_) (fun c18 => ?_)
    · have hle := zn_le (b := 60) c18 (by omega) (by decide)
      refine lv_iconst (v := 0) hx hb dX7_make_25 (by decide) ?_
      refine va_put (D := (dC, dI)) (ci := 8) (v := .int 0) (ty := .int) (C := RX7) (T := TX7) (N := 32) hx hb hts hinX7 tyX7 tyX7_ok nmX7 hown hK hP hD hS 0 rfl rfl 0 (by decide) (hts (.fieldLink RX7 7 "ScanCodesModel" "thrownCode" "I") (by decide +kernel)) (fun _ h9 => h9) rfl (by decide +kernel) rfl rfl (Nat.le_of_ble_eq_true rfl) dX7_make_26 (fun H locs hP hD hS => ?_)
      have hP : va_P (dC, dI) vwCl [(h, .inr (8, [.int 0, .int (nI fm), .ref bL, .ref bF, .ref bS, .ref bN, .int (nI wc), .ref bwp, .ref bwg, .ref bwv, .int (nI mn), .ref bmo, .int (nI rn), .ref brd, .int (nI tn), .ref bty, .int mm, .int (nI sgn), .ref bsg, .int (nI fc), .ref bpf, .ref bpg, .ref bpv, .int u, .int (nI lb), .ref blF, .ref blP, .ref blD, .ref blN, .ref bwn, .int lat, .ref bla])), (bF, .inl (cZ, 100, .inl F)), (bwp, .inl (cI, 6, .inl wp)), (bwg, .inl (cI, 6, .inl wg)), (bwv, .inl (cJ, 6, .inr (.inl wv))), (bmo, .inl (cI, 420, .inl mo)), (bla, .inl (cI, 61, .inl la))] H := hP
      have hD : va_D A [(h, .inr (8, [.int 0, .int (nI fm), .ref bL, .ref bF, .ref bS, .ref bN, .int (nI wc), .ref bwp, .ref bwg, .ref bwv, .int (nI mn), .ref bmo, .int (nI rn), .ref brd, .int (nI tn), .ref bty, .int mm, .int (nI sgn), .ref bsg, .int (nI fc), .ref bpf, .ref bpg, .ref bpv, .int u, .int (nI lb), .ref blF, .ref blP, .ref blD, .ref blN, .ref bwn, .int lat, .ref bla])), (bF, .inl (cZ, 100, .inl F)), (bwp, .inl (cI, 6, .inl wp)), (bwg, .inl (cI, 6, .inl wg)), (bwv, .inl (cJ, 6, .inr (.inl wv))), (bmo, .inl (cI, 420, .inl mo)), (bla, .inl (cI, 61, .inl la))] := hD
      refine lv_aload_n hx hb dX7_make_29 rfl (lv_at hl 0 rfl) ?_
      refine va_get (D := (dC, dI)) (ci := 8) (v := .int 0) (C := RX7) (T := TX7) (N := 32) hx hb hts hinX7 hown hK hP 0 rfl rfl 0 (by decide) (hts (.fieldLink RX7 7 "ScanCodesModel" "thrownCode" "I") (by decide +kernel)) (fun _ h9 => h9) rfl dX7_make_30 ?_
      refine lv_if_eq (tgt := 38) hx hb dX7_make_33 (by decide) (fun c33 => ?_) (fun c33 => absurd (by decide) c33)
      refine lv_aload_n hx hb dX7_make_38 rfl (lv_at hl 0 rfl) ?_
      refine va_get (D := (dC, dI)) (ci := 8) (v := .ref bla) (C := RX7) (T := TX7) (N := 32) hx hb hts hinX7 hown hK hP 0 rfl rfl 31 (by decide) (hts (.fieldLink RX7 103 "ScanCodesModel" "label" "[I") (by decide +kernel)) (fun _ h9 => h9) rfl dX7_make_39 ?_
      refine lv_astore_n (lv' := [(1, .ref bla), (0, .ref h)]) hx hb dX7_make_42 rfl hl (by decide) rfl (fun ls hl => ?_)
      refine lv_iconst (v := 0) hx hb dX7_make_43 (by decide) ?_
      refine lv_istore_n (lv' := [(2, .int 0), (1, .ref bla), (0, .ref h)]) hx hb dX7_make_44 rfl hl (by decide) rfl (fun ls hl => ?_)
      refine lv_iconst (v := 0) hx hb dX7_make_45 (by decide) ?_
      refine lv_istore_n (lv' := [(3, .int 0), (2, .int 0), (1, .ref bla), (0, .ref h)]) hx hb dX7_make_46 rfl hl (by decide) rfl (fun ls hl => ?_)
      refine zc_loopH (α := Nat) (fun k H locs ls => lv_has ls 7 [(3, .int (nI k)), (2, .int (nI (zwn F wp wg wc k))), (1, .ref bla), (0, .ref h)] ∧ va_P (dC, dI) vwCl [(h, .inr (8, [.int 0, .int (nI fm), .ref bL, .ref bF, .ref bS, .ref bN, .int (nI wc), .ref bwp, .ref bwg, .ref bwv, .int (nI mn), .ref bmo, .int (nI rn), .ref brd, .int (nI tn), .ref bty, .int mm, .int (nI sgn), .ref bsg, .int (nI fc), .ref bpf, .ref bpg, .ref bpv, .int u, .int (nI lb), .ref blF, .ref blP, .ref blD, .ref blN, .ref bwn, .int lat, .ref bla])), (bF, .inl (cZ, 100, .inl F)), (bwp, .inl (cI, 6, .inl wp)), (bwg, .inl (cI, 6, .inl wg)), (bwv, .inl (cJ, 6, .inr (.inl wv))), (bmo, .inl (cI, 420, .inl mo)), (bla, .inl (cI, 61, .inl (zwr F wp wg wv wc la k)))] H ∧ va_D A [(h, .inr (8, [.int 0, .int (nI fm), .ref bL, .ref bF, .ref bS, .ref bN, .int (nI wc), .ref bwp, .ref bwg, .ref bwv, .int (nI mn), .ref bmo, .int (nI rn), .ref brd, .int (nI tn), .ref bty, .int mm, .int (nI sgn), .ref bsg, .int (nI fc), .ref bpf, .ref bpg, .ref bpv, .int u, .int (nI lb), .ref blF, .ref blP, .ref blD, .ref blN, .ref bwn, .int lat, .ref bla])), (bF, .inl (cZ, 100, .inl F)), (bwp, .inl (cI, 6, .inl wp)), (bwg, .inl (cI, 6, .inl wg)), (bwv, .inl (cJ, 6, .inr (.inl wv))), (bmo, .inl (cI, 420, .inl mo)), (bla, .inl (cI, 61, .inl (zwr F wp wg wv wc la k)))] ∧ va_S A s.heap H locs ∧ (k ≤ wc)) (fun k => wc - k) 0 ⟨lv_sub hl [0, 1, 2, 3] rfl, by exact hP, by exact hD, hS, Nat.zero_le _⟩ ?_
      intro x H locs ls hI ih47
      obtain ⟨k, rfl⟩ : ∃ z, z = x := ⟨_, rfl⟩
      obtain ⟨hl, hP, hD, hS, hi1⟩ := hI
      have hl : lv_has ls 7 [(3, .int (nI k)), (2, .int (nI (zwn F wp wg wc k))), (1, .ref bla), (0, .ref h)] := hl
      have hP : va_P (dC, dI) vwCl [(h, .inr (8, [.int 0, .int (nI fm), .ref bL, .ref bF, .ref bS, .ref bN, .int (nI wc), .ref bwp, .ref bwg, .ref bwv, .int (nI mn), .ref bmo, .int (nI rn), .ref brd, .int (nI tn), .ref bty, .int mm, .int (nI sgn), .ref bsg, .int (nI fc), .ref bpf, .ref bpg, .ref bpv, .int u, .int (nI lb), .ref blF, .ref blP, .ref blD, .ref blN, .ref bwn, .int lat, .ref bla])), (bF, .inl (cZ, 100, .inl F)), (bwp, .inl (cI, 6, .inl wp)), (bwg, .inl (cI, 6, .inl wg)), (bwv, .inl (cJ, 6, .inr (.inl wv))), (bmo, .inl (cI, 420, .inl mo)), (bla, .inl (cI, 61, .inl (zwr F wp wg wv wc la k)))] H := hP
      have hD : va_D A [(h, .inr (8, [.int 0, .int (nI fm), .ref bL, .ref bF, .ref bS, .ref bN, .int (nI wc), .ref bwp, .ref bwg, .ref bwv, .int (nI mn), .ref bmo, .int (nI rn), .ref brd, .int (nI tn), .ref bty, .int mm, .int (nI sgn), .ref bsg, .int (nI fc), .ref bpf, .ref bpg, .ref bpv, .int u, .int (nI lb), .ref blF, .ref blP, .ref blD, .ref blN, .ref bwn, .int lat, .ref bla])), (bF, .inl (cZ, 100, .inl F)), (bwp, .inl (cI, 6, .inl wp)), (bwg, .inl (cI, 6, .inl wg)), (bwv, .inl (cJ, 6, .inr (.inl wv))), (bmo, .inl (cI, 420, .inl mo)), (bla, .inl (cI, 61, .inl (zwr F wp wg wv wc la k)))] := hD
      try dsimp only at ih47
      refine lv_iload_n hx hb dX7_make_47 rfl (lv_at hl 0 rfl) ?_
      refine lv_aload_n hx hb dX7_make_48 rfl (lv_at hl 3 rfl) ?_
      refine va_get (D := (dC, dI)) (ci := 8) (v := .int (nI wc)) (C := RX7) (T := TX7) (N := 32) hx hb hts hinX7 hown hK hP 0 rfl rfl 6 (by decide) (hts (.fieldLink RX7 27 "ScanCodesModel" "written" "I") (by decide +kernel)) (fun _ h9 => h9) rfl dX7_make_49 ?_
      refine lv_icmp_ge (tgt := 181) hx hb dX7_make_52 (by decide) (fun c52 => ?_) (fun c52 => ?_)
      · have hgek := zn_le c52 (by omega) (by omega)
        obtain rfl : wc = k := by omega
        have hw7 := zw_le fm
        have hfit : (zwn F wp wg wc wc + 1) * zw fm ≤ 420 := Nat.le_trans (Nat.mul_le_mul hle (zw_le fm)) (by decide)
        refine lv_aload_n hx hb dX7_make_181 rfl (lv_at hl 2 rfl) ?_
        refine lv_iload_n hx hb dX7_make_182 rfl (lv_at hl 1 rfl) ?_
        refine lv_aload_n hx hb dX7_make_183 rfl (lv_at hl 2 rfl) ?_
        refine lv_iload_n hx hb dX7_make_184 rfl (lv_at hl 1 rfl) ?_
        refine zc_callR (va_runS (As := [.ref bla, .int (nI (zwn F wp wg wc wc))]) (rest := [.int (nI (zwn F wp wg wc wc)), .ref bla]) ⟨hx, hb, hml, hown, hts⟩ (c_X7_checkOf l dC dI cI cZ cJ bla 61 (zwr F wp wg wv wc la wc) (zwn F wp wg wc wc) (by omega) (by decide) (zwr_sgn hwj hwv wc (Nat.le_refl _))) (zc_S 2 hts ggX7_make_X7_checkOf rfl rfl rfl (by decide +kernel) (by decide +kernel) ⟨Nat.le_of_ble_eq_true rfl, Nat.le_of_ble_eq_true rfl⟩) ⟨zc_blind, zc_pay (hP.sub (ws' := [(bla, .inl (cI, 61, .inl (zwr F wp wg wv wc la wc)))]) [6] rfl) hK⟩ rfl rfl hl.1 rfl (lv_room (Nat.le_of_ble_eq_true rfl)) dX7_make_185 ⟨Nat.le_of_ble_eq_true rfl, Nat.le_of_ble_eq_true rfl⟩) ?_
        refine zc_iast hx hb hK hP hD hS 6 0 rfl rfl (zwn F wp wg wc wc) rfl (by first | assumption | omega) (by decide) dX7_make_188 (fun H locs hP hD hS => ?_)
        have hP : va_P (dC, dI) vwCl [(h, .inr (8, [.int 0, .int (nI fm), .ref bL, .ref bF, .ref bS, .ref bN, .int (nI wc), .ref bwp, .ref bwg, .ref bwv, .int (nI mn), .ref bmo, .int (nI rn), .ref brd, .int (nI tn), .ref bty, .int mm, .int (nI sgn), .ref bsg, .int (nI fc), .ref bpf, .ref bpg, .ref bpv, .int u, .int (nI lb), .ref blF, .ref blP, .ref blD, .ref blN, .ref bwn, .int lat, .ref bla])), (bF, .inl (cZ, 100, .inl F)), (bwp, .inl (cI, 6, .inl wp)), (bwg, .inl (cI, 6, .inl wg)), (bwv, .inl (cJ, 6, .inr (.inl wv))), (bmo, .inl (cI, 420, .inl mo)), (bla, .inl (cI, 61, .inl (upd (zwr F wp wg wv wc la wc) (zwn F wp wg wc wc) (zchk (zwr F wp wg wv wc la wc) (zwn F wp wg wc wc)))))] H := hP
        have hD : va_D A [(h, .inr (8, [.int 0, .int (nI fm), .ref bL, .ref bF, .ref bS, .ref bN, .int (nI wc), .ref bwp, .ref bwg, .ref bwv, .int (nI mn), .ref bmo, .int (nI rn), .ref brd, .int (nI tn), .ref bty, .int mm, .int (nI sgn), .ref bsg, .int (nI fc), .ref bpf, .ref bpg, .ref bpv, .int u, .int (nI lb), .ref blF, .ref blP, .ref blD, .ref blN, .ref bwn, .int lat, .ref bla])), (bF, .inl (cZ, 100, .inl F)), (bwp, .inl (cI, 6, .inl wp)), (bwg, .inl (cI, 6, .inl wg)), (bwv, .inl (cJ, 6, .inr (.inl wv))), (bmo, .inl (cI, 420, .inl mo)), (bla, .inl (cI, 61, .inl (upd (zwr F wp wg wv wc la wc) (zwn F wp wg wc wc) (zchk (zwr F wp wg wv wc la wc) (zwn F wp wg wc wc)))))] := hD
        refine lv_iinc (v := nI (zwn F wp wg wc wc + 1)) (lv' := [(2, .int (nI (zwn F wp wg wc wc + 1))), (3, .int (nI wc)), (1, .ref bla), (0, .ref h)]) hx hb dX7_make_189 hl (k := 1) rfl (nI_1 _) (by decide) rfl (fun ls hl => ?_)
        refine lv_iconst (v := 0) hx hb dX7_make_192 (by decide) ?_
        refine lv_istore_n (lv' := [(3, .int 0), (2, .int (nI (zwn F wp wg wc wc + 1))), (1, .ref bla), (0, .ref h)]) hx hb dX7_make_193 rfl hl (by decide) rfl (fun ls hl => ?_)
        rw [← zenc_0 fm (zwn F wp wg wc wc + 1) (fun a k => zbt ((upd (zwr F wp wg wv wc la wc) (zwn F wp wg wc wc) (zchk (zwr F wp wg wv wc la wc) (zwn F wp wg wc wc))) a) (nI k)) mo] at hP hD
        refine zc_loopH (α := Nat) (fun a H locs ls => lv_has ls 7 [(3, .int (nI a)), (2, .int (nI (zwn F wp wg wc wc + 1))), (1, .ref bla), (0, .ref h)] ∧ va_P (dC, dI) vwCl [(h, .inr (8, [.int 0, .int (nI fm), .ref bL, .ref bF, .ref bS, .ref bN, .int (nI wc), .ref bwp, .ref bwg, .ref bwv, .int (nI mn), .ref bmo, .int (nI rn), .ref brd, .int (nI tn), .ref bty, .int mm, .int (nI sgn), .ref bsg, .int (nI fc), .ref bpf, .ref bpg, .ref bpv, .int u, .int (nI lb), .ref blF, .ref blP, .ref blD, .ref blN, .ref bwn, .int lat, .ref bla])), (bF, .inl (cZ, 100, .inl F)), (bwp, .inl (cI, 6, .inl wp)), (bwg, .inl (cI, 6, .inl wg)), (bwv, .inl (cJ, 6, .inr (.inl wv))), (bmo, .inl (cI, 420, .inl (zenc fm (zwn F wp wg wc wc + 1) (fun a k => zbt ((upd (zwr F wp wg wv wc la wc) (zwn F wp wg wc wc) (zchk (zwr F wp wg wv wc la wc) (zwn F wp wg wc wc))) a) (nI k)) mo a 0))), (bla, .inl (cI, 61, .inl (upd (zwr F wp wg wv wc la wc) (zwn F wp wg wc wc) (zchk (zwr F wp wg wv wc la wc) (zwn F wp wg wc wc)))))] H ∧ va_D A [(h, .inr (8, [.int 0, .int (nI fm), .ref bL, .ref bF, .ref bS, .ref bN, .int (nI wc), .ref bwp, .ref bwg, .ref bwv, .int (nI mn), .ref bmo, .int (nI rn), .ref brd, .int (nI tn), .ref bty, .int mm, .int (nI sgn), .ref bsg, .int (nI fc), .ref bpf, .ref bpg, .ref bpv, .int u, .int (nI lb), .ref blF, .ref blP, .ref blD, .ref blN, .ref bwn, .int lat, .ref bla])), (bF, .inl (cZ, 100, .inl F)), (bwp, .inl (cI, 6, .inl wp)), (bwg, .inl (cI, 6, .inl wg)), (bwv, .inl (cJ, 6, .inr (.inl wv))), (bmo, .inl (cI, 420, .inl (zenc fm (zwn F wp wg wc wc + 1) (fun a k => zbt ((upd (zwr F wp wg wv wc la wc) (zwn F wp wg wc wc) (zchk (zwr F wp wg wv wc la wc) (zwn F wp wg wc wc))) a) (nI k)) mo a 0))), (bla, .inl (cI, 61, .inl (upd (zwr F wp wg wv wc la wc) (zwn F wp wg wc wc) (zchk (zwr F wp wg wv wc la wc) (zwn F wp wg wc wc)))))] ∧ va_S A s.heap H locs ∧ (a ≤ zwn F wp wg wc wc + 1)) (fun a => zwn F wp wg wc wc + 1 - a) 0 ⟨lv_sub hl [0, 1, 2, 3] rfl, by exact hP, by exact hD, hS, Nat.zero_le _⟩ ?_
        intro x H locs ls hI ih194
        obtain ⟨a, rfl⟩ : ∃ z, z = x := ⟨_, rfl⟩
        obtain ⟨hl, hP, hD, hS, ha1⟩ := hI
        have hl : lv_has ls 7 [(3, .int (nI a)), (2, .int (nI (zwn F wp wg wc wc + 1))), (1, .ref bla), (0, .ref h)] := hl
        have hP : va_P (dC, dI) vwCl [(h, .inr (8, [.int 0, .int (nI fm), .ref bL, .ref bF, .ref bS, .ref bN, .int (nI wc), .ref bwp, .ref bwg, .ref bwv, .int (nI mn), .ref bmo, .int (nI rn), .ref brd, .int (nI tn), .ref bty, .int mm, .int (nI sgn), .ref bsg, .int (nI fc), .ref bpf, .ref bpg, .ref bpv, .int u, .int (nI lb), .ref blF, .ref blP, .ref blD, .ref blN, .ref bwn, .int lat, .ref bla])), (bF, .inl (cZ, 100, .inl F)), (bwp, .inl (cI, 6, .inl wp)), (bwg, .inl (cI, 6, .inl wg)), (bwv, .inl (cJ, 6, .inr (.inl wv))), (bmo, .inl (cI, 420, .inl (zenc fm (zwn F wp wg wc wc + 1) (fun a k => zbt ((upd (zwr F wp wg wv wc la wc) (zwn F wp wg wc wc) (zchk (zwr F wp wg wv wc la wc) (zwn F wp wg wc wc))) a) (nI k)) mo a 0))), (bla, .inl (cI, 61, .inl (upd (zwr F wp wg wv wc la wc) (zwn F wp wg wc wc) (zchk (zwr F wp wg wv wc la wc) (zwn F wp wg wc wc)))))] H := hP
        have hD : va_D A [(h, .inr (8, [.int 0, .int (nI fm), .ref bL, .ref bF, .ref bS, .ref bN, .int (nI wc), .ref bwp, .ref bwg, .ref bwv, .int (nI mn), .ref bmo, .int (nI rn), .ref brd, .int (nI tn), .ref bty, .int mm, .int (nI sgn), .ref bsg, .int (nI fc), .ref bpf, .ref bpg, .ref bpv, .int u, .int (nI lb), .ref blF, .ref blP, .ref blD, .ref blN, .ref bwn, .int lat, .ref bla])), (bF, .inl (cZ, 100, .inl F)), (bwp, .inl (cI, 6, .inl wp)), (bwg, .inl (cI, 6, .inl wg)), (bwv, .inl (cJ, 6, .inr (.inl wv))), (bmo, .inl (cI, 420, .inl (zenc fm (zwn F wp wg wc wc + 1) (fun a k => zbt ((upd (zwr F wp wg wv wc la wc) (zwn F wp wg wc wc) (zchk (zwr F wp wg wv wc la wc) (zwn F wp wg wc wc))) a) (nI k)) mo a 0))), (bla, .inl (cI, 61, .inl (upd (zwr F wp wg wv wc la wc) (zwn F wp wg wc wc) (zchk (zwr F wp wg wv wc la wc) (zwn F wp wg wc wc)))))] := hD
        try dsimp only at ih194
        refine lv_iload_n hx hb dX7_make_194 rfl (lv_at hl 0 rfl) ?_
        refine lv_iload_n hx hb dX7_make_195 rfl (lv_at hl 1 rfl) ?_
        refine lv_icmp_ge (tgt := 244) hx hb dX7_make_196 (by decide) (fun c196 => ?_) (fun c196 => ?_)
        · have hgea := zn_le c196 (by omega) (by omega)
          have haw : a = zwn F wp wg wc wc + 1 := by omega
          rw [haw] at hP hD hl
          refine lv_aload_n hx hb dX7_make_244 rfl (lv_at hl 3 rfl) ?_
          refine lv_iload_n hx hb dX7_make_245 rfl (lv_at hl 1 rfl) ?_
          refine lv_aload_n hx hb dX7_make_246 rfl (lv_at hl 3 rfl) ?_
          refine zc_callR (va_runV (As := []) (rest := [.int (nI (zwn F wp wg wc wc + 1)), .ref h]) ⟨hx, hb, hml, hown, hts⟩ (c_X7_width l dC dI cI cZ cJ h 0 fm bL bF bS bN wc bwp bwg bwv mn bmo rn brd tn bty mm sgn bsg fc bpf bpg bpv u lb blF blP blD blN bwn lat bla hf) (zc_V 0 hts ggX7_make_X7_width rfl rfl rfl (by decide +kernel) (by decide +kernel) ⟨Nat.le_of_ble_eq_true rfl, Nat.le_of_ble_eq_true rfl⟩) ⟨zc_blind, va_recv hK hP (ci := 8) (q0 := 0) rfl rfl, zc_pay (hP.sub (ws' := [(h, .inr (8, [.int 0, .int (nI fm), .ref bL, .ref bF, .ref bS, .ref bN, .int (nI wc), .ref bwp, .ref bwg, .ref bwv, .int (nI mn), .ref bmo, .int (nI rn), .ref brd, .int (nI tn), .ref bty, .int mm, .int (nI sgn), .ref bsg, .int (nI fc), .ref bpf, .ref bpg, .ref bpv, .int u, .int (nI lb), .ref blF, .ref blP, .ref blD, .ref blN, .ref bwn, .int lat, .ref bla]))]) [0] rfl) hK⟩ rfl rfl hl.1 rfl (lv_room (Nat.le_of_ble_eq_true rfl)) dX7_make_247 ⟨Nat.le_of_ble_eq_true rfl, Nat.le_of_ble_eq_true rfl⟩) ?_
          refine lv_imul hx hb dX7_make_250 ?_
          refine zc_ti (y := nI ((zwn F wp wg wc wc + 1) * zw fm)) (pk_mul _ _) ?_
          refine va_put (D := (dC, dI)) (ci := 8) (v := .int (nI ((zwn F wp wg wc wc + 1) * zw fm))) (ty := .int) (C := RX7) (T := TX7) (N := 32) hx hb hts hinX7 tyX7 tyX7_ok nmX7 hown hK hP hD hS 0 rfl rfl 10 (by decide) (hts (.fieldLink RX7 40 "ScanCodesModel" "made" "I") (by decide +kernel)) (fun _ h9 => h9) rfl (by decide +kernel) rfl rfl (Nat.le_of_ble_eq_true rfl) dX7_make_251 (fun H locs hP hD hS => ?_)
          have hP : va_P (dC, dI) vwCl [(h, .inr (8, [.int 0, .int (nI fm), .ref bL, .ref bF, .ref bS, .ref bN, .int (nI wc), .ref bwp, .ref bwg, .ref bwv, .int (nI ((zwn F wp wg wc wc + 1) * zw fm)), .ref bmo, .int (nI rn), .ref brd, .int (nI tn), .ref bty, .int mm, .int (nI sgn), .ref bsg, .int (nI fc), .ref bpf, .ref bpg, .ref bpv, .int u, .int (nI lb), .ref blF, .ref blP, .ref blD, .ref blN, .ref bwn, .int lat, .ref bla])), (bF, .inl (cZ, 100, .inl F)), (bwp, .inl (cI, 6, .inl wp)), (bwg, .inl (cI, 6, .inl wg)), (bwv, .inl (cJ, 6, .inr (.inl wv))), (bmo, .inl (cI, 420, .inl (zenc fm (zwn F wp wg wc wc + 1) (fun a k => zbt ((upd (zwr F wp wg wv wc la wc) (zwn F wp wg wc wc) (zchk (zwr F wp wg wv wc la wc) (zwn F wp wg wc wc))) a) (nI k)) mo (zwn F wp wg wc wc + 1) 0))), (bla, .inl (cI, 61, .inl (upd (zwr F wp wg wv wc la wc) (zwn F wp wg wc wc) (zchk (zwr F wp wg wv wc la wc) (zwn F wp wg wc wc)))))] H := hP
          have hD : va_D A [(h, .inr (8, [.int 0, .int (nI fm), .ref bL, .ref bF, .ref bS, .ref bN, .int (nI wc), .ref bwp, .ref bwg, .ref bwv, .int (nI ((zwn F wp wg wc wc + 1) * zw fm)), .ref bmo, .int (nI rn), .ref brd, .int (nI tn), .ref bty, .int mm, .int (nI sgn), .ref bsg, .int (nI fc), .ref bpf, .ref bpg, .ref bpv, .int u, .int (nI lb), .ref blF, .ref blP, .ref blD, .ref blN, .ref bwn, .int lat, .ref bla])), (bF, .inl (cZ, 100, .inl F)), (bwp, .inl (cI, 6, .inl wp)), (bwg, .inl (cI, 6, .inl wg)), (bwv, .inl (cJ, 6, .inr (.inl wv))), (bmo, .inl (cI, 420, .inl (zenc fm (zwn F wp wg wc wc + 1) (fun a k => zbt ((upd (zwr F wp wg wv wc la wc) (zwn F wp wg wc wc) (zchk (zwr F wp wg wv wc la wc) (zwn F wp wg wc wc))) a) (nI k)) mo (zwn F wp wg wc wc + 1) 0))), (bla, .inl (cI, 61, .inl (upd (zwr F wp wg wv wc la wc) (zwn F wp wg wc wc) (zchk (zwr F wp wg wv wc la wc) (zwn F wp wg wc wc)))))] := hD
          refine lv_aload_n hx hb dX7_make_254 rfl (lv_at hl 3 rfl) ?_
          refine va_get (D := (dC, dI)) (ci := 8) (v := .int (nI ((zwn F wp wg wc wc + 1) * zw fm))) (C := RX7) (T := TX7) (N := 32) hx hb hts hinX7 hown hK hP 0 rfl rfl 10 (by decide) (hts (.fieldLink RX7 40 "ScanCodesModel" "made" "I") (by decide +kernel)) (fun _ h9 => h9) rfl dX7_make_255 ?_
          have hex : ze_make wc (zwn F wp wg wc wc) = 0 := by unfold ze_make; rw [zi_f hne, zi_t hle]
          have hP9 : va_P (dC, dI) vwCl [(h, .inr (8, [.int (nI (ze_make wc (zwn F wp wg wc wc))), .int (nI fm), .ref bL, .ref bF, .ref bS, .ref bN, .int (nI wc), .ref bwp, .ref bwg, .ref bwv, .int (nI (zi (ze_make wc (zwn F wp wg wc wc) = 0) ((zwn F wp wg wc wc + 1) * zw fm) (mn))), .ref bmo, .int (nI rn), .ref brd, .int (nI tn), .ref bty, .int mm, .int (nI sgn), .ref bsg, .int (nI fc), .ref bpf, .ref bpg, .ref bpv, .int u, .int (nI lb), .ref blF, .ref blP, .ref blD, .ref blN, .ref bwn, .int lat, .ref bla])), (bF, .inl (cZ, 100, .inl F)), (bwp, .inl (cI, 6, .inl wp)), (bwg, .inl (cI, 6, .inl wg)), (bwv, .inl (cJ, 6, .inr (.inl wv))), (bmo, .inl (cI, 420, .inl (zi (ze_make wc (zwn F wp wg wc wc) = 0) (zenc fm (zwn F wp wg wc wc + 1) (fun a k => zbt ((upd (zwr F wp wg wv wc la wc) (zwn F wp wg wc wc) (zchk (zwr F wp wg wv wc la wc) (zwn F wp wg wc wc))) a) (nI k)) mo (zwn F wp wg wc wc + 1) 0) (mo)))), (bla, .inl (cI, 61, .inl (zi (ze_make wc (zwn F wp wg wc wc) = 0) (upd (zwr F wp wg wv wc la wc) (zwn F wp wg wc wc) (zchk (zwr F wp wg wv wc la wc) (zwn F wp wg wc wc))) (la))))] H := by simp only [hex, zi0, zi1, zi2, zi3, zi_t (P := True) trivial, zi_f (P := False) id]; exact hP
          have hD9 : va_D A [(h, .inr (8, [.int (nI (ze_make wc (zwn F wp wg wc wc))), .int (nI fm), .ref bL, .ref bF, .ref bS, .ref bN, .int (nI wc), .ref bwp, .ref bwg, .ref bwv, .int (nI (zi (ze_make wc (zwn F wp wg wc wc) = 0) ((zwn F wp wg wc wc + 1) * zw fm) (mn))), .ref bmo, .int (nI rn), .ref brd, .int (nI tn), .ref bty, .int mm, .int (nI sgn), .ref bsg, .int (nI fc), .ref bpf, .ref bpg, .ref bpv, .int u, .int (nI lb), .ref blF, .ref blP, .ref blD, .ref blN, .ref bwn, .int lat, .ref bla])), (bF, .inl (cZ, 100, .inl F)), (bwp, .inl (cI, 6, .inl wp)), (bwg, .inl (cI, 6, .inl wg)), (bwv, .inl (cJ, 6, .inr (.inl wv))), (bmo, .inl (cI, 420, .inl (zi (ze_make wc (zwn F wp wg wc wc) = 0) (zenc fm (zwn F wp wg wc wc + 1) (fun a k => zbt ((upd (zwr F wp wg wv wc la wc) (zwn F wp wg wc wc) (zchk (zwr F wp wg wv wc la wc) (zwn F wp wg wc wc))) a) (nI k)) mo (zwn F wp wg wc wc + 1) 0) (mo)))), (bla, .inl (cI, 61, .inl (zi (ze_make wc (zwn F wp wg wc wc) = 0) (upd (zwr F wp wg wv wc la wc) (zwn F wp wg wc wc) (zchk (zwr F wp wg wv wc la wc) (zwn F wp wg wc wc))) (la))))] := by simp only [hex, zi0, zi1, zi2, zi3, zi_t (P := True) trivial, zi_f (P := False) id]; exact hD
          have hres : (nI ((zwn F wp wg wc wc + 1) * zw fm)) = zi (ze_make wc (zwn F wp wg wc wc) = 0) (nI ((zwn F wp wg wc wc + 1) * zw fm)) 0 := by simp only [hex, zi0, zi1, zi2, zi3, zi_t (P := True) trivial, zi_f (P := False) id]
          exact W.iret (v := nI ((zwn F wp wg wc wc + 1) * zw fm)) hx hb hr (fun t ht hW => ⟨⟨_, (), rfl, hres, by rw [ht]; exact hP9, va_K.moved hW.alike hK, hD9⟩, hS.F ht⟩) hS.2.2 dX7_make_258
        · have hlta := zn_nle c196 (by omega) (by omega)
          refine lv_iconst (v := 0) hx hb dX7_make_199 (by decide) ?_
          refine lv_istore (lv' := [(4, .int 0), (3, .int (nI a)), (2, .int (nI (zwn F wp wg wc wc + 1))), (1, .ref bla), (0, .ref h)]) hx hb dX7_make_200 hl (by decide) rfl (fun ls hl => ?_)
          refine zc_loopH (α := Nat) (fun b H locs ls => lv_has ls 7 [(4, .int (nI b)), (3, .int (nI a)), (2, .int (nI (zwn F wp wg wc wc + 1))), (1, .ref bla), (0, .ref h)] ∧ va_P (dC, dI) vwCl [(h, .inr (8, [.int 0, .int (nI fm), .ref bL, .ref bF, .ref bS, .ref bN, .int (nI wc), .ref bwp, .ref bwg, .ref bwv, .int (nI mn), .ref bmo, .int (nI rn), .ref brd, .int (nI tn), .ref bty, .int mm, .int (nI sgn), .ref bsg, .int (nI fc), .ref bpf, .ref bpg, .ref bpv, .int u, .int (nI lb), .ref blF, .ref blP, .ref blD, .ref blN, .ref bwn, .int lat, .ref bla])), (bF, .inl (cZ, 100, .inl F)), (bwp, .inl (cI, 6, .inl wp)), (bwg, .inl (cI, 6, .inl wg)), (bwv, .inl (cJ, 6, .inr (.inl wv))), (bmo, .inl (cI, 420, .inl (zenc fm (zwn F wp wg wc wc + 1) (fun a k => zbt ((upd (zwr F wp wg wv wc la wc) (zwn F wp wg wc wc) (zchk (zwr F wp wg wv wc la wc) (zwn F wp wg wc wc))) a) (nI k)) mo a b))), (bla, .inl (cI, 61, .inl (upd (zwr F wp wg wv wc la wc) (zwn F wp wg wc wc) (zchk (zwr F wp wg wv wc la wc) (zwn F wp wg wc wc)))))] H ∧ va_D A [(h, .inr (8, [.int 0, .int (nI fm), .ref bL, .ref bF, .ref bS, .ref bN, .int (nI wc), .ref bwp, .ref bwg, .ref bwv, .int (nI mn), .ref bmo, .int (nI rn), .ref brd, .int (nI tn), .ref bty, .int mm, .int (nI sgn), .ref bsg, .int (nI fc), .ref bpf, .ref bpg, .ref bpv, .int u, .int (nI lb), .ref blF, .ref blP, .ref blD, .ref blN, .ref bwn, .int lat, .ref bla])), (bF, .inl (cZ, 100, .inl F)), (bwp, .inl (cI, 6, .inl wp)), (bwg, .inl (cI, 6, .inl wg)), (bwv, .inl (cJ, 6, .inr (.inl wv))), (bmo, .inl (cI, 420, .inl (zenc fm (zwn F wp wg wc wc + 1) (fun a k => zbt ((upd (zwr F wp wg wv wc la wc) (zwn F wp wg wc wc) (zchk (zwr F wp wg wv wc la wc) (zwn F wp wg wc wc))) a) (nI k)) mo a b))), (bla, .inl (cI, 61, .inl (upd (zwr F wp wg wv wc la wc) (zwn F wp wg wc wc) (zchk (zwr F wp wg wv wc la wc) (zwn F wp wg wc wc)))))] ∧ va_S A s.heap H locs ∧ (b ≤ zw fm)) (fun b => zw fm - b) 0 ⟨lv_sub hl [0, 1, 2, 3, 4] rfl, by exact hP, by exact hD, hS, Nat.zero_le _⟩ ?_
          intro x H locs ls hI ih202
          obtain ⟨b, rfl⟩ : ∃ z, z = x := ⟨_, rfl⟩
          obtain ⟨hl, hP, hD, hS, hb1⟩ := hI
          have hl : lv_has ls 7 [(4, .int (nI b)), (3, .int (nI a)), (2, .int (nI (zwn F wp wg wc wc + 1))), (1, .ref bla), (0, .ref h)] := hl
          have hP : va_P (dC, dI) vwCl [(h, .inr (8, [.int 0, .int (nI fm), .ref bL, .ref bF, .ref bS, .ref bN, .int (nI wc), .ref bwp, .ref bwg, .ref bwv, .int (nI mn), .ref bmo, .int (nI rn), .ref brd, .int (nI tn), .ref bty, .int mm, .int (nI sgn), .ref bsg, .int (nI fc), .ref bpf, .ref bpg, .ref bpv, .int u, .int (nI lb), .ref blF, .ref blP, .ref blD, .ref blN, .ref bwn, .int lat, .ref bla])), (bF, .inl (cZ, 100, .inl F)), (bwp, .inl (cI, 6, .inl wp)), (bwg, .inl (cI, 6, .inl wg)), (bwv, .inl (cJ, 6, .inr (.inl wv))), (bmo, .inl (cI, 420, .inl (zenc fm (zwn F wp wg wc wc + 1) (fun a k => zbt ((upd (zwr F wp wg wv wc la wc) (zwn F wp wg wc wc) (zchk (zwr F wp wg wv wc la wc) (zwn F wp wg wc wc))) a) (nI k)) mo a b))), (bla, .inl (cI, 61, .inl (upd (zwr F wp wg wv wc la wc) (zwn F wp wg wc wc) (zchk (zwr F wp wg wv wc la wc) (zwn F wp wg wc wc)))))] H := hP
          have hD : va_D A [(h, .inr (8, [.int 0, .int (nI fm), .ref bL, .ref bF, .ref bS, .ref bN, .int (nI wc), .ref bwp, .ref bwg, .ref bwv, .int (nI mn), .ref bmo, .int (nI rn), .ref brd, .int (nI tn), .ref bty, .int mm, .int (nI sgn), .ref bsg, .int (nI fc), .ref bpf, .ref bpg, .ref bpv, .int u, .int (nI lb), .ref blF, .ref blP, .ref blD, .ref blN, .ref bwn, .int lat, .ref bla])), (bF, .inl (cZ, 100, .inl F)), (bwp, .inl (cI, 6, .inl wp)), (bwg, .inl (cI, 6, .inl wg)), (bwv, .inl (cJ, 6, .inr (.inl wv))), (bmo, .inl (cI, 420, .inl (zenc fm (zwn F wp wg wc wc + 1) (fun a k => zbt ((upd (zwr F wp wg wv wc la wc) (zwn F wp wg wc wc) (zchk (zwr F wp wg wv wc la wc) (zwn F wp wg wc wc))) a) (nI k)) mo a b))), (bla, .inl (cI, 61, .inl (upd (zwr F wp wg wv wc la wc) (zwn F wp wg wc wc) (zchk (zwr F wp wg wv wc la wc) (zwn F wp wg wc wc)))))] := hD
          try dsimp only at ih202
          refine lv_iload hx hb dX7_make_202 (lv_at hl 0 rfl) ?_
          refine lv_aload_n hx hb dX7_make_204 rfl (lv_at hl 4 rfl) ?_
          refine zc_callR (va_runV (As := []) (rest := [.int (nI b)]) ⟨hx, hb, hml, hown, hts⟩ (c_X7_width l dC dI cI cZ cJ h 0 fm bL bF bS bN wc bwp bwg bwv mn bmo rn brd tn bty mm sgn bsg fc bpf bpg bpv u lb blF blP blD blN bwn lat bla hf) (zc_V 0 hts ggX7_make_X7_width rfl rfl rfl (by decide +kernel) (by decide +kernel) ⟨Nat.le_of_ble_eq_true rfl, Nat.le_of_ble_eq_true rfl⟩) ⟨zc_blind, va_recv hK hP (ci := 8) (q0 := 0) rfl rfl, zc_pay (hP.sub (ws' := [(h, .inr (8, [.int 0, .int (nI fm), .ref bL, .ref bF, .ref bS, .ref bN, .int (nI wc), .ref bwp, .ref bwg, .ref bwv, .int (nI mn), .ref bmo, .int (nI rn), .ref brd, .int (nI tn), .ref bty, .int mm, .int (nI sgn), .ref bsg, .int (nI fc), .ref bpf, .ref bpg, .ref bpv, .int u, .int (nI lb), .ref blF, .ref blP, .ref blD, .ref blN, .ref bwn, .int lat, .ref bla]))]) [0] rfl) hK⟩ rfl rfl hl.1 rfl (lv_room (Nat.le_of_ble_eq_true rfl)) dX7_make_205 ⟨Nat.le_of_ble_eq_true rfl, Nat.le_of_ble_eq_true rfl⟩) ?_
          refine lv_icmp_ge (tgt := 238) hx hb dX7_make_208 (by decide) (fun c208 => ?_) (fun c208 => ?_)
          · have hgeb := zn_le c208 (by omega) (by omega)
            have hbw : b = zw fm := by omega
            rw [hbw, zenc_s] at hP hD
            rw [hbw] at hl
            refine lv_iinc (v := nI (a + 1)) (lv' := [(3, .int (nI (a + 1))), (4, .int (nI (zw fm))), (2, .int (nI (zwn F wp wg wc wc + 1))), (1, .ref bla), (0, .ref h)]) hx hb dX7_make_238 hl (k := 1) rfl (nI_1 a) (by decide) rfl (fun ls hl => ?_)
            refine lv_goto (tgt := 194) hx hb dX7_make_241 (by decide) ?_
            exact ih194 (a + 1) _ _ _ (by omega) ⟨lv_sub hl [0, 2, 3, 4] rfl, by first | exact hP | exact hP.sub [0, 1, 2, 3, 4, 5, 6] rfl, by first | exact hD, hS, hlta⟩
          · have hltb := zn_nle c208 (by omega) (by omega)
            have hpl := zpl_lt hlta hltb
            have hp9 : zpl fm a b (zwn F wp wg wc wc + 1) < 420 := by omega
            refine lv_aload_n hx hb dX7_make_211 rfl (lv_at hl 4 rfl) ?_
            refine va_get (D := (dC, dI)) (ci := 8) (v := .ref bmo) (C := RX7) (T := TX7) (N := 32) hx hb hts hinX7 hown hK hP 0 rfl rfl 11 (by decide) (hts (.fieldLink RX7 43 "ScanCodesModel" "modules" "[I") (by decide +kernel)) (fun _ h9 => h9) rfl dX7_make_212 ?_
            refine lv_aload_n hx hb dX7_make_215 rfl (lv_at hl 4 rfl) ?_
            refine lv_iload_n hx hb dX7_make_216 rfl (lv_at hl 1 rfl) ?_
            refine lv_iload hx hb dX7_make_217 (lv_at hl 0 rfl) ?_
            refine lv_iload_n hx hb dX7_make_219 rfl (lv_at hl 2 rfl) ?_
            refine zc_callR (va_runV (As := [.int (nI a), .int (nI b), .int (nI (zwn F wp wg wc wc + 1))]) (rest := [.ref bmo]) ⟨hx, hb, hml, hown, hts⟩ (c_X7_place l dC dI cI cZ cJ h 0 fm bL bF bS bN wc bwp bwg bwv mn bmo rn brd tn bty mm sgn bsg fc bpf bpg bpv u lb blF blP blD blN bwn lat bla a b (zwn F wp wg wc wc + 1) hf) (zc_V 3 hts ggX7_make_X7_place rfl rfl rfl (by decide +kernel) (by decide +kernel) ⟨Nat.le_of_ble_eq_true rfl, Nat.le_of_ble_eq_true rfl⟩) ⟨zc_blind, va_recv hK hP (ci := 8) (q0 := 0) rfl rfl, zc_pay (hP.sub (ws' := [(h, .inr (8, [.int 0, .int (nI fm), .ref bL, .ref bF, .ref bS, .ref bN, .int (nI wc), .ref bwp, .ref bwg, .ref bwv, .int (nI mn), .ref bmo, .int (nI rn), .ref brd, .int (nI tn), .ref bty, .int mm, .int (nI sgn), .ref bsg, .int (nI fc), .ref bpf, .ref bpg, .ref bpv, .int u, .int (nI lb), .ref blF, .ref blP, .ref blD, .ref blN, .ref bwn, .int lat, .ref bla]))]) [0] rfl) hK⟩ rfl rfl hl.1 rfl (lv_room (Nat.le_of_ble_eq_true rfl)) dX7_make_220 ⟨Nat.le_of_ble_eq_true rfl, Nat.le_of_ble_eq_true rfl⟩) ?_
            refine lv_aload_n hx hb dX7_make_223 rfl (lv_at hl 3 rfl) ?_
            refine lv_iload_n hx hb dX7_make_224 rfl (lv_at hl 1 rfl) ?_
            refine zc_iald hx hb hK hP 6 0 rfl rfl a rfl (by first | assumption | omega) (by decide) dX7_make_225 ?_
            refine lv_iload hx hb dX7_make_226 (lv_at hl 0 rfl) ?_
            refine zc_callR (va_runS (As := [.int ((upd (zwr F wp wg wv wc la wc) (zwn F wp wg wc wc) (zchk (zwr F wp wg wv wc la wc) (zwn F wp wg wc wc))) a), .int (nI b)]) (rest := [.int (nI (zpl fm a b (zwn F wp wg wc wc + 1))), .ref bmo]) ⟨hx, hb, hml, hown, hts⟩ (c_X7_bit l dC dI cI cZ cJ ((upd (zwr F wp wg wv wc la wc) (zwn F wp wg wc wc) (zchk (zwr F wp wg wv wc la wc) (zwn F wp wg wc wc))) a) (nI b)) (zc_S 2 hts ggX7_make_X7_bit rfl rfl rfl (by decide +kernel) (by decide +kernel) ⟨Nat.le_of_ble_eq_true rfl, Nat.le_of_ble_eq_true rfl⟩) ⟨zc_blind, zc_pay (hP.sub (ws' := []) [] rfl) hK⟩ rfl rfl hl.1 rfl (lv_room (Nat.le_of_ble_eq_true rfl)) dX7_make_228 ⟨Nat.le_of_ble_eq_true rfl, Nat.le_of_ble_eq_true rfl⟩) ?_
            refine zc_iast hx hb hK hP hD hS 5 0 rfl rfl (zpl fm a b (zwn F wp wg wc wc + 1)) rfl (by first | assumption | omega) (by decide) dX7_make_231 (fun H locs hP hD hS => ?_)
            have hP : va_P (dC, dI) vwCl [(h, .inr (8, [.int 0, .int (nI fm), .ref bL, .ref bF, .ref bS, .ref bN, .int (nI wc), .ref bwp, .ref bwg, .ref bwv, .int (nI mn), .ref bmo, .int (nI rn), .ref brd, .int (nI tn), .ref bty, .int mm, .int (nI sgn), .ref bsg, .int (nI fc), .ref bpf, .ref bpg, .ref bpv, .int u, .int (nI lb), .ref blF, .ref blP, .ref blD, .ref blN, .ref bwn, .int lat, .ref bla])), (bF, .inl (cZ, 100, .inl F)), (bwp, .inl (cI, 6, .inl wp)), (bwg, .inl (cI, 6, .inl wg)), (bwv, .inl (cJ, 6, .inr (.inl wv))), (bmo, .inl (cI, 420, .inl (upd (zenc fm (zwn F wp wg wc wc + 1) (fun a k => zbt ((upd (zwr F wp wg wv wc la wc) (zwn F wp wg wc wc) (zchk (zwr F wp wg wv wc la wc) (zwn F wp wg wc wc))) a) (nI k)) mo a b) (zpl fm a b (zwn F wp wg wc wc + 1)) (zbt ((upd (zwr F wp wg wv wc la wc) (zwn F wp wg wc wc) (zchk (zwr F wp wg wv wc la wc) (zwn F wp wg wc wc))) a) (nI b))))), (bla, .inl (cI, 61, .inl (upd (zwr F wp wg wv wc la wc) (zwn F wp wg wc wc) (zchk (zwr F wp wg wv wc la wc) (zwn F wp wg wc wc)))))] H := hP
            have hD : va_D A [(h, .inr (8, [.int 0, .int (nI fm), .ref bL, .ref bF, .ref bS, .ref bN, .int (nI wc), .ref bwp, .ref bwg, .ref bwv, .int (nI mn), .ref bmo, .int (nI rn), .ref brd, .int (nI tn), .ref bty, .int mm, .int (nI sgn), .ref bsg, .int (nI fc), .ref bpf, .ref bpg, .ref bpv, .int u, .int (nI lb), .ref blF, .ref blP, .ref blD, .ref blN, .ref bwn, .int lat, .ref bla])), (bF, .inl (cZ, 100, .inl F)), (bwp, .inl (cI, 6, .inl wp)), (bwg, .inl (cI, 6, .inl wg)), (bwv, .inl (cJ, 6, .inr (.inl wv))), (bmo, .inl (cI, 420, .inl (upd (zenc fm (zwn F wp wg wc wc + 1) (fun a k => zbt ((upd (zwr F wp wg wv wc la wc) (zwn F wp wg wc wc) (zchk (zwr F wp wg wv wc la wc) (zwn F wp wg wc wc))) a) (nI k)) mo a b) (zpl fm a b (zwn F wp wg wc wc + 1)) (zbt ((upd (zwr F wp wg wv wc la wc) (zwn F wp wg wc wc) (zchk (zwr F wp wg wv wc la wc) (zwn F wp wg wc wc))) a) (nI b))))), (bla, .inl (cI, 61, .inl (upd (zwr F wp wg wv wc la wc) (zwn F wp wg wc wc) (zchk (zwr F wp wg wv wc la wc) (zwn F wp wg wc wc)))))] := hD
            refine lv_iinc (v := nI (b + 1)) (lv' := [(4, .int (nI (b + 1))), (3, .int (nI a)), (2, .int (nI (zwn F wp wg wc wc + 1))), (1, .ref bla), (0, .ref h)]) hx hb dX7_make_232 hl (k := 0) rfl (nI_1 b) (by decide) rfl (fun ls hl => ?_)
            refine lv_goto (tgt := 202) hx hb dX7_make_235 (by decide) ?_
            have e0 := zenc_k (fun a k => zbt ((upd (zwr F wp wg wv wc la wc) (zwn F wp wg wc wc) (zchk (zwr F wp wg wv wc la wc) (zwn F wp wg wc wc))) a) (nI k)) mo hlta hltb
            rw [e0] at hP hD
            exact ih202 (b + 1) _ _ _ (by omega) ⟨lv_sub hl [0, 1, 2, 3, 4] rfl, by first | exact hP | exact hP.sub [0, 1, 2, 3, 4, 5, 6] rfl, by first | exact hD, hS, hltb⟩
      · have hltk := zn_nle c52 (by omega) (by omega)
        have hj := hwj k hltk
        have hup := zwn_up2 F wp wg hltk
        have hup9 : zwn F wp wg wc k + 2 + zdg wg k ≤ 59 := by omega
        refine lv_aload_n hx hb dX7_make_55 rfl (lv_at hl 2 rfl) ?_
        refine lv_iload_n hx hb dX7_make_56 rfl (lv_at hl 1 rfl) ?_
        refine lv_aload_n hx hb dX7_make_57 rfl (lv_at hl 3 rfl) ?_
        refine va_get (D := (dC, dI)) (ci := 8) (v := .ref bwp) (C := RX7) (T := TX7) (N := 32) hx hb hts hinX7 hown hK hP 0 rfl rfl 7 (by decide) (hts (.fieldLink RX7 30 "ScanCodesModel" "writtenPrefix" "[I") (by decide +kernel)) (fun _ h9 => h9) rfl dX7_make_58 ?_
        refine lv_iload_n hx hb dX7_make_61 rfl (lv_at hl 0 rfl) ?_
        refine zc_iald hx hb hK hP 2 0 rfl rfl k rfl (by first | assumption | omega) (by decide) dX7_make_62 ?_
        refine lv_bipush (v := 10) hx hb dX7_make_63 (by decide) ?_
        refine lv_idiv hx hb dX7_make_65 (by decide) ?_
        refine zc_iast hx hb hK hP hD hS 6 0 rfl rfl (zwn F wp wg wc k) rfl (by first | assumption | omega) (by decide) dX7_make_66 (fun H locs hP hD hS => ?_)
        have hP : va_P (dC, dI) vwCl [(h, .inr (8, [.int 0, .int (nI fm), .ref bL, .ref bF, .ref bS, .ref bN, .int (nI wc), .ref bwp, .ref bwg, .ref bwv, .int (nI mn), .ref bmo, .int (nI rn), .ref brd, .int (nI tn), .ref bty, .int mm, .int (nI sgn), .ref bsg, .int (nI fc), .ref bpf, .ref bpg, .ref bpv, .int u, .int (nI lb), .ref blF, .ref blP, .ref blD, .ref blN, .ref bwn, .int lat, .ref bla])), (bF, .inl (cZ, 100, .inl F)), (bwp, .inl (cI, 6, .inl wp)), (bwg, .inl (cI, 6, .inl wg)), (bwv, .inl (cJ, 6, .inr (.inl wv))), (bmo, .inl (cI, 420, .inl mo)), (bla, .inl (cI, 61, .inl (upd (zwr F wp wg wv wc la k) (zwn F wp wg wc k) ((wp k) / 10))))] H := hP
        have hD : va_D A [(h, .inr (8, [.int 0, .int (nI fm), .ref bL, .ref bF, .ref bS, .ref bN, .int (nI wc), .ref bwp, .ref bwg, .ref bwv, .int (nI mn), .ref bmo, .int (nI rn), .ref brd, .int (nI tn), .ref bty, .int mm, .int (nI sgn), .ref bsg, .int (nI fc), .ref bpf, .ref bpg, .ref bpv, .int u, .int (nI lb), .ref blF, .ref blP, .ref blD, .ref blN, .ref bwn, .int lat, .ref bla])), (bF, .inl (cZ, 100, .inl F)), (bwp, .inl (cI, 6, .inl wp)), (bwg, .inl (cI, 6, .inl wg)), (bwv, .inl (cJ, 6, .inr (.inl wv))), (bmo, .inl (cI, 420, .inl mo)), (bla, .inl (cI, 61, .inl (upd (zwr F wp wg wv wc la k) (zwn F wp wg wc k) ((wp k) / 10))))] := hD
        refine lv_aload_n hx hb dX7_make_67 rfl (lv_at hl 2 rfl) ?_
        refine lv_iload_n hx hb dX7_make_68 rfl (lv_at hl 1 rfl) ?_
        refine lv_iconst (v := 1) hx hb dX7_make_69 (by decide) ?_
        refine lv_iadd hx hb dX7_make_70 ?_
        refine zc_ti (y := nI (zwn F wp wg wc k + 1)) (nI_1 _) ?_
        refine lv_aload_n hx hb dX7_make_71 rfl (lv_at hl 3 rfl) ?_
        refine va_get (D := (dC, dI)) (ci := 8) (v := .ref bwp) (C := RX7) (T := TX7) (N := 32) hx hb hts hinX7 hown hK hP 0 rfl rfl 7 (by decide) (hts (.fieldLink RX7 30 "ScanCodesModel" "writtenPrefix" "[I") (by decide +kernel)) (fun _ h9 => h9) rfl dX7_make_72 ?_
        refine lv_iload_n hx hb dX7_make_75 rfl (lv_at hl 0 rfl) ?_
        refine zc_iald hx hb hK hP 2 0 rfl rfl k rfl (by first | assumption | omega) (by decide) dX7_make_76 ?_
        refine lv_bipush (v := 10) hx hb dX7_make_77 (by decide) ?_
        refine lv_irem hx hb dX7_make_79 (by decide) ?_
        refine zc_iast hx hb hK hP hD hS 6 0 rfl rfl (zwn F wp wg wc k + 1) rfl (by first | assumption | omega) (by decide) dX7_make_80 (fun H locs hP hD hS => ?_)
        have hP : va_P (dC, dI) vwCl [(h, .inr (8, [.int 0, .int (nI fm), .ref bL, .ref bF, .ref bS, .ref bN, .int (nI wc), .ref bwp, .ref bwg, .ref bwv, .int (nI mn), .ref bmo, .int (nI rn), .ref brd, .int (nI tn), .ref bty, .int mm, .int (nI sgn), .ref bsg, .int (nI fc), .ref bpf, .ref bpg, .ref bpv, .int u, .int (nI lb), .ref blF, .ref blP, .ref blD, .ref blN, .ref bwn, .int lat, .ref bla])), (bF, .inl (cZ, 100, .inl F)), (bwp, .inl (cI, 6, .inl wp)), (bwg, .inl (cI, 6, .inl wg)), (bwv, .inl (cJ, 6, .inr (.inl wv))), (bmo, .inl (cI, 420, .inl mo)), (bla, .inl (cI, 61, .inl (upd (upd (zwr F wp wg wv wc la k) (zwn F wp wg wc k) ((wp k) / 10)) (zwn F wp wg wc k + 1) ((wp k) - (wp k) / 10 * 10))))] H := hP
        have hD : va_D A [(h, .inr (8, [.int 0, .int (nI fm), .ref bL, .ref bF, .ref bS, .ref bN, .int (nI wc), .ref bwp, .ref bwg, .ref bwv, .int (nI mn), .ref bmo, .int (nI rn), .ref brd, .int (nI tn), .ref bty, .int mm, .int (nI sgn), .ref bsg, .int (nI fc), .ref bpf, .ref bpg, .ref bpv, .int u, .int (nI lb), .ref blF, .ref blP, .ref blD, .ref blN, .ref bwn, .int lat, .ref bla])), (bF, .inl (cZ, 100, .inl F)), (bwp, .inl (cI, 6, .inl wp)), (bwg, .inl (cI, 6, .inl wg)), (bwv, .inl (cJ, 6, .inr (.inl wv))), (bmo, .inl (cI, 420, .inl mo)), (bla, .inl (cI, 61, .inl (upd (upd (zwr F wp wg wv wc la k) (zwn F wp wg wc k) ((wp k) / 10)) (zwn F wp wg wc k + 1) ((wp k) - (wp k) / 10 * 10))))] := hD
        refine lv_iinc (v := nI (zwn F wp wg wc k + 2)) (lv' := [(2, .int (nI (zwn F wp wg wc k + 2))), (3, .int (nI k)), (1, .ref bla), (0, .ref h)]) hx hb dX7_make_81 hl (k := 1) rfl ((nI_add _ 2)) (by decide) rfl (fun ls hl => ?_)
        rw [zr_an2 _ _ hj.1.1 hj.1.2.2] at hP hD
        refine lv_aload_n hx hb dX7_make_84 rfl (lv_at hl 3 rfl) ?_
        refine va_get (D := (dC, dI)) (ci := 8) (v := .ref bwv) (C := RX7) (T := TX7) (N := 32) hx hb hts hinX7 hown hK hP 0 rfl rfl 9 (by decide) (hts (.fieldLink RX7 36 "ScanCodesModel" "writtenNumber" "[J") (by decide +kernel)) (fun _ h9 => h9) rfl dX7_make_85 ?_
        refine lv_iload_n hx hb dX7_make_88 rfl (lv_at hl 1 rfl) ?_
        refine zc_lald hx hb hK hP 4 2 rfl rfl k rfl (by first | assumption | omega) (by decide) dX7_make_89 ?_
        refine lv_lstore (lv' := [(4, .long (wv k)), (2, .int (nI (zwn F wp wg wc k + 2))), (3, .int (nI k)), (1, .ref bla), (0, .ref h)]) hx hb dX7_make_90 hl (by decide) rfl (fun ls hl => ?_)
        refine lv_aload_n hx hb dX7_make_92 rfl (lv_at hl 4 rfl) ?_
        refine va_get (D := (dC, dI)) (ci := 8) (v := .ref bwg) (C := RX7) (T := TX7) (N := 32) hx hb hts hinX7 hown hK hP 0 rfl rfl 8 (by decide) (hts (.fieldLink RX7 33 "ScanCodesModel" "writtenDigits" "[I") (by decide +kernel)) (fun _ h9 => h9) rfl dX7_make_93 ?_
        refine lv_iload_n hx hb dX7_make_96 rfl (lv_at hl 2 rfl) ?_
        refine zc_iald hx hb hK hP 3 0 rfl rfl k rfl (by first | assumption | omega) (by decide) dX7_make_97 ?_
        refine zc_ti (y := nI (zdg wg k)) (hj.2.1) ?_
        refine lv_iconst (v := 1) hx hb dX7_make_98 (by decide) ?_
        refine lv_isub hx hb dX7_make_99 ?_
        refine lv_istore (lv' := [(6, .int ((nI (zdg wg k)) - 1)), (4, .long (wv k)), (2, .int (nI (zwn F wp wg wc k + 2))), (3, .int (nI k)), (1, .ref bla), (0, .ref h)]) hx hb dX7_make_100 hl (by decide) rfl (fun ls hl => ?_)
        rw [← zr_anM_0 (zr_an (zwr F wp wg wv wc la k) (zwn F wp wg wc k) 2 (wp k).toInt64) (zwn F wp wg wc k + 2) (zdg wg k) (wv k)] at hP hD
        refine zc_loopH (α := Nat) (fun q H locs ls => lv_has ls 7 [(6, .int (nI (zdg wg k - q) - 1)), (4, .long (zr_q (wv k) q)), (2, .int (nI (zwn F wp wg wc k + 2))), (3, .int (nI k)), (1, .ref bla), (0, .ref h)] ∧ va_P (dC, dI) vwCl [(h, .inr (8, [.int 0, .int (nI fm), .ref bL, .ref bF, .ref bS, .ref bN, .int (nI wc), .ref bwp, .ref bwg, .ref bwv, .int (nI mn), .ref bmo, .int (nI rn), .ref brd, .int (nI tn), .ref bty, .int mm, .int (nI sgn), .ref bsg, .int (nI fc), .ref bpf, .ref bpg, .ref bpv, .int u, .int (nI lb), .ref blF, .ref blP, .ref blD, .ref blN, .ref bwn, .int lat, .ref bla])), (bF, .inl (cZ, 100, .inl F)), (bwp, .inl (cI, 6, .inl wp)), (bwg, .inl (cI, 6, .inl wg)), (bwv, .inl (cJ, 6, .inr (.inl wv))), (bmo, .inl (cI, 420, .inl mo)), (bla, .inl (cI, 61, .inl (zr_anM (zr_an (zwr F wp wg wv wc la k) (zwn F wp wg wc k) 2 (wp k).toInt64) (zwn F wp wg wc k + 2) (zdg wg k) (wv k) q)))] H ∧ va_D A [(h, .inr (8, [.int 0, .int (nI fm), .ref bL, .ref bF, .ref bS, .ref bN, .int (nI wc), .ref bwp, .ref bwg, .ref bwv, .int (nI mn), .ref bmo, .int (nI rn), .ref brd, .int (nI tn), .ref bty, .int mm, .int (nI sgn), .ref bsg, .int (nI fc), .ref bpf, .ref bpg, .ref bpv, .int u, .int (nI lb), .ref blF, .ref blP, .ref blD, .ref blN, .ref bwn, .int lat, .ref bla])), (bF, .inl (cZ, 100, .inl F)), (bwp, .inl (cI, 6, .inl wp)), (bwg, .inl (cI, 6, .inl wg)), (bwv, .inl (cJ, 6, .inr (.inl wv))), (bmo, .inl (cI, 420, .inl mo)), (bla, .inl (cI, 61, .inl (zr_anM (zr_an (zwr F wp wg wv wc la k) (zwn F wp wg wc k) 2 (wp k).toInt64) (zwn F wp wg wc k + 2) (zdg wg k) (wv k) q)))] ∧ va_S A s.heap H locs ∧ (q ≤ zdg wg k)) (fun q => zdg wg k - q) 0 ⟨lv_sub hl [0, 1, 2, 3, 4, 5] rfl, by exact hP, by exact hD, hS, Nat.zero_le _⟩ ?_
        intro x H locs ls hI ih102
        obtain ⟨q, rfl⟩ : ∃ z, z = x := ⟨_, rfl⟩
        obtain ⟨hl, hP, hD, hS, hq1⟩ := hI
        have hl : lv_has ls 7 [(6, .int (nI (zdg wg k - q) - 1)), (4, .long (zr_q (wv k) q)), (2, .int (nI (zwn F wp wg wc k + 2))), (3, .int (nI k)), (1, .ref bla), (0, .ref h)] := hl
        have hP : va_P (dC, dI) vwCl [(h, .inr (8, [.int 0, .int (nI fm), .ref bL, .ref bF, .ref bS, .ref bN, .int (nI wc), .ref bwp, .ref bwg, .ref bwv, .int (nI mn), .ref bmo, .int (nI rn), .ref brd, .int (nI tn), .ref bty, .int mm, .int (nI sgn), .ref bsg, .int (nI fc), .ref bpf, .ref bpg, .ref bpv, .int u, .int (nI lb), .ref blF, .ref blP, .ref blD, .ref blN, .ref bwn, .int lat, .ref bla])), (bF, .inl (cZ, 100, .inl F)), (bwp, .inl (cI, 6, .inl wp)), (bwg, .inl (cI, 6, .inl wg)), (bwv, .inl (cJ, 6, .inr (.inl wv))), (bmo, .inl (cI, 420, .inl mo)), (bla, .inl (cI, 61, .inl (zr_anM (zr_an (zwr F wp wg wv wc la k) (zwn F wp wg wc k) 2 (wp k).toInt64) (zwn F wp wg wc k + 2) (zdg wg k) (wv k) q)))] H := hP
        have hD : va_D A [(h, .inr (8, [.int 0, .int (nI fm), .ref bL, .ref bF, .ref bS, .ref bN, .int (nI wc), .ref bwp, .ref bwg, .ref bwv, .int (nI mn), .ref bmo, .int (nI rn), .ref brd, .int (nI tn), .ref bty, .int mm, .int (nI sgn), .ref bsg, .int (nI fc), .ref bpf, .ref bpg, .ref bpv, .int u, .int (nI lb), .ref blF, .ref blP, .ref blD, .ref blN, .ref bwn, .int lat, .ref bla])), (bF, .inl (cZ, 100, .inl F)), (bwp, .inl (cI, 6, .inl wp)), (bwg, .inl (cI, 6, .inl wg)), (bwv, .inl (cJ, 6, .inr (.inl wv))), (bmo, .inl (cI, 420, .inl mo)), (bla, .inl (cI, 61, .inl (zr_anM (zr_an (zwr F wp wg wv wc la k) (zwn F wp wg wc k) 2 (wp k).toInt64) (zwn F wp wg wc k + 2) (zdg wg k) (wv k) q)))] := hD
        try dsimp only at ih102
        refine lv_iload hx hb dX7_make_102 (lv_at hl 0 rfl) ?_
        refine lv_if_lt (tgt := 134) hx hb dX7_make_104 (by decide) (fun c104 => ?_) (fun c104 => ?_)
        · have hqz := zn_predlt (b := 0) c104 (by omega) (by decide)
          have hqd : q = zdg wg k := by omega
          rw [hqd, zr_anM_e] at hP hD
          rw [hqd] at hl
          refine lv_iload_n hx hb dX7_make_134 rfl (lv_at hl 2 rfl) ?_
          refine lv_aload_n hx hb dX7_make_135 rfl (lv_at hl 5 rfl) ?_
          refine va_get (D := (dC, dI)) (ci := 8) (v := .ref bwg) (C := RX7) (T := TX7) (N := 32) hx hb hts hinX7 hown hK hP 0 rfl rfl 8 (by decide) (hts (.fieldLink RX7 33 "ScanCodesModel" "writtenDigits" "[I") (by decide +kernel)) (fun _ h9 => h9) rfl dX7_make_136 ?_
          refine lv_iload_n hx hb dX7_make_139 rfl (lv_at hl 3 rfl) ?_
          refine zc_iald hx hb hK hP 3 0 rfl rfl k rfl (by first | assumption | omega) (by decide) dX7_make_140 ?_
          refine zc_ti (y := nI (zdg wg k)) (hj.2.1) ?_
          refine lv_iadd hx hb dX7_make_141 ?_
          refine zc_ti (y := nI (zwn F wp wg wc k + 2 + zdg wg k)) (nI_add _ _) ?_
          refine lv_istore_n (lv' := [(2, .int (nI (zwn F wp wg wc k + 2 + zdg wg k))), (6, .int (nI (zdg wg k - zdg wg k) - 1)), (4, .long (zr_q (wv k) (zdg wg k))), (3, .int (nI k)), (1, .ref bla), (0, .ref h)]) hx hb dX7_make_142 rfl hl (by decide) rfl (fun ls hl => ?_)
          refine lv_iload_n hx hb dX7_make_143 rfl (lv_at hl 3 rfl) ?_
          refine lv_iconst (v := 1) hx hb dX7_make_144 (by decide) ?_
          refine lv_iadd hx hb dX7_make_145 ?_
          refine zc_ti (y := nI (k + 1)) (nI_1 k) ?_
          refine lv_aload_n hx hb dX7_make_146 rfl (lv_at hl 5 rfl) ?_
          refine va_get (D := (dC, dI)) (ci := 8) (v := .int (nI wc)) (C := RX7) (T := TX7) (N := 32) hx hb hts hinX7 hown hK hP 0 rfl rfl 6 (by decide) (hts (.fieldLink RX7 27 "ScanCodesModel" "written" "I") (by decide +kernel)) (fun _ h9 => h9) rfl dX7_make_147 ?_
          refine lv_icmp_ge (tgt := 175) hx hb dX7_make_150 (by decide) (fun c150 => ?_) (fun c150 => ?_)
          · have hns : ¬ zsep F wp wc k := fun q9 => by have := zn_le c150 (by omega) (by omega); have := q9.1; omega
            have hz1 : zwn F wp wg wc (k + 1) = zwn F wp wg wc k + 2 + zdg wg k := by rw [zwn, zi_f hns]; rfl
            rw [← hz1] at hl
            refine lv_iinc (v := nI (k + 1)) (lv' := [(3, .int (nI (k + 1))), (2, .int (nI (zwn F wp wg wc (k + 1)))), (6, .int (nI (zdg wg k - zdg wg k) - 1)), (4, .long (zr_q (wv k) (zdg wg k))), (1, .ref bla), (0, .ref h)]) hx hb dX7_make_175 hl (k := 3) rfl (nI_1 k) (by decide) rfl (fun ls hl => ?_)
            refine lv_goto (tgt := 47) hx hb dX7_make_178 (by decide) ?_
            rw [← zwr_f hns] at hP hD
            exact ih47 (k + 1) _ _ _ (by omega) ⟨lv_sub hl [0, 1, 4, 5] rfl, by first | exact hP | exact hP.sub [0, 1, 2, 3, 4, 5, 6] rfl, by first | exact hD, hS, hltk⟩
          · have hlt2 := zn_nle c150 (by omega) (by omega)
            refine lv_aload_n hx hb dX7_make_153 rfl (lv_at hl 5 rfl) ?_
            refine va_get (D := (dC, dI)) (ci := 8) (v := .ref bF) (C := RX7) (T := TX7) (N := 32) hx hb hts hinX7 hown hK hP 0 rfl rfl 3 (by decide) (hts (.fieldLink RX7 17 "ScanCodesModel" "fixed" "[Z") (by decide +kernel)) (fun _ h9 => h9) rfl dX7_make_154 ?_
            refine lv_aload_n hx hb dX7_make_157 rfl (lv_at hl 5 rfl) ?_
            refine va_get (D := (dC, dI)) (ci := 8) (v := .ref bwp) (C := RX7) (T := TX7) (N := 32) hx hb hts hinX7 hown hK hP 0 rfl rfl 7 (by decide) (hts (.fieldLink RX7 30 "ScanCodesModel" "writtenPrefix" "[I") (by decide +kernel)) (fun _ h9 => h9) rfl dX7_make_158 ?_
            refine lv_iload_n hx hb dX7_make_161 rfl (lv_at hl 3 rfl) ?_
            refine zc_iald hx hb hK hP 2 0 rfl rfl k rfl (by first | assumption | omega) (by decide) dX7_make_162 ?_
            refine zc_zald hx hb hK hP 1 1 rfl rfl ((wp k).toNatClampNeg) hj.1.1 hj.1.2.2 (by decide) dX7_make_163 ?_
            refine lv_if_ne (tgt := 175) hx hb dX7_make_164 (by decide) (fun c164 => ?_) (fun c164 => ?_)
            · have hns : ¬ zsep F wp wc k := fun q9 => c164 q9.2
              have hz1 : zwn F wp wg wc (k + 1) = zwn F wp wg wc k + 2 + zdg wg k := by rw [zwn, zi_f hns]; rfl
              rw [← hz1] at hl
              refine lv_iinc (v := nI (k + 1)) (lv' := [(3, .int (nI (k + 1))), (2, .int (nI (zwn F wp wg wc (k + 1)))), (6, .int (nI (zdg wg k - zdg wg k) - 1)), (4, .long (zr_q (wv k) (zdg wg k))), (1, .ref bla), (0, .ref h)]) hx hb dX7_make_175 hl (k := 3) rfl (nI_1 k) (by decide) rfl (fun ls hl => ?_)
              refine lv_goto (tgt := 47) hx hb dX7_make_178 (by decide) ?_
              rw [← zwr_f hns] at hP hD
              exact ih47 (k + 1) _ _ _ (by omega) ⟨lv_sub hl [0, 1, 4, 5] rfl, by first | exact hP | exact hP.sub [0, 1, 2, 3, 4, 5, 6] rfl, by first | exact hD, hS, hltk⟩
            · have hsp : zsep F wp wc k := ⟨hlt2, c164⟩
              refine lv_aload_n hx hb dX7_make_167 rfl (lv_at hl 4 rfl) ?_
              refine lv_iload_n hx hb dX7_make_168 rfl (lv_at hl 0 rfl) ?_
              refine lv_bipush (v := 10) hx hb dX7_make_169 (by decide) ?_
              refine zc_iast hx hb hK hP hD hS 6 0 rfl rfl (zwn F wp wg wc k + 2 + zdg wg k) rfl (by first | assumption | omega) (by decide) dX7_make_171 (fun H locs hP hD hS => ?_)
              have hP : va_P (dC, dI) vwCl [(h, .inr (8, [.int 0, .int (nI fm), .ref bL, .ref bF, .ref bS, .ref bN, .int (nI wc), .ref bwp, .ref bwg, .ref bwv, .int (nI mn), .ref bmo, .int (nI rn), .ref brd, .int (nI tn), .ref bty, .int mm, .int (nI sgn), .ref bsg, .int (nI fc), .ref bpf, .ref bpg, .ref bpv, .int u, .int (nI lb), .ref blF, .ref blP, .ref blD, .ref blN, .ref bwn, .int lat, .ref bla])), (bF, .inl (cZ, 100, .inl F)), (bwp, .inl (cI, 6, .inl wp)), (bwg, .inl (cI, 6, .inl wg)), (bwv, .inl (cJ, 6, .inr (.inl wv))), (bmo, .inl (cI, 420, .inl mo)), (bla, .inl (cI, 61, .inl (upd (zr_an (zr_an (zwr F wp wg wv wc la k) (zwn F wp wg wc k) 2 (wp k).toInt64) (zwn F wp wg wc k + 2) (zdg wg k) (wv k)) (zwn F wp wg wc k + 2 + zdg wg k) 10)))] H := hP
              have hD : va_D A [(h, .inr (8, [.int 0, .int (nI fm), .ref bL, .ref bF, .ref bS, .ref bN, .int (nI wc), .ref bwp, .ref bwg, .ref bwv, .int (nI mn), .ref bmo, .int (nI rn), .ref brd, .int (nI tn), .ref bty, .int mm, .int (nI sgn), .ref bsg, .int (nI fc), .ref bpf, .ref bpg, .ref bpv, .int u, .int (nI lb), .ref blF, .ref blP, .ref blD, .ref blN, .ref bwn, .int lat, .ref bla])), (bF, .inl (cZ, 100, .inl F)), (bwp, .inl (cI, 6, .inl wp)), (bwg, .inl (cI, 6, .inl wg)), (bwv, .inl (cJ, 6, .inr (.inl wv))), (bmo, .inl (cI, 420, .inl mo)), (bla, .inl (cI, 61, .inl (upd (zr_an (zr_an (zwr F wp wg wv wc la k) (zwn F wp wg wc k) 2 (wp k).toInt64) (zwn F wp wg wc k + 2) (zdg wg k) (wv k)) (zwn F wp wg wc k + 2 + zdg wg k) 10)))] := hD
              refine lv_iinc (v := nI (zwn F wp wg wc (k + 1))) (lv' := [(2, .int (nI (zwn F wp wg wc (k + 1)))), (6, .int (nI (zdg wg k - zdg wg k) - 1)), (4, .long (zr_q (wv k) (zdg wg k))), (3, .int (nI k)), (1, .ref bla), (0, .ref h)]) hx hb dX7_make_172 hl (k := 0) rfl (by rw [zwn, zi_t hsp]; exact nI_1 _) (by decide) rfl (fun ls hl => ?_)
              refine lv_iinc (v := nI (k + 1)) (lv' := [(3, .int (nI (k + 1))), (2, .int (nI (zwn F wp wg wc (k + 1)))), (6, .int (nI (zdg wg k - zdg wg k) - 1)), (4, .long (zr_q (wv k) (zdg wg k))), (1, .ref bla), (0, .ref h)]) hx hb dX7_make_175 hl (k := 3) rfl (nI_1 k) (by decide) rfl (fun ls hl => ?_)
              refine lv_goto (tgt := 47) hx hb dX7_make_178 (by decide) ?_
              rw [← zwr_t hsp] at hP hD
              exact ih47 (k + 1) _ _ _ (by omega) ⟨lv_sub hl [0, 1, 4, 5] rfl, by first | exact hP | exact hP.sub [0, 1, 2, 3, 4, 5, 6] rfl, by first | exact hD, hS, hltk⟩
        · have hltq0 := zn_npredlt (b := 0) c104 (by omega) (by decide)
          have hltq : q < zdg wg k := by omega
          refine lv_aload_n hx hb dX7_make_107 rfl (lv_at hl 4 rfl) ?_
          refine lv_iload_n hx hb dX7_make_108 rfl (lv_at hl 2 rfl) ?_
          refine lv_iload hx hb dX7_make_109 (lv_at hl 0 rfl) ?_
          refine lv_iadd hx hb dX7_make_111 ?_
          refine zc_ti (y := nI (zwn F wp wg wc k + 2 + (zdg wg k - 1 - q))) (by rw [zn_pred (by omega), nI_add]; congr 1; omega) ?_
          refine lv_lload hx hb dX7_make_112 (lv_at hl 1 rfl) ?_
          refine lv_ldc2 (v := 10) hx hb hown (hts (.constantLong RX7 132 10) (by decide +kernel)) dX7_make_114 ?_
          refine lv_lrem hx hb dX7_make_117 (by decide) ?_
          refine lv_l2i hx hb dX7_make_118 rfl ?_
          refine zc_ti (y := zr_dig (wv k) q) rfl ?_
          refine zc_iast hx hb hK hP hD hS 6 0 rfl rfl (zwn F wp wg wc k + 2 + (zdg wg k - 1 - q)) rfl (by first | assumption | omega) (by decide) dX7_make_119 (fun H locs hP hD hS => ?_)
          have hP : va_P (dC, dI) vwCl [(h, .inr (8, [.int 0, .int (nI fm), .ref bL, .ref bF, .ref bS, .ref bN, .int (nI wc), .ref bwp, .ref bwg, .ref bwv, .int (nI mn), .ref bmo, .int (nI rn), .ref brd, .int (nI tn), .ref bty, .int mm, .int (nI sgn), .ref bsg, .int (nI fc), .ref bpf, .ref bpg, .ref bpv, .int u, .int (nI lb), .ref blF, .ref blP, .ref blD, .ref blN, .ref bwn, .int lat, .ref bla])), (bF, .inl (cZ, 100, .inl F)), (bwp, .inl (cI, 6, .inl wp)), (bwg, .inl (cI, 6, .inl wg)), (bwv, .inl (cJ, 6, .inr (.inl wv))), (bmo, .inl (cI, 420, .inl mo)), (bla, .inl (cI, 61, .inl (upd (zr_anM (zr_an (zwr F wp wg wv wc la k) (zwn F wp wg wc k) 2 (wp k).toInt64) (zwn F wp wg wc k + 2) (zdg wg k) (wv k) q) (zwn F wp wg wc k + 2 + (zdg wg k - 1 - q)) (zr_dig (wv k) q))))] H := hP
          have hD : va_D A [(h, .inr (8, [.int 0, .int (nI fm), .ref bL, .ref bF, .ref bS, .ref bN, .int (nI wc), .ref bwp, .ref bwg, .ref bwv, .int (nI mn), .ref bmo, .int (nI rn), .ref brd, .int (nI tn), .ref bty, .int mm, .int (nI sgn), .ref bsg, .int (nI fc), .ref bpf, .ref bpg, .ref bpv, .int u, .int (nI lb), .ref blF, .ref blP, .ref blD, .ref blN, .ref bwn, .int lat, .ref bla])), (bF, .inl (cZ, 100, .inl F)), (bwp, .inl (cI, 6, .inl wp)), (bwg, .inl (cI, 6, .inl wg)), (bwv, .inl (cJ, 6, .inr (.inl wv))), (bmo, .inl (cI, 420, .inl mo)), (bla, .inl (cI, 61, .inl (upd (zr_anM (zr_an (zwr F wp wg wv wc la k) (zwn F wp wg wc k) 2 (wp k).toInt64) (zwn F wp wg wc k + 2) (zdg wg k) (wv k) q) (zwn F wp wg wc k + 2 + (zdg wg k - 1 - q)) (zr_dig (wv k) q))))] := hD
          refine lv_lload hx hb dX7_make_120 (lv_at hl 1 rfl) ?_
          refine lv_ldc2 (v := 10) hx hb hown (hts (.constantLong RX7 132 10) (by decide +kernel)) dX7_make_122 ?_
          refine lv_ldiv hx hb dX7_make_125 (by decide) ?_
          refine lv_lstore (lv' := [(4, .long ((zr_q (wv k) q) / 10)), (6, .int (nI (zdg wg k - q) - 1)), (2, .int (nI (zwn F wp wg wc k + 2))), (3, .int (nI k)), (1, .ref bla), (0, .ref h)]) hx hb dX7_make_126 hl (by decide) rfl (fun ls hl => ?_)
          refine lv_iinc (v := nI (zdg wg k - (q + 1)) - 1) (lv' := [(6, .int (nI (zdg wg k - (q + 1)) - 1)), (4, .long ((zr_q (wv k) q) / 10)), (2, .int (nI (zwn F wp wg wc k + 2))), (3, .int (nI k)), (1, .ref bla), (0, .ref h)]) hx hb dX7_make_128 hl (k := 1) rfl (by rw [zn_dec (by omega)]; congr 2) (by decide) rfl (fun ls hl => ?_)
          refine lv_goto (tgt := 102) hx hb dX7_make_131 (by decide) ?_
          rw [zr_anM_s _ _ hltq] at hP hD
          exact ih102 (q + 1) _ _ _ (by omega) ⟨lv_sub hl [0, 1, 2, 3, 4, 5] rfl, by first | exact hP | exact hP.sub [0, 1, 2, 3, 4, 5, 6] rfl, by first | exact hD, hS, hltq⟩
    · have hgt := zn_nle (b := 60) c18 (by omega) (by decide)
      refine lv_iconst (v := 2) hx hb dX7_make_21 (by decide) ?_
      refine lv_goto (tgt := 26) hx hb dX7_make_22 (by decide) ?_
      refine va_put (D := (dC, dI)) (ci := 8) (v := .int 2) (ty := .int) (C := RX7) (T := TX7) (N := 32) hx hb hts hinX7 tyX7 tyX7_ok nmX7 hown hK hP hD hS 0 rfl rfl 0 (by decide) (hts (.fieldLink RX7 7 "ScanCodesModel" "thrownCode" "I") (by decide +kernel)) (fun _ h9 => h9) rfl (by decide +kernel) rfl rfl (Nat.le_of_ble_eq_true rfl) dX7_make_26 (fun H locs hP hD hS => ?_)
      have hP : va_P (dC, dI) vwCl [(h, .inr (8, [.int 2, .int (nI fm), .ref bL, .ref bF, .ref bS, .ref bN, .int (nI wc), .ref bwp, .ref bwg, .ref bwv, .int (nI mn), .ref bmo, .int (nI rn), .ref brd, .int (nI tn), .ref bty, .int mm, .int (nI sgn), .ref bsg, .int (nI fc), .ref bpf, .ref bpg, .ref bpv, .int u, .int (nI lb), .ref blF, .ref blP, .ref blD, .ref blN, .ref bwn, .int lat, .ref bla])), (bF, .inl (cZ, 100, .inl F)), (bwp, .inl (cI, 6, .inl wp)), (bwg, .inl (cI, 6, .inl wg)), (bwv, .inl (cJ, 6, .inr (.inl wv))), (bmo, .inl (cI, 420, .inl mo)), (bla, .inl (cI, 61, .inl la))] H := hP
      have hD : va_D A [(h, .inr (8, [.int 2, .int (nI fm), .ref bL, .ref bF, .ref bS, .ref bN, .int (nI wc), .ref bwp, .ref bwg, .ref bwv, .int (nI mn), .ref bmo, .int (nI rn), .ref brd, .int (nI tn), .ref bty, .int mm, .int (nI sgn), .ref bsg, .int (nI fc), .ref bpf, .ref bpg, .ref bpv, .int u, .int (nI lb), .ref blF, .ref blP, .ref blD, .ref blN, .ref bwn, .int lat, .ref bla])), (bF, .inl (cZ, 100, .inl F)), (bwp, .inl (cI, 6, .inl wp)), (bwg, .inl (cI, 6, .inl wg)), (bwv, .inl (cJ, 6, .inr (.inl wv))), (bmo, .inl (cI, 420, .inl mo)), (bla, .inl (cI, 61, .inl la))] := hD
      refine lv_aload_n hx hb dX7_make_29 rfl (lv_at hl 0 rfl) ?_
      refine va_get (D := (dC, dI)) (ci := 8) (v := .int 2) (C := RX7) (T := TX7) (N := 32) hx hb hts hinX7 hown hK hP 0 rfl rfl 0 (by decide) (hts (.fieldLink RX7 7 "ScanCodesModel" "thrownCode" "I") (by decide +kernel)) (fun _ h9 => h9) rfl dX7_make_30 ?_
      refine lv_if_eq (tgt := 38) hx hb dX7_make_33 (by decide) (fun c33 => absurd c33 (by decide)) (fun c33 => ?_)
      refine lv_iconst (v := 0) hx hb dX7_make_36 (by decide) ?_
      have hex : ze_make wc (zwn F wp wg wc wc) = 2 := by unfold ze_make; rw [zi_f hne, zi_f (by omega)]
      have hP9 : va_P (dC, dI) vwCl [(h, .inr (8, [.int (nI (ze_make wc (zwn F wp wg wc wc))), .int (nI fm), .ref bL, .ref bF, .ref bS, .ref bN, .int (nI wc), .ref bwp, .ref bwg, .ref bwv, .int (nI (zi (ze_make wc (zwn F wp wg wc wc) = 0) ((zwn F wp wg wc wc + 1) * zw fm) (mn))), .ref bmo, .int (nI rn), .ref brd, .int (nI tn), .ref bty, .int mm, .int (nI sgn), .ref bsg, .int (nI fc), .ref bpf, .ref bpg, .ref bpv, .int u, .int (nI lb), .ref blF, .ref blP, .ref blD, .ref blN, .ref bwn, .int lat, .ref bla])), (bF, .inl (cZ, 100, .inl F)), (bwp, .inl (cI, 6, .inl wp)), (bwg, .inl (cI, 6, .inl wg)), (bwv, .inl (cJ, 6, .inr (.inl wv))), (bmo, .inl (cI, 420, .inl (zi (ze_make wc (zwn F wp wg wc wc) = 0) (zenc fm (zwn F wp wg wc wc + 1) (fun a k => zbt ((upd (zwr F wp wg wv wc la wc) (zwn F wp wg wc wc) (zchk (zwr F wp wg wv wc la wc) (zwn F wp wg wc wc))) a) (nI k)) mo (zwn F wp wg wc wc + 1) 0) (mo)))), (bla, .inl (cI, 61, .inl (zi (ze_make wc (zwn F wp wg wc wc) = 0) (upd (zwr F wp wg wv wc la wc) (zwn F wp wg wc wc) (zchk (zwr F wp wg wv wc la wc) (zwn F wp wg wc wc))) (la))))] H := by simp only [hex, zi0, zi1, zi2, zi3, zi_t (P := True) trivial, zi_f (P := False) id]; exact hP
      have hD9 : va_D A [(h, .inr (8, [.int (nI (ze_make wc (zwn F wp wg wc wc))), .int (nI fm), .ref bL, .ref bF, .ref bS, .ref bN, .int (nI wc), .ref bwp, .ref bwg, .ref bwv, .int (nI (zi (ze_make wc (zwn F wp wg wc wc) = 0) ((zwn F wp wg wc wc + 1) * zw fm) (mn))), .ref bmo, .int (nI rn), .ref brd, .int (nI tn), .ref bty, .int mm, .int (nI sgn), .ref bsg, .int (nI fc), .ref bpf, .ref bpg, .ref bpv, .int u, .int (nI lb), .ref blF, .ref blP, .ref blD, .ref blN, .ref bwn, .int lat, .ref bla])), (bF, .inl (cZ, 100, .inl F)), (bwp, .inl (cI, 6, .inl wp)), (bwg, .inl (cI, 6, .inl wg)), (bwv, .inl (cJ, 6, .inr (.inl wv))), (bmo, .inl (cI, 420, .inl (zi (ze_make wc (zwn F wp wg wc wc) = 0) (zenc fm (zwn F wp wg wc wc + 1) (fun a k => zbt ((upd (zwr F wp wg wv wc la wc) (zwn F wp wg wc wc) (zchk (zwr F wp wg wv wc la wc) (zwn F wp wg wc wc))) a) (nI k)) mo (zwn F wp wg wc wc + 1) 0) (mo)))), (bla, .inl (cI, 61, .inl (zi (ze_make wc (zwn F wp wg wc wc) = 0) (upd (zwr F wp wg wv wc la wc) (zwn F wp wg wc wc) (zchk (zwr F wp wg wv wc la wc) (zwn F wp wg wc wc))) (la))))] := by simp only [hex, zi0, zi1, zi2, zi3, zi_t (P := True) trivial, zi_f (P := False) id]; exact hD
      have hres : (0 : Int32) = zi (ze_make wc (zwn F wp wg wc wc) = 0) (nI ((zwn F wp wg wc wc + 1) * zw fm)) 0 := by simp only [hex, zi0, zi1, zi2, zi3, zi_t (P := True) trivial, zi_f (P := False) id]
      exact W.iret (v := 0) hx hb hr (fun t ht hW => ⟨⟨_, (), rfl, hres, by rw [ht]; exact hP9, va_K.moved hW.alike hK, hD9⟩, hS.F ht⟩) hS.2.2 dX7_make_37
  · have heq := zn_eq (b := 0) c5 (by omega) (by decide)
    refine lv_iconst (v := 1) hx hb dX7_make_8 (by decide) ?_
    refine lv_goto (tgt := 26) hx hb dX7_make_9 (by decide) ?_
    refine va_put (D := (dC, dI)) (ci := 8) (v := .int 1) (ty := .int) (C := RX7) (T := TX7) (N := 32) hx hb hts hinX7 tyX7 tyX7_ok nmX7 hown hK hP hD hS 0 rfl rfl 0 (by decide) (hts (.fieldLink RX7 7 "ScanCodesModel" "thrownCode" "I") (by decide +kernel)) (fun _ h9 => h9) rfl (by decide +kernel) rfl rfl (Nat.le_of_ble_eq_true rfl) dX7_make_26 (fun H locs hP hD hS => ?_)
    have hP : va_P (dC, dI) vwCl [(h, .inr (8, [.int 1, .int (nI fm), .ref bL, .ref bF, .ref bS, .ref bN, .int (nI wc), .ref bwp, .ref bwg, .ref bwv, .int (nI mn), .ref bmo, .int (nI rn), .ref brd, .int (nI tn), .ref bty, .int mm, .int (nI sgn), .ref bsg, .int (nI fc), .ref bpf, .ref bpg, .ref bpv, .int u, .int (nI lb), .ref blF, .ref blP, .ref blD, .ref blN, .ref bwn, .int lat, .ref bla])), (bF, .inl (cZ, 100, .inl F)), (bwp, .inl (cI, 6, .inl wp)), (bwg, .inl (cI, 6, .inl wg)), (bwv, .inl (cJ, 6, .inr (.inl wv))), (bmo, .inl (cI, 420, .inl mo)), (bla, .inl (cI, 61, .inl la))] H := hP
    have hD : va_D A [(h, .inr (8, [.int 1, .int (nI fm), .ref bL, .ref bF, .ref bS, .ref bN, .int (nI wc), .ref bwp, .ref bwg, .ref bwv, .int (nI mn), .ref bmo, .int (nI rn), .ref brd, .int (nI tn), .ref bty, .int mm, .int (nI sgn), .ref bsg, .int (nI fc), .ref bpf, .ref bpg, .ref bpv, .int u, .int (nI lb), .ref blF, .ref blP, .ref blD, .ref blN, .ref bwn, .int lat, .ref bla])), (bF, .inl (cZ, 100, .inl F)), (bwp, .inl (cI, 6, .inl wp)), (bwg, .inl (cI, 6, .inl wg)), (bwv, .inl (cJ, 6, .inr (.inl wv))), (bmo, .inl (cI, 420, .inl mo)), (bla, .inl (cI, 61, .inl la))] := hD
    refine lv_aload_n hx hb dX7_make_29 rfl (lv_at hl 0 rfl) ?_
    refine va_get (D := (dC, dI)) (ci := 8) (v := .int 1) (C := RX7) (T := TX7) (N := 32) hx hb hts hinX7 hown hK hP 0 rfl rfl 0 (by decide) (hts (.fieldLink RX7 7 "ScanCodesModel" "thrownCode" "I") (by decide +kernel)) (fun _ h9 => h9) rfl dX7_make_30 ?_
    refine lv_if_eq (tgt := 38) hx hb dX7_make_33 (by decide) (fun c33 => absurd c33 (by decide)) (fun c33 => ?_)
    refine lv_iconst (v := 0) hx hb dX7_make_36 (by decide) ?_
    have hex : ze_make wc (zwn F wp wg wc wc) = 1 := by exact zi_t heq
    have hP9 : va_P (dC, dI) vwCl [(h, .inr (8, [.int (nI (ze_make wc (zwn F wp wg wc wc))), .int (nI fm), .ref bL, .ref bF, .ref bS, .ref bN, .int (nI wc), .ref bwp, .ref bwg, .ref bwv, .int (nI (zi (ze_make wc (zwn F wp wg wc wc) = 0) ((zwn F wp wg wc wc + 1) * zw fm) (mn))), .ref bmo, .int (nI rn), .ref brd, .int (nI tn), .ref bty, .int mm, .int (nI sgn), .ref bsg, .int (nI fc), .ref bpf, .ref bpg, .ref bpv, .int u, .int (nI lb), .ref blF, .ref blP, .ref blD, .ref blN, .ref bwn, .int lat, .ref bla])), (bF, .inl (cZ, 100, .inl F)), (bwp, .inl (cI, 6, .inl wp)), (bwg, .inl (cI, 6, .inl wg)), (bwv, .inl (cJ, 6, .inr (.inl wv))), (bmo, .inl (cI, 420, .inl (zi (ze_make wc (zwn F wp wg wc wc) = 0) (zenc fm (zwn F wp wg wc wc + 1) (fun a k => zbt ((upd (zwr F wp wg wv wc la wc) (zwn F wp wg wc wc) (zchk (zwr F wp wg wv wc la wc) (zwn F wp wg wc wc))) a) (nI k)) mo (zwn F wp wg wc wc + 1) 0) (mo)))), (bla, .inl (cI, 61, .inl (zi (ze_make wc (zwn F wp wg wc wc) = 0) (upd (zwr F wp wg wv wc la wc) (zwn F wp wg wc wc) (zchk (zwr F wp wg wv wc la wc) (zwn F wp wg wc wc))) (la))))] H := by simp only [hex, zi0, zi1, zi2, zi3, zi_t (P := True) trivial, zi_f (P := False) id]; exact hP
    have hD9 : va_D A [(h, .inr (8, [.int (nI (ze_make wc (zwn F wp wg wc wc))), .int (nI fm), .ref bL, .ref bF, .ref bS, .ref bN, .int (nI wc), .ref bwp, .ref bwg, .ref bwv, .int (nI (zi (ze_make wc (zwn F wp wg wc wc) = 0) ((zwn F wp wg wc wc + 1) * zw fm) (mn))), .ref bmo, .int (nI rn), .ref brd, .int (nI tn), .ref bty, .int mm, .int (nI sgn), .ref bsg, .int (nI fc), .ref bpf, .ref bpg, .ref bpv, .int u, .int (nI lb), .ref blF, .ref blP, .ref blD, .ref blN, .ref bwn, .int lat, .ref bla])), (bF, .inl (cZ, 100, .inl F)), (bwp, .inl (cI, 6, .inl wp)), (bwg, .inl (cI, 6, .inl wg)), (bwv, .inl (cJ, 6, .inr (.inl wv))), (bmo, .inl (cI, 420, .inl (zi (ze_make wc (zwn F wp wg wc wc) = 0) (zenc fm (zwn F wp wg wc wc + 1) (fun a k => zbt ((upd (zwr F wp wg wv wc la wc) (zwn F wp wg wc wc) (zchk (zwr F wp wg wv wc la wc) (zwn F wp wg wc wc))) a) (nI k)) mo (zwn F wp wg wc wc + 1) 0) (mo)))), (bla, .inl (cI, 61, .inl (zi (ze_make wc (zwn F wp wg wc wc) = 0) (upd (zwr F wp wg wv wc la wc) (zwn F wp wg wc wc) (zchk (zwr F wp wg wv wc la wc) (zwn F wp wg wc wc))) (la))))] := by simp only [hex, zi0, zi1, zi2, zi3, zi_t (P := True) trivial, zi_f (P := False) id]; exact hD
    have hres : (0 : Int32) = zi (ze_make wc (zwn F wp wg wc wc) = 0) (nI ((zwn F wp wg wc wc + 1) * zw fm)) 0 := by simp only [hex, zi0, zi1, zi2, zi3, zi_t (P := True) trivial, zi_f (P := False) id]
    exact W.iret (v := 0) hx hb hr (fun t ht hW => ⟨⟨_, (), rfl, hres, by rw [ht]; exact hP9, va_K.moved hW.alike hK, hD9⟩, hS.F ht⟩) hS.2.2 dX7_make_37
