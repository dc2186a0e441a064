/-! Pure rows for the law: what class and reference hold in common. -/
theorem zcnt_upd (L : Nat → Int32) {k : Nat} {x : Int32} (hk : 10 ≤ k) (hx : ¬ x ≤ 0) : ∀ n, zcnt (upd L k x) n = zcnt L n + (if k < 10 + n ∧ L k ≤ 0 then 1 else 0) := by
  intro n
  induction n with
  | zero => rw [zcnt, zcnt, if_neg (by omega)]
  | succ n ih =>
    rw [zcnt, zcnt, ih]
    unfold upd
    by_cases q : 10 + n = k
    · subst q
      rw [if_pos rfl, if_neg hx, if_neg (show ¬ (10 + n < 10 + n ∧ L (10 + n) ≤ 0) by omega)]
      by_cases r : L (10 + n) ≤ 0
      · rw [if_pos r, if_pos ⟨by omega, r⟩]
      · rw [if_neg r, if_neg (fun z => r z.2)]
    · rw [if_neg q]
      by_cases r : k < 10 + n ∧ L k ≤ 0
      · rw [if_pos r, if_pos (show k < 10 + (n + 1) ∧ L k ≤ 0 from ⟨by omega, r.2⟩)]; omega
      · rw [if_neg r, if_neg (show ¬ (k < 10 + (n + 1) ∧ L k ≤ 0) from fun z => r ⟨by omega, z.2⟩)]; omega
theorem zl_1 {x : Int32} (h : ¬ x < 1) : ¬ x ≤ 0 := fun q => h (by
  rw [Int32.lt_iff_toInt_lt]; rw [Int32.le_iff_toInt_le] at q
  have : (1 : Int32).toInt = 1 := by decide
  have : (0 : Int32).toInt = 0 := by decide
  omega)
theorem zp_has_is {L : Nat → Int32} {x : Int32} (h : zp_is x) : zp_has L x ↔ ¬ L x.toNatClampNeg ≤ 0 := ⟨fun q => q.2.2, fun q => ⟨h.1, h.2, q⟩⟩
theorem zl_z {L : Nat → Int32} {x len : Int32} (h : zp_is x) (hl : ¬ len < 1) : zi (zp_has L x) (nI (zcnt L 90)) (nI (zcnt L 90) + 1) = nI (zcnt (upd L x.toNatClampNeg len) 90) := by
  have hx := zp_ix h.1 h.2
  rw [zcnt_upd L hx.2.2 (zl_1 hl)]
  by_cases q : zp_has L x
  · rw [zi_t q, if_neg (fun z => ((zp_has_is h).mp q) z.2), Nat.add_zero]
  · rw [zi_f q, if_pos ⟨by omega, Classical.byContradiction (fun z => q ((zp_has_is h).mpr z))⟩, nI_1]
theorem zl_z16 {L : Nat → Int32} {x len : Int32} (h : zp_is x) (hl : ¬ len < 1) (hc : zcnt L 90 ≤ 16) (h2 : zp_has L x ∨ nI (zcnt L 90) < 16) : zcnt (upd L x.toNatClampNeg len) 90 ≤ 16 := by
  have hx := zp_ix h.1 h.2
  rw [zcnt_upd L hx.2.2 (zl_1 hl)]
  rcases h2 with q | q
  · rw [if_neg (fun z => ((zp_has_is h).mp q) z.2)]; omega
  · have := zn_lt (b := 16) q (by omega) (by decide)
    split <;> omega
theorem zl_LT {L : Nat → Int32} {k : Nat} {len : Int32} (h : zt_LT L) (h1 : ¬ len < 1) (h2 : len ≤ 12) : zt_LT (upd L k len) := by
  intro j hj
  unfold zt_len upd
  by_cases q : j = k
  · rw [if_pos q]
    obtain ⟨n, hn1, hn2, e⟩ := zm_d12 h1 (Int32.not_lt.mpr h2)
    rw [e, nI_clamp (by omega)]
    exact ⟨rfl, hn2⟩
  · rw [if_neg q]; exact h j hj
theorem zl_has {L : Nat → Int32} {k : Nat} {len p : Int32} (h1 : ¬ len < 1) (h : zp_has L p) : zp_has (upd L k len) p := by
  refine ⟨h.1, h.2.1, ?_⟩
  unfold upd
  split
  · exact zl_1 h1
  · exact h.2.2
/-- what a taken field is -/
def zv3 (p d : Int32) (v : Int64) : Prop := (∃ a, 10 ≤ a ∧ a < 100 ∧ p = nI a) ∧ (∃ a, 1 ≤ a ∧ a ≤ 12 ∧ d = nI a) ∧ ∃ a, a < 1000000000000 ∧ v = lN a
theorem zkey_n {a b c : Nat} (ha : a < 100) (hb : b ≤ 12) (_hc : c < 1000000000000) : ((nI a * 16 + nI b).toInt64 * 1000000000000 + lN c) = lN ((a * 16 + b) * 1000000000000 + c) := by
  rw [show (16 : Int32) = nI 16 from rfl, show nI a * nI 16 = nI (a * 16) from (Int32.ofNat_mul a 16).symm, nI_add, nI_l (by omega), show (1000000000000 : Int64) = lN 1000000000000 from rfl]
  unfold lN
  rw [← Int64.ofNat_mul, ← Int64.ofNat_add]
theorem zl_63 {n : Nat} (h : n < 2 ^ 63) : (lN n).toInt = (n : Int) := Int64.toInt_ofNat_of_lt h
theorem zkey_inj {p d p' d' : Int32} {v v' : Int64} (h : zv3 p d v) (h' : zv3 p' d' v') : (p * 16 + d).toInt64 * 1000000000000 + v = (p' * 16 + d').toInt64 * 1000000000000 + v' ↔ p = p' ∧ d = d' ∧ v = v' := by
  obtain ⟨⟨a, ha, ha', rfl⟩, ⟨b, hb, hb', rfl⟩, ⟨c, hc, rfl⟩⟩ := h
  obtain ⟨⟨x, hx, hx', rfl⟩, ⟨y, hy, hy', rfl⟩, ⟨z, hz, rfl⟩⟩ := h'
  rw [zkey_n (by omega) (by omega) hc, zkey_n (by omega) (by omega) hz]
  constructor
  · intro q
    have q2 : (a * 16 + b) * 1000000000000 + c = (x * 16 + y) * 1000000000000 + z := by
      have := congrArg Int64.toInt q
      rw [zl_63 (by omega), zl_63 (by omega)] at this
      exact_mod_cast this
    have h1 : a * 16 + b = x * 16 + y := by omega
    have h2 : a = x := by omega
    have h3 : b = y := by omega
    have h4 : c = z := by omega
    subst h2; subst h3; subst h4; exact ⟨rfl, rfl, rfl⟩
  · rintro ⟨q1, q2, q3⟩
    have h2 := (nI_eq (by omega) (by omega)).mp q1
    have h3 := (nI_eq (by omega) (by omega)).mp q2
    subst h2; subst h3; rw [← zkey_n (by omega) (by omega) hc, q3, ← zkey_n (by omega) (by omega) hz]
theorem zkey_ne0 {p d : Int32} {v : Int64} (h : zv3 p d v) : ¬ (p * 16 + d).toInt64 * 1000000000000 + v = 0 := by
  obtain ⟨⟨a, ha, ha', rfl⟩, ⟨b, hb, hb', rfl⟩, ⟨c, hc, rfl⟩⟩ := h
  rw [zkey_n (by omega) (by omega) hc]
  intro q
  have := congrArg Int64.toInt q
  rw [zl_63 (by omega)] at this
  have h0 : (0 : Int64).toInt = 0 := by decide
  rw [h0] at this
  omega
/-- a label among the scanned ones: class's keys and reference's rows say the same -/
def zlab (K : Nat → Int64) (lF lP lD : Nat → Int32) (lN : Nat → Int64) (l : Nat) : Prop := ∃ n, n ≤ 6 ∧ lF l = nI n ∧ (∀ i, i < n → zv3 (lP (6 * l + i)) (lD (6 * l + i)) (lN (6 * l + i))) ∧ ∀ i, i < 6 → K (l * 6 + i) = zkey (fun i => lP (6 * l + i)) (fun i => lD (6 * l + i)) (fun i => lN (6 * l + i)) n i
theorem zlab_iff {K : Nat → Int64} {lF lP lD : Nat → Int32} {lN : Nat → Int64} {l : Nat} (h : zlab K lF lP lD lN l) {fp fg pf pg : Nat → Int32} {fv pv : Nat → Int64} {fc : Nat} (hfc : fc ≤ 6) (hv : ∀ j, j < fc → zv3 (fp j) (fg j) (fv j)) (he : ∀ j, j < fc → fp j = pf j ∧ fg j = pg j ∧ fv j = pv j) : zisat K fp fg fv fc l ↔ zmis lF lP lD lN fc pf pg pv l := by
  obtain ⟨n, hn, hF, hr, hK⟩ := h
  have hk : ∀ i, i < 6 → ((K (l * 6 + i) = zkey fp fg fv fc i) ↔ ((n ≤ i ∧ fc ≤ i) ∨ (i < n ∧ i < fc ∧ lP (6 * l + i) = pf i ∧ lD (6 * l + i) = pg i ∧ lN (6 * l + i) = pv i))) := by
    intro i hi
    rw [hK i hi]
    unfold zkey
    by_cases q1 : n ≤ i
    · by_cases q2 : fc ≤ i
      · rw [if_pos q1, if_pos q2]; exact ⟨fun _ => Or.inl ⟨q1, q2⟩, fun _ => rfl⟩
      · rw [if_pos q1, if_neg q2]
        exact ⟨fun z => absurd z.symm (zkey_ne0 (hv i (by omega))), fun z => by rcases z with z | z <;> omega⟩
    · by_cases q2 : fc ≤ i
      · rw [if_neg q1, if_pos q2]
        exact ⟨fun z => absurd z (zkey_ne0 (hr i (by omega))), fun z => by rcases z with z | z <;> omega⟩
      · rw [if_neg q1, if_neg q2]
        have e := he i (by omega)
        refine (zkey_inj (hr i (by omega)) (hv i (by omega))).trans ?_
        rw [e.1, e.2.1, e.2.2]
        exact ⟨fun z => Or.inr ⟨by omega, by omega, z⟩, fun z => by rcases z with z | z; omega; exact z.2.2⟩
  constructor
  · intro z
    have hnf : n = fc := by
      rcases Nat.lt_trichotomy n fc with q | q | q
      · have := (hk n (by omega)).mp (z n (by omega)); rcases this with w | w <;> omega
      · exact q
      · have := (hk fc (by omega)).mp (z fc (by omega)); rcases this with w | w <;> omega
    refine ⟨by rw [hF, hnf], fun i hi => ?_⟩
    have := (hk i (by omega)).mp (z i (by omega))
    rcases this with w | w
    · omega
    · exact w.2.2
  · intro z i hi
    have hnf : n = fc := zn_eq (hF.symm.trans z.1) (by omega) (by omega)
    refine (hk i hi).mpr ?_
    rcases Nat.lt_or_ge i fc with q | q
    · exact Or.inr ⟨by omega, q, z.2 i q⟩
    · exact Or.inl ⟨by omega, q⟩
theorem zfirst_cg {P Q : Nat → Prop} {n : Nat} (h : ∀ j, j < n → (P j ↔ Q j)) : ∀ k j, j + k ≤ n → zfirst P k j = zfirst Q k j := by
  intro k
  induction k with
  | zero => intro j _; rfl
  | succ k ih =>
    intro j hj
    rw [zfirst, zfirst, ih (j + 1) (by omega), propext (h j (by omega))]
/-! Signs that agree up to n are taken apart alike. -/
section ZG
variable {g g' : Nat → Int32} {n : Nat}
theorem zg_nsA (hg : ∀ j, j < n → g j = g' j) : ∀ k j, j + k ≤ n → zr_nsA g k j = zr_nsA g' k j := by
  intro k
  induction k with
  | zero => intro j _; rfl
  | succ k ih => intro j hj; rw [zr_nsA, zr_nsA, ih (j + 1) (by omega), hg j (by omega)]
theorem zg_ns (hg : ∀ j, j < n → g j = g' j) {j e : Nat} (hj : j ≤ e) (he : e ≤ n) : zr_ns g j e = zr_ns g' j e := zg_nsA hg _ _ (by omega)
theorem zg_ns0 (hg : ∀ j, j < n → g j = g' j) {j e : Nat} (he : e ≤ n) : zr_ns g j e = zr_ns g' j e := by
  rcases Nat.lt_or_ge e j with q | q
  · unfold zr_ns; rw [show e - j = 0 by omega]; rfl
  · exact zg_ns hg q he
theorem zg_numA (hg : ∀ j, j < n → g j = g' j) : ∀ k j acc, j + k ≤ n → zr_numA g k j acc = zr_numA g' k j acc := by
  intro k
  induction k with
  | zero => intro j _ _; rfl
  | succ k ih => intro j acc hj; rw [zr_numA, zr_numA, ih (j + 1) _ (by omega), hg j (by omega)]
theorem zg_num (hg : ∀ j, j < n → g j = g' j) {j e : Nat} {acc : Int64} (he : e ≤ n) : zr_num g j e acc = zr_num g' j e acc := by
  rcases Nat.lt_or_ge e j with q | q
  · unfold zr_num; rw [show e - j = 0 by omega]; rfl
  · exact zg_numA hg _ _ _ (by omega)
theorem zg_sw (hg : ∀ j, j < n → g j = g' j) {len : Nat} (hl : len ≤ n) : ∀ k, k ≤ len → zsw g len k = zsw g' len k := by
  intro k
  induction k with
  | zero => intro _; rfl
  | succ k ih => intro hk; rw [zsw, zsw, ih (by omega), hg _ (by omega)]
theorem zg_chk (hg : ∀ j, j < n → g j = g' j) {len : Nat} (hl : len ≤ n) : zchk g len = zchk g' len := by
  unfold zchk; rw [zg_sw hg hl len (Nat.le_refl _)]
theorem zg_x (hg : ∀ j, j < n → g j = g' j) {p : Nat} (hp : p + 2 ≤ n) : zt_x g p = zt_x g' p := by
  unfold zt_x; rw [zg_num hg hp]
theorem zg_two (hg : ∀ j, j < n → g j = g' j) {e p : Nat} (hp : p + 2 ≤ n) : zt_two g e p ↔ zt_two g' e p := by
  unfold zt_two; rw [zg_ns0 hg hp]
theorem zg_ok (hg : ∀ j, j < n → g j = g' j) {e p : Nat} {L F fp pf : Nat → Int32} {i : Nat} (hf : ∀ j, j < i → fp j = pf j) (hp : p + 2 ≤ n) (he : e ≤ n) : zt_ok g e L F fp i p ↔ zt_ok g' e L F pf i p := by
  have hh : ∀ x, zf_has fp i x ↔ zf_has pf i x := fun x => ⟨fun ⟨j, h1, h2⟩ => ⟨j, h1, (hf j h1).symm.trans h2⟩, fun ⟨j, h1, h2⟩ => ⟨j, h1, (hf j h1).trans h2⟩⟩
  unfold zt_ok zt_k zt_okL
  rw [zg_x hg hp, propext (zg_two hg hp), propext (hh _), zg_ns0 hg he]
  refine and_congr_right (fun _ => and_congr_right (fun _ => and_congr_right (fun _ => ?_)))
  refine or_congr_left (and_congr_right (fun _ => ?_))
  unfold zt_okF
  refine and_congr_right (fun q => ?_)
  rw [zg_ns0 hg (by omega)]
theorem zg_err (hg : ∀ j, j < n → g j = g' j) {e p : Nat} {L F fp pf : Nat → Int32} {i : Nat} (hf : ∀ j, j < i → fp j = pf j) (hp : p + 2 ≤ n) (he : e ≤ n) : zt_err g e L F fp i p = zt_err g' e L F pf i p := by
  have hh : ∀ x, zf_has fp i x ↔ zf_has pf i x := fun x => ⟨fun ⟨j, h1, h2⟩ => ⟨j, h1, (hf j h1).symm.trans h2⟩, fun ⟨j, h1, h2⟩ => ⟨j, h1, (hf j h1).trans h2⟩⟩
  unfold zt_err zt_k zt_errL
  rw [zg_x hg hp, propext (zg_two hg hp), propext (hh _), zg_ns0 hg he]
theorem zg_d (hg : ∀ j, j < n → g j = g' j) {e p : Nat} {L F : Nat → Int32} (hp : p + 2 ≤ n) (he : e ≤ n) : zt_d g e L F p = zt_d g' e L F p := by
  unfold zt_d zt_k; rw [zg_x hg hp, zg_ns0 hg he]
theorem zg_np (hg : ∀ j, j < n → g j = g' j) {e p : Nat} {L F : Nat → Int32} (hp : p + 2 ≤ n) (he : e ≤ n) : zt_np g e L F p = zt_np g' e L F p := by
  unfold zt_np zt_k zt_npL; rw [zg_x hg hp, zg_ns0 hg he]
theorem zg_v (hg : ∀ j, j < n → g j = g' j) {e p : Nat} {L F : Nat → Int32} (hp : p + 2 ≤ n) (he : e ≤ n) (hd : p + 2 + zt_d g e L F p ≤ n) : zt_v g e L F p = zt_v g' e L F p := by
  unfold zt_v
  rw [zg_num hg hd, zg_d hg hp he]
theorem zg_new (hg : ∀ j, j < n → g j = g' j) {e p : Nat} {L : Nat → Int32} (hp : p + 2 ≤ n) : zt_new g e L p ↔ zt_new g' e L p := by
  unfold zt_new; rw [zg_x hg hp, propext (zg_two hg hp)]
end ZG
theorem zt_d_in {g : Nat → Int32} {e : Nat} {L F fp : Nat → Int32} {i p : Nat} (h : zt_ok g e L F fp i p) (hLT : zt_LT L) : p + 2 + zt_d g e L F p ≤ e ∧ 1 ≤ zt_d g e L F p ∧ zt_d g e L F p ≤ 12 ∧ ∀ j, p + 2 ≤ j → j < p + 2 + zt_d g e L F p → ¬ g j = 10 := by
  obtain ⟨h1, h2, h3, h4⟩ := h
  have hk := zt_kix h2
  obtain ⟨hl1, hl2⟩ := hLT _ hk.2.1
  have hl0 : 1 ≤ zt_len L (zt_k g p) := by
    rcases Nat.eq_zero_or_pos (zt_len L (zt_k g p)) with q | q
    · exact absurd (by rw [hl1, q]; decide) hk.2.2.2
    · exact q
  unfold zt_d
  rcases h4 with ⟨hf, ho1, ho2⟩ | ⟨hf, ⟨ho1, ho3⟩, ho2⟩
  · rw [zi_f hf]
    have hns := zr_ns_in g (show p + 2 ≤ p + 2 + zt_len L (zt_k g p) by omega)
    exact ⟨by omega, hl0, hl2, fun j hj1 hj2 => zr_ns_before (e := p + 2 + zt_len L (zt_k g p)) hj1 (by omega) (by omega)⟩
  · rw [zi_t hf]
    have hns := zr_ns_in g h1.1
    exact ⟨by omega, ho1, by omega, fun j hj1 hj2 => zr_ns_before hj1 (by omega) h1.1⟩
theorem zr_num_nat {g : Nat → Int32} {e : Nat} : ∀ k j a t, e = j + k → (∀ i, j ≤ i → i < e → ∃ v, v ≤ 9 ∧ g i = nI v) → a < 10 ^ t → t + k ≤ 12 → ∃ b, b < 10 ^ (t + k) ∧ zr_num g j e (lN a) = lN b := by
  intro k
  induction k with
  | zero => intro j a t he _ ha _; rw [he]; exact ⟨a, ha, zr_num_end g j (lN a)⟩
  | succ k ih =>
    intro j a t he hd ha ht
    obtain ⟨v, hv, ev⟩ := hd j (Nat.le_refl _) (by omega)
    rw [zr_num_step (by omega), ev, nI_l (by omega)]
    have e1 : lN a * 10 + lN v = lN (a * 10 + v) := by
      rw [show (10 : Int64) = lN 10 from rfl]; unfold lN; rw [← Int64.ofNat_mul, ← Int64.ofNat_add]
    rw [e1]
    obtain ⟨b, hb, eb⟩ := ih (j + 1) (a * 10 + v) (t + 1) (by omega) (fun i h1 h2 => hd i (by omega) h2) (by rw [Nat.pow_succ]; omega) (by omega)
    exact ⟨b, by rw [show t + (k + 1) = t + 1 + k by omega]; exact hb, eb⟩
theorem zt_v_in {g : Nat → Int32} {e n : Nat} {L F fp : Nat → Int32} {i p : Nat} (h : zt_ok g e L F fp i p) (hLT : zt_LT L) (hs : zsgn g n) (he : e ≤ n) : zv3 (zt_x g p) (nI (zt_d g e L F p)) (zt_v g e L F p) := by
  obtain ⟨h1, h2, h3, h4⟩ := zt_d_in h hLT
  have hk := zt_kix h.2.1
  refine ⟨⟨_, hk.2.2.1, hk.2.1, hk.1⟩, ⟨_, h2, h3, rfl⟩, ?_⟩
  unfold zt_v
  obtain ⟨b, hb, eb⟩ := zr_num_nat (g := g) (e := p + 2 + zt_d g e L F p) (zt_d g e L F p) (p + 2) 0 0 rfl (fun j q1 q2 => by
    obtain ⟨v, hv, ev⟩ := hs j (by omega)
    refine ⟨v, ?_, ev⟩
    have : v ≠ 10 := fun q => h4 j q1 q2 (by rw [ev, q]; rfl)
    omega) (by decide) (by omega)
  refine ⟨b, Nat.lt_of_lt_of_le hb (Nat.le_trans (Nat.pow_le_pow_right (by decide) (show 0 + zt_d g e L F p ≤ 12 by omega)) (by decide)), ?_⟩
  rw [← eb]; rfl
theorem zt_new_pos {g : Nat → Int32} {e n p : Nat} {L : Nat → Int32} (h : zt_new g e L p) (hs : zsgn g n) (he : e ≤ n) : 0 ≤ zt_x g p := by
  have ht := h.1
  have h2 := ht.1
  have hd := (zr_ns2 g p).mp ht.2
  rw [zt_x_eq hs (by omega)]
  obtain ⟨v, hv, ev⟩ := hs p (by omega)
  obtain ⟨w, hw, ew⟩ := hs (p + 1) (by omega)
  rw [ev, ew, show (10 : Int32) = nI 10 from rfl, show nI 10 * nI v = nI (10 * v) from (Int32.ofNat_mul 10 v).symm, nI_add]
  exact nI_pos' (by omega)
/-- what two runs over signs that agree have in common -/
def zt_al (L : Nat → Int32) (r r' : Int32 × Nat × Nat × (Nat → Int32) × (Nat → Int32) × (Nat → Int64) × Int32) : Prop := r.1 = r'.1 ∧ r.2.1 = r'.2.1 ∧ r.2.2.1 = r'.2.2.1 ∧ r.2.2.2.2.2.2 = r'.2.2.2.2.2.2 ∧ (∀ j, j < r.2.2.1 → r.2.2.2.1 j = r'.2.2.2.1 j ∧ r.2.2.2.2.1 j = r'.2.2.2.2.1 j ∧ r.2.2.2.2.2.1 j = r'.2.2.2.2.2.1 j) ∧ (∀ j, j < r.2.2.1 → zp_has L (r.2.2.2.1 j) ∧ zv3 (r.2.2.2.1 j) (r.2.2.2.2.1 j) (r.2.2.2.2.2.1 j)) ∧ zneg r.2.2.2.2.2.2
theorem zt_run_al {g g' : Nat → Int32} {n e : Nat} {L F : Nat → Int32} (hg : ∀ j, j < n → g j = g' j) (he : e + 1 ≤ n) (hs : zsgn g n) (hLT : zt_LT L) : ∀ k p i fp fg fv pf pg pv, (∀ j, j < i → fp j = pf j ∧ fg j = pg j ∧ fv j = pv j) → (∀ j, j < i → zp_has L (fp j) ∧ zv3 (fp j) (fg j) (fv j)) → zt_al L (zt_run g e L F k p i fp fg fv) (zt_run g' e L F k p i pf pg pv) := by
  intro k
  induction k with
  | zero => intro p i fp fg fv pf pg pv h1 h2; exact ⟨rfl, rfl, rfl, rfl, h1, h2, Or.inl rfl⟩
  | succ k ih =>
    intro p i fp fg fv pf pg pv h1 h2
    rw [zt_run, zt_run]
    by_cases hp : p < e
    · rw [zi_t hp, zi_t hp]
      have hf : ∀ j, j < i → fp j = pf j := fun j hj => (h1 j hj).1
      have hok := zg_ok (L := L) (F := F) hg hf (show p + 2 ≤ n by omega) (show e ≤ n by omega)
      by_cases q : zt_ok g e L F fp i p
      · have hd := zt_d_in q hLT
        rw [zi_t q, zi_t (hok.mp q), ← zg_np hg (by omega) (by omega), ← zg_x hg (by omega), ← zg_d hg (by omega) (by omega), ← zg_v hg (by omega) (by omega) (by omega)]
        refine ih _ _ _ _ _ _ _ _ (fun j hj => ?_) (fun j hj => ?_)
        · unfold upd vp_updL
          by_cases z : j = i
          · rw [if_pos z, if_pos z, if_pos z, if_pos z, if_pos z, if_pos z]; exact ⟨rfl, rfl, rfl⟩
          · rw [if_neg z, if_neg z, if_neg z, if_neg z, if_neg z, if_neg z]; exact h1 j (by omega)
        · unfold upd vp_updL
          by_cases z : j = i
          · rw [if_pos z, if_pos z, if_pos z]; exact ⟨q.2.1, zt_v_in q hLT hs (by omega)⟩
          · rw [if_neg z, if_neg z, if_neg z]; exact h2 j (by omega)
      · rw [zi_f q, zi_f (fun z => q (hok.mpr z)), ← zg_err (L := L) (F := F) hg hf (by omega) (by omega), ← zg_x hg (by omega), ← propext (zg_new (L := L) hg (show p + 2 ≤ n by omega))]
        refine ⟨rfl, rfl, rfl, rfl, h1, h2, ?_⟩
        show zneg (zi (zt_new g e L p) (zt_x g p) (-1))
        by_cases z : zt_new g e L p
        · rw [zi_t z]; exact Or.inr (zt_new_pos z hs (by omega))
        · rw [zi_f z]; exact Or.inl rfl
    · rw [zi_f hp, zi_f hp]; exact ⟨rfl, rfl, rfl, rfl, h1, h2, Or.inl rfl⟩
theorem zt_needs_cg {N fp pf : Nat → Int32} {fc : Nat} (h : ∀ j, j < fc → fp j = pf j) : zt_needs N fp fc ↔ zt_needs N pf fc := by
  have hh : ∀ x, zf_has fp fc x ↔ zf_has pf fc x := fun x => ⟨fun ⟨j, h1, h2⟩ => ⟨j, h1, (h j h1).symm.trans h2⟩, fun ⟨j, h1, h2⟩ => ⟨j, h1, (h j h1).trans h2⟩⟩
  unfold zt_needs
  exact ⟨fun z j hj => by rw [← h j hj, ← propext (hh _)]; exact z j hj, fun z j hj => by rw [h j hj, propext (hh _)]; exact z j hj⟩
/-- .. two whole takings -/
def zt_bl (L : Nat → Int32) (r r' : Int32 × Nat × (Nat → Int32) × (Nat → Int32) × (Nat → Int64) × Int32) : Prop := r.1 = r'.1 ∧ r.2.1 = r'.2.1 ∧ r.2.2.2.2.2 = r'.2.2.2.2.2 ∧ (∀ j, j < r.2.1 → r.2.2.1 j = r'.2.2.1 j ∧ r.2.2.2.1 j = r'.2.2.2.1 j ∧ r.2.2.2.2.1 j = r'.2.2.2.2.1 j) ∧ (∀ j, j < r.2.1 → zp_has L (r.2.2.1 j) ∧ zv3 (r.2.2.1 j) (r.2.2.2.1 j) (r.2.2.2.2.1 j)) ∧ zneg r.2.2.2.2.2 ∧ r.2.1 ≤ 6
theorem zt_fw_bl {g g' : Nat → Int32} {n : Nat} {L F N fp fg pf pg : Nat → Int32} {fv pv : Nat → Int64} (hg : ∀ j, j < n → g j = g' j) (hs : zsgn g n) (hLT : zt_LT L) : zt_bl L (zt_fw g n L F N fp fg fv) (zt_fw g' n L F N pf pg pv) := by
  have hc := zt_fw_count g n L F N fp fg fv
  revert hc
  unfold zt_fw
  by_cases h1 : n < 4
  · rw [zi_t (Or.inl h1), zi_t (Or.inl h1)]
    exact fun _ => ⟨rfl, rfl, rfl, fun j hj => absurd hj (Nat.not_lt_zero _), fun j hj => absurd hj (Nat.not_lt_zero _), Or.inl rfl, Nat.zero_le _⟩
  · rw [← hg (n - 1) (by omega), ← zg_chk hg (show n - 1 ≤ n by omega)]
    by_cases h2 : n < 4 ∨ g (n - 1) = 10
    · rw [zi_t h2, zi_t h2]
      exact fun _ => ⟨rfl, rfl, rfl, fun j hj => absurd hj (Nat.not_lt_zero _), fun j hj => absurd hj (Nat.not_lt_zero _), Or.inl rfl, Nat.zero_le _⟩
    · rw [zi_f h2, zi_f h2]
      by_cases h3 : g (n - 1) = zchk g (n - 1)
      · rw [zi_t h3, zi_t h3]
        obtain ⟨a1, a2, a3, a4, a5, a6, a7⟩ := zt_run_al (F := F) hg (show n - 1 + 1 ≤ n by omega) hs hLT 6 0 0 fp fg fv pf pg pv (fun j hj => absurd hj (Nat.not_lt_zero _)) (fun j hj => absurd hj (Nat.not_lt_zero _))
        intro hc
        refine ⟨?_, a3, a4, a5, a6, a7, hc⟩
        unfold zt_end
        dsimp only
        rw [← a1, ← a2, ← a3, propext (zt_needs_cg (N := N) (fun j hj => (a5 j hj).1))]
      · rw [zi_f h3, zi_f h3]
        exact fun _ => ⟨rfl, rfl, rfl, fun j hj => absurd hj (Nat.not_lt_zero _), fun j hj => absurd hj (Nat.not_lt_zero _), Or.inl rfl, Nat.zero_le _⟩
/-! make: the row of signs, its modules. -/
theorem zwr_cg {F wp wg : Nat → Int32} {wv : Nat → Int64} {wc : Nat} {sf la : Nat → Int32} : ∀ i j, j < zwn F wp wg wc i → zwr F wp wg wv wc sf i j = zwr F wp wg wv wc la i j := by
  intro i
  induction i with
  | zero => intro j hj; exact absurd hj (Nat.not_lt_zero _)
  | succ i ih =>
    intro j hj
    rw [zwn] at hj
    have h2 : ∀ j, j < zwn F wp wg wc i + 2 + zdg wg i → zr_an (zr_an (zwr F wp wg wv wc sf i) (zwn F wp wg wc i) 2 (wp i).toInt64) (zwn F wp wg wc i + 2) (zdg wg i) (wv i) j = zr_an (zr_an (zwr F wp wg wv wc la i) (zwn F wp wg wc i) 2 (wp i).toInt64) (zwn F wp wg wc i + 2) (zdg wg i) (wv i) j := by
      intro j hj
      unfold zr_an
      by_cases q : zwn F wp wg wc i + 2 ≤ j ∧ j < zwn F wp wg wc i + 2 + zdg wg i
      · rw [if_pos q, if_pos q]
      · rw [if_neg q, if_neg q]
        by_cases r : zwn F wp wg wc i ≤ j ∧ j < zwn F wp wg wc i + 2
        · rw [if_pos r, if_pos r]
        · rw [if_neg r, if_neg r]; exact ih j (by omega)
    rw [zwr, zwr]
    by_cases hs : zsep F wp wc i
    · rw [zi_t hs] at hj
      rw [zi_t hs, zi_t hs]
      unfold upd
      by_cases q : j = zwn F wp wg wc i + 2 + zdg wg i
      · rw [if_pos q, if_pos q]
      · rw [if_neg q, if_neg q]; exact h2 j (by omega)
    · rw [zi_f hs] at hj
      rw [zi_f hs, zi_f hs]; exact h2 j (by omega)
theorem zval_bt : ∀ fm, fm ≤ 2 → ∀ v, v ≤ 10 → ∀ k, k < zw fm → (zwd fm (nI v) >>> ((nI (zw fm) - 1 - nI k) &&& 31)) &&& 1 = zbt (nI v) (nI k) := by decide +kernel
/-- the modules that both made -/
theorem zmake_eq {fm : Nat} {F wp wg : Nat → Int32} {wv : Nat → Int64} {wc : Nat} {sf la g g' : Nat → Int32} (hf : fm ≤ 2) (hw : zwj wp wg wc) (hv : ∀ j, j < wc → 0 ≤ wv j) (h60 : zwn F wp wg wc wc + 1 ≤ 60) : ∀ j, j < (zwn F wp wg wc wc + 1) * zw fm →
    zenc fm (zwn F wp wg wc wc + 1) (zval fm (upd (zwr F wp wg wv wc sf wc) (zwn F wp wg wc wc) (zchk (zwr F wp wg wv wc sf wc) (zwn F wp wg wc wc)))) g (zwn F wp wg wc wc + 1) 0 j
    = zenc fm (zwn F wp wg wc wc + 1) (fun a k => zbt (upd (zwr F wp wg wv wc la wc) (zwn F wp wg wc wc) (zchk (zwr F wp wg wv wc la wc) (zwn F wp wg wc wc)) a) (nI k)) g' (zwn F wp wg wc wc + 1) 0 j := by
  intro j hj
  rw [zenc_in hj, zenc_in hj]
  obtain ⟨h1, h2⟩ := zpl_sk hj
  generalize zqs fm (zwn F wp wg wc wc + 1) j = a at h1 ⊢
  generalize zqk fm (zwn F wp wg wc wc + 1) j = k at h2 ⊢
  have hs := zwr_sgn (F := F) (sf := la) hw hv wc (Nat.le_refl _)
  have hcg := zwr_cg (F := F) (wp := wp) (wg := wg) (wv := wv) (wc := wc) (sf := sf) (la := la) wc
  have hrow : upd (zwr F wp wg wv wc sf wc) (zwn F wp wg wc wc) (zchk (zwr F wp wg wv wc sf wc) (zwn F wp wg wc wc)) a = upd (zwr F wp wg wv wc la wc) (zwn F wp wg wc wc) (zchk (zwr F wp wg wv wc la wc) (zwn F wp wg wc wc)) a := by
    unfold upd
    by_cases q : a = zwn F wp wg wc wc
    · rw [if_pos q, if_pos q]; exact zg_chk hcg (Nat.le_refl _)
    · rw [if_neg q, if_neg q]; exact hcg a (by omega)
  unfold zval
  rw [hrow]
  obtain ⟨v, hv1, hv2⟩ := zsgn_upd hs (zchk_10 hs (by omega)) a h1
  rw [hv2]
  exact zval_bt fm hf v hv1 k h2
/-! What holds between class and reference, whenever the law's loop begins anew. -/
def zRp (fm : Nat) (L S : Nat → Int32) : Prop := fm ≤ 2 ∧ zt_LT L ∧ zcnt L 90 ≤ 16 ∧ ∀ k, k < 100 → zneg (S k)
def zRw (L wp wg : Nat → Int32) (wv : Nat → Int64) (wc : Nat) : Prop := wc ≤ 6 ∧ zwk L wp wg wc ∧ ∀ j, j < wc → 0 ≤ wv j
def zRm (mf mo : Nat → Int32) (mn : Nat) : Prop := mn ≤ 420 ∧ ∀ j, j < mn → mf j = mo j
def zRr (rf : Nat → Int32) (rn : Nat) : Prop := rn ≤ 420 ∧ ∀ j, j < rn → z3 (rf j)
def zRt (tf : Nat → Int32) (tn : Nat) : Prop := tn ≤ 60 ∧ zsgn tf tn
def zRf (L fp fg : Nat → Int32) (fv : Nat → Int64) (pf pg : Nat → Int32) (pv : Nat → Int64) (fc : Nat) (u : Int32) : Prop := fc ≤ 6 ∧ (∀ j, j < fc → fp j = pf j ∧ fg j = pg j ∧ fv j = pv j) ∧ (∀ j, j < fc → zp_has L (fp j) ∧ zv3 (fp j) (fg j) (fv j)) ∧ zneg u
def zRl (K : Nat → Int64) (T : Nat → Int32) (lb : Nat) (lF lP lD : Nat → Int32) (lN : Nat → Int64) (wn : Nat → Int32) (lsec : Int32) : Prop := lb ≤ 40 ∧ (∀ l, l < lb → zlab K lF lP lD lN l) ∧ (∀ j, j < 8 * lb → T j = wn j) ∧ (∀ j, 8 * lb ≤ j → j < 320 → T j = -1) ∧ (∀ j, j < 320 → zneg (wn j)) ∧ 0 ≤ lsec
theorem zi_0 {P : Prop} {a b : Nat} (hb : b ≠ 0) (h : zi P a b = 0) : P ∧ a = 0 := by
  by_cases q : P
  · rw [zi_t q] at h; exact ⟨q, h⟩
  · rw [zi_f q] at h; exact absurd h hb
theorem zi_le {P : Prop} {a b n : Nat} (ha : a ≤ n) (hb : b ≤ n) : zi P a b ≤ n := by
  by_cases q : P
  · rw [zi_t q]; exact ha
  · rw [zi_f q]; exact hb
theorem zl_ne {n : Nat} (h : n ≤ 3) (h0 : ¬ n = 0) : ¬ nI n = 0 := nI_ne0 (by omega) (by omega)
theorem ze_prefix_le (L : Nat → Int32) (z x len sta : Int32) : ze_prefix L z x len sta ≤ 3 := zi_le (zi_le (zi_le (by decide) (by decide)) (by decide)) (by decide)
theorem ze_needs_le (L : Nat → Int32) (x y : Int32) : ze_needs L x y ≤ 3 := zi_le (zi_le (by decide) (by decide)) (by decide)
theorem ze_field_le (L F : Nat → Int32) (wp : Nat → Int32) (wc : Nat) (x : Int32) (v : Int64) (d : Int32) : ze_field L F wp wc x v d ≤ 3 := zi_le (zi_le (zi_le (zi_le (by decide) (by decide)) (by decide)) (by decide)) (by decide)
theorem ze_make_le (wc n : Nat) : ze_make wc n ≤ 3 := zi_le (by decide) (zi_le (by decide) (by decide))
theorem ze_ix_le (i : Int32) (n : Nat) : ze_ix i n ≤ 3 := zi_le (by decide) (by decide)
theorem ze_read_le (v hi : Int32) (n cap : Nat) : ze_read v hi n cap ≤ 3 := zi_le (zi_le (by decide) (by decide)) (by decide)
theorem ze_none_le (n : Nat) : ze_none n ≤ 3 := zi_le (by decide) (by decide)
theorem ze_known_le (i w : Int32) (n : Nat) : ze_known i w n ≤ 3 := zi_le (zi_le (by decide) (by decide)) (by decide)
theorem ze_hint_le (i : Int32) : ze_hint i ≤ 3 := zi_le (by decide) (by decide)
theorem ze_scan_le (sta sec lsec : Int32) (fc pl lb : Nat) : ze_scan sta sec lsec fc pl lb ≤ 3 := zi_le (zi_le (by decide) (zi_le (by decide) (by decide))) (by decide)
theorem ze_prefix_0 {L : Nat → Int32} {z x len sta : Int32} (h : ze_prefix L z x len sta = 0) : (zp_is x ∧ ¬ len < 1 ∧ len ≤ 12) ∧ (sta = -1 ∨ (¬ sta < 0 ∧ ¬ 8 ≤ sta)) ∧ (zp_has L x ∨ z < 16) := by
  obtain ⟨h1, h⟩ := zi_0 (by decide) h
  obtain ⟨h2, h⟩ := zi_0 (by decide) h
  exact ⟨h1, h2, (zi_0 (by decide) h).1⟩
theorem zRp_prefix {fm : Nat} {L S : Nat → Int32} {x len y : Int32} (h : zRp fm L S) (hex : ze_prefix L (nI (zcnt L 90)) x len y = 0) : zRp fm (upd L x.toNatClampNeg len) (upd S x.toNatClampNeg y) := by
  obtain ⟨⟨h1, h2, h3⟩, h4, h5⟩ := ze_prefix_0 hex
  refine ⟨h.1, zl_LT h.2.1 h2 h3, zl_z16 h1 h2 h.2.2.1 h5, fun k hk => ?_⟩
  unfold upd
  split
  · rcases h4 with q | q
    · exact Or.inl q
    · exact Or.inr (Int32.not_lt.mp q.1)
  · exact h.2.2.2 k hk
theorem zRw_prefix {L wp wg : Nat → Int32} {wv : Nat → Int64} {wc k : Nat} {len : Int32} (h : zRw L wp wg wv wc) (hl : ¬ len < 1) : zRw (upd L k len) wp wg wv wc := ⟨h.1, fun j hj => ⟨zl_has hl (h.2.1 j hj).1, (h.2.1 j hj).2⟩, h.2.2⟩
theorem zRf_prefix {L fp fg : Nat → Int32} {fv : Nat → Int64} {pf pg : Nat → Int32} {pv : Nat → Int64} {fc k : Nat} {u len : Int32} (h : zRf L fp fg fv pf pg pv fc u) (hl : ¬ len < 1) : zRf (upd L k len) fp fg fv pf pg pv fc u := ⟨h.1, h.2.1, fun j hj => ⟨zl_has hl (h.2.2.1 j hj).1, (h.2.2.1 j hj).2⟩, h.2.2.2⟩
theorem zRw_field {L F wp wg : Nat → Int32} {wv : Nat → Int64} {wc : Nat} {x d : Int32} {v : Int64} (h : zRw L wp wg wv wc) (hex : ze_field L F wp wc x v d = 0) : zRw L (upd wp wc x) (upd wg wc d) (vp_updL wv wc v) (wc + 1) := by
  obtain ⟨h1, hex⟩ := zi_0 (by decide) hex
  obtain ⟨⟨h2, h3, h4, h5⟩, hex⟩ := zi_0 (by decide) hex
  obtain ⟨h6, hex⟩ := zi_0 (by decide) hex
  obtain ⟨h7, -⟩ := zi_0 (by decide) hex
  obtain ⟨dn, e1, e2, e3⟩ := zm_d12 h2 h3
  refine ⟨by omega, fun j hj => ?_, fun j hj => ?_⟩
  · unfold zdg upd
    by_cases q : j = wc
    · rw [if_pos q, if_pos q, e3, nI_clamp (by omega)]; exact ⟨h1, rfl, e2⟩
    · rw [if_neg q, if_neg q]; exact h.2.1 j (by omega)
  · unfold vp_updL
    by_cases q : j = wc
    · rw [if_pos q]; exact h4
    · rw [if_neg q]; exact h.2.2 j (by omega)
theorem zRw_0 {L wp wg : Nat → Int32} {wv : Nat → Int64} : zRw L wp wg wv 0 := ⟨Nat.zero_le _, fun j h => absurd h (Nat.not_lt_zero _), fun j h => absurd h (Nat.not_lt_zero _)⟩
theorem zRr_0 {rf : Nat → Int32} : zRr rf 0 := ⟨Nat.zero_le _, fun j h => absurd h (Nat.not_lt_zero _)⟩
theorem zRm_0 {mf mo : Nat → Int32} : zRm mf mo 0 := ⟨Nat.zero_le _, fun j h => absurd h (Nat.not_lt_zero _)⟩
theorem zRt_0 {tf : Nat → Int32} : zRt tf 0 := ⟨Nat.zero_le _, fun j h => absurd h (Nat.not_lt_zero _)⟩
theorem zRf_0 {L fp fg : Nat → Int32} {fv : Nat → Int64} {pf pg : Nat → Int32} {pv : Nat → Int64} : zRf L fp fg fv pf pg pv 0 (-1) := ⟨Nat.zero_le _, fun j h => absurd h (Nat.not_lt_zero _), fun j h => absurd h (Nat.not_lt_zero _), Or.inl rfl⟩
theorem zRm_make {fm : Nat} {L F wp wg : Nat → Int32} {wv : Nat → Int64} {wc : Nat} {sf la g g' : Nat → Int32} (hf : fm ≤ 2) (h : zRw L wp wg wv wc) (hex : ze_make wc (zwn F wp wg wc wc) = 0) :
    zRm (zenc fm (zwn F wp wg wc wc + 1) (zval fm (upd (zwr F wp wg wv wc sf wc) (zwn F wp wg wc wc) (zchk (zwr F wp wg wv wc sf wc) (zwn F wp wg wc wc)))) g (zwn F wp wg wc wc + 1) 0)
      (zenc fm (zwn F wp wg wc wc + 1) (fun a k => zbt (upd (zwr F wp wg wv wc la wc) (zwn F wp wg wc wc) (zchk (zwr F wp wg wv wc la wc) (zwn F wp wg wc wc)) a) (nI k)) g' (zwn F wp wg wc wc + 1) 0) ((zwn F wp wg wc wc + 1) * zw fm) := by
  have h60 : zwn F wp wg wc wc + 1 ≤ 60 := by
    unfold ze_make at hex
    by_cases q : wc = 0
    · rw [zi_t q] at hex; exact absurd hex (by decide)
    · rw [zi_f q] at hex; exact (zi_0 (by decide) hex).1
  exact ⟨Nat.le_trans (Nat.mul_le_mul h60 (zw_le fm)) (by decide), zmake_eq hf (zwj_of h.2.1) h.2.2 h60⟩
theorem zRr_read {rf : Nat → Int32} {rn : Nat} {x : Int32} (h : zRr rf rn) (hex : ze_read x 2 rn 420 = 0) : zRr (upd rf rn x) (rn + 1) := by
  obtain ⟨⟨h1, h2⟩, hex⟩ := zi_0 (by decide) hex
  obtain ⟨h3, -⟩ := zi_0 (by decide) hex
  obtain ⟨a, ha, rfl⟩ := nI_of2 (M := 2) (n := 2) (by decide) h1 h2
  refine ⟨by omega, fun j hj => ?_⟩
  unfold upd
  by_cases q : j = rn
  · rw [if_pos q]
    rcases (show a = 0 ∨ a = 1 ∨ a = 2 by omega) with rfl | rfl | rfl
    · exact Or.inl rfl
    · exact Or.inr (Or.inl rfl)
    · exact Or.inr (Or.inr rfl)
  · rw [if_neg q]; exact h.2 j (by omega)
theorem zRt_typed {tf : Nat → Int32} {tn : Nat} {x : Int32} (h : zRt tf tn) (hex : ze_read x 10 tn 60 = 0) : zRt (upd tf tn x) (tn + 1) := by
  obtain ⟨⟨h1, h2⟩, hex⟩ := zi_0 (by decide) hex
  obtain ⟨h3, -⟩ := zi_0 (by decide) hex
  obtain ⟨a, ha, rfl⟩ := nI_of2 (M := 10) (n := 10) (by decide) h1 h2
  exact ⟨by omega, zsgn_upd h.2 ⟨a, ha, rfl⟩⟩
/-- fields that were taken, by both -/
theorem zRf_bl {L : Nat → Int32} {r r' : Int32 × Nat × (Nat → Int32) × (Nat → Int32) × (Nat → Int64) × Int32} {qf qg : Nat → Int32} {qv : Nat → Int64} (h : zt_bl L r r') (hq : 0 ≤ r'.1 → qf = r'.2.2.1 ∧ qg = r'.2.2.2.1 ∧ qv = r'.2.2.2.2.1) : zRf L r.2.2.1 r.2.2.2.1 r.2.2.2.2.1 qf qg qv (zi (0 ≤ r'.1) r'.2.1 0) r'.2.2.2.2.2 := by
  obtain ⟨a1, a2, a3, a4, a5, a6, a7⟩ := h
  by_cases q : 0 ≤ r'.1
  · obtain ⟨e1, e2, e3⟩ := hq q
    rw [zi_t q, e1, e2, e3, ← a2, ← a3]
    exact ⟨a7, a4, a5, a6⟩
  · rw [zi_f q, ← a3]; exact ⟨Nat.zero_le _, fun j h => absurd h (Nat.not_lt_zero _), fun j h => absurd h (Nat.not_lt_zero _), a6⟩
theorem zsrow_al {fm n : Nat} {f g g' : Nat → Int32} {a : Nat} : ∀ j, j < a → zsrow fm n f g a j = zsrow fm n f g' a j := fun j hj => by unfold zsrow; rw [if_pos hj, if_pos hj]
theorem zstop_ok (fm n : Nat) (f : Nat → Int32) : ∀ k a j, a ≤ j → j < zstop fm n f k a → ¬ zbad (zsg fm n f j).1 := by
  intro k
  induction k with
  | zero => intro a j h1 h2; rw [zstop] at h2; omega
  | succ k ih =>
    intro a j h1 h2
    rw [zstop] at h2
    by_cases q : zbad (zsg fm n f a).1
    · rw [zi_t q] at h2; omega
    · rw [zi_f q] at h2
      by_cases z : j = a
      · rw [z]; exact q
      · exact ih (a + 1) j (by omega) h2
theorem zdn_sgn {fm n : Nat} {f g : Nat → Int32} : zsgn (zsrow fm (n / zw fm) f g (zdn fm n f)) (zdn fm n f) := by
  intro j hj
  unfold zsrow
  rw [if_pos hj]
  refine znb_v ?_
  unfold zdn at hj
  by_cases q : n / zw fm * zw fm = n
  · rw [zi_t q] at hj; exact zstop_ok fm _ f _ 0 j (Nat.zero_le _) hj
  · rw [zi_f q] at hj; exact absurd hj (Nat.not_lt_zero _)
theorem zkp_al {f g : Nat → Int32} {n : Nat} : ∀ j, j < n → f j = zkp g f 0 n j := fun j hj => by unfold zkp; rw [if_pos ⟨Nat.zero_le _, by omega⟩, Nat.sub_zero]
/-! scan: class's log and reference's rows. -/
theorem zscan_pl {L fp fg : Nat → Int32} {fv : Nat → Int64} {pf pg : Nat → Int32} {pv : Nat → Int64} {fc : Nat} {u : Int32} {K : Nat → Int64} {T : Nat → Int32} {lb : Nat} {lF lP lD : Nat → Int32} {lN : Nat → Int64} {wn : Nat → Int32} {lsec : Int32} (hf : zRf L fp fg fv pf pg pv fc u) (hl : zRl K T lb lF lP lD lN wn lsec) : zplace K fp fg fv fc lb = zfirst (zmis lF lP lD lN fc pf pg pv) lb 0 := by
  unfold zplace
  exact zfirst_cg (n := lb) (fun j hj => zlab_iff (hl.2.1 j hj) hf.1 (fun k hk => (hf.2.2.1 k hk).2) hf.2.1) lb 0 (by omega)
theorem zscan_st {S fp pf : Nat → Int32} {x : Int32} {fc : Nat} (h : ∀ j, j < fc → fp j = pf j) : zstrF S fp x fc = zstrF S pf x fc := by
  unfold zstrF
  exact zfirst_cg (n := fc) (fun j hj => by unfold zstr; rw [h j hj]) fc 0 (by omega)
theorem zscan_db {K : Nat → Int64} {T : Nat → Int32} {lb : Nat} {lF lP lD : Nat → Int32} {lN : Nat → Int64} {wn : Nat → Int32} {lsec : Int32} {PL : Nat} {x : Int32} (hl : zRl K T lb lF lP lD lN wn lsec) (hpl : PL ≤ lb) (hro : PL < lb ∨ lb < 40) (hx : ¬ x < 0 ∧ ¬ 8 ≤ x) : T (PL * 8 + x.toNatClampNeg) = (zi (PL = lb) (zkp wn (fun _ => -1) (8 * lb) 8) wn) (8 * PL + x.toNatClampNeg) := by
  have hix := zn_ix hx.1 (n := 8) hx.2 (by decide)
  rw [Nat.mul_comm PL 8]
  by_cases q : PL = lb
  · rw [zi_t q, q]
    unfold zkp
    rw [if_pos ⟨by omega, by omega⟩]
    exact hl.2.2.2.1 _ (by omega) (by omega)
  · rw [zi_f q]; exact hl.2.2.1 _ (by omega)
theorem ze_scan_0 {sta sec lsec : Int32} {fc pl lb : Nat} (h : ze_scan sta sec lsec fc pl lb = 0) : ((¬ sta < 0 ∧ ¬ 8 ≤ sta) ∧ lsec ≤ sec) ∧ (pl < lb ∨ lb < 40) := by
  obtain ⟨h1, h⟩ := zi_0 (by decide) h
  refine ⟨h1, ?_⟩
  by_cases q : fc = 0
  · rw [zi_t q] at h; exact absurd h (by decide)
  · rw [zi_f q] at h; exact (zi_0 (by decide) h).1
theorem zfirst_b {P : Nat → Prop} {n : Nat} : zfirst P n 0 ≤ n := by have := (zfirst_le P n 0).2; omega
theorem zkp_out {α : Type} {f g : Nat → α} {base k j : Nat} (h : j < base) : zkp f g base k j = f j := by unfold zkp; rw [if_neg (by omega)]
theorem zkp_in {α : Type} {f g : Nat → α} {base k i : Nat} (h : i < k) : zkp f g base k (base + i) = g i := by unfold zkp; rw [if_pos ⟨by omega, by omega⟩, Nat.add_sub_cancel_left]
theorem zlab_old {K K' : Nat → Int64} {lF lP lD lF' lP' lD' : Nat → Int32} {lN lN' : Nat → Int64} {l lb : Nat} (h : zlab K lF lP lD lN l) (hl : l < lb) (h1 : ∀ j, j < lb * 6 → K' j = K j) (h2 : ∀ j, j < lb → lF' j = lF j) (h3 : ∀ j, j < 6 * lb → lP' j = lP j ∧ lD' j = lD j ∧ lN' j = lN j) : zlab K' lF' lP' lD' lN' l := by
  obtain ⟨n, hn, hF, hr, hK⟩ := h
  refine ⟨n, hn, (h2 l hl).trans hF, fun i hi => ?_, fun i hi => ?_⟩
  · have := h3 (6 * l + i) (by omega)
    rw [this.1, this.2.1, this.2.2]; exact hr i hi
  · rw [h1 _ (by omega), hK i hi]
    unfold zkey
    by_cases q : n ≤ i
    · rw [if_pos q, if_pos q]
    · rw [if_neg q, if_neg q]
      have := h3 (6 * l + i) (by omega)
      dsimp only
      rw [this.1, this.2.1, this.2.2]
theorem zlab_new {L fp fg : Nat → Int32} {fv : Nat → Int64} {pf pg : Nat → Int32} {pv : Nat → Int64} {fc : Nat} {u : Int32} {K : Nat → Int64} {lF lP lD : Nat → Int32} {lN : Nat → Int64} {lb : Nat} (hf : zRf L fp fg fv pf pg pv fc u) : zlab (zkadd K fp fg fv fc lb 6) (upd lF lb (nI fc)) (zkp lP pf (6 * lb) fc) (zkp lD pg (6 * lb) fc) (zkp lN pv (6 * lb) fc) lb := by
  refine ⟨fc, hf.1, if_pos rfl, fun i hi => ?_, fun i hi => ?_⟩
  · rw [zkp_in hi, zkp_in hi, zkp_in hi]
    have e := hf.2.1 i hi
    rw [← e.1, ← e.2.1, ← e.2.2]; exact (hf.2.2.1 i hi).2
  · unfold zkadd
    rw [if_pos ⟨by omega, by omega⟩, Nat.add_sub_cancel_left]
    unfold zkey
    by_cases q : fc ≤ i
    · rw [if_pos q, if_pos q]
    · rw [if_neg q, if_neg q]
      dsimp only
      rw [zkp_in (by omega), zkp_in (by omega), zkp_in (by omega)]
      have e := hf.2.1 i (by omega)
      rw [e.1, e.2.1, e.2.2]
theorem zRl_scan {L fp fg : Nat → Int32} {fv : Nat → Int64} {pf pg : Nat → Int32} {pv : Nat → Int64} {fc : Nat} {u : Int32} {K : Nat → Int64} {T : Nat → Int32} {lb : Nat} {lF lP lD : Nat → Int32} {lN : Nat → Int64} {wn : Nat → Int32} {lsec : Int32} {PL : Nat} {C DB : Prop} {x y : Int32} (hf : zRf L fp fg fv pf pg pv fc u) (hl : zRl K T lb lF lP lD lN wn lsec) (hpl : PL ≤ lb) (hro : PL < lb ∨ lb < 40) (hx : ¬ x < 0 ∧ ¬ 8 ≤ x) (hy : lsec ≤ y) :
    zRl (zi C K (zi (PL = lb) (zkadd K fp fg fv fc lb 6) K)) (zi C T (zi DB T (upd T (PL * 8 + x.toNatClampNeg) y))) (zi C lb (zi (PL = lb) (lb + 1) lb)) (zi C lF (zi (PL = lb) (upd lF lb (nI fc)) lF)) (zi C lP (zi (PL = lb) (zkp lP pf (6 * lb) fc) lP)) (zi C lD (zi (PL = lb) (zkp lD pg (6 * lb) fc) lD)) (zi C lN (zi (PL = lb) (zkp lN pv (6 * lb) fc) lN)) (zi C wn (zi DB (zi (PL = lb) (zkp wn (fun _ => -1) (8 * lb) 8) wn) (upd (zi (PL = lb) (zkp wn (fun _ => -1) (8 * lb) 8) wn) (8 * PL + x.toNatClampNeg) y))) y := by
  have hix := zn_ix hx.1 (n := 8) hx.2 (by decide)
  have hy0 : 0 ≤ y := Int32.le_trans hl.2.2.2.2.2 hy
  by_cases c : C
  · simp only [zi_t c]; exact ⟨hl.1, hl.2.1, hl.2.2.1, hl.2.2.2.1, hl.2.2.2.2.1, hy0⟩
  · simp only [zi_f c]
    have key : ∀ (lb' : Nat) (wn' : Nat → Int32), lb' ≤ 40 → PL < lb' → (∀ j, j < 8 * lb' → T j = wn' j) → (∀ j, 8 * lb' ≤ j → j < 320 → T j = -1) → (∀ j, j < 320 → zneg (wn' j)) → (∀ j, j < 8 * lb' → (zi DB T (upd T (PL * 8 + x.toNatClampNeg) y)) j = (zi DB wn' (upd wn' (8 * PL + x.toNatClampNeg) y)) j) ∧ (∀ j, 8 * lb' ≤ j → j < 320 → (zi DB T (upd T (PL * 8 + x.toNatClampNeg) y)) j = -1) ∧ (∀ j, j < 320 → zneg ((zi DB wn' (upd wn' (8 * PL + x.toNatClampNeg) y)) j)) := by
      intro lb' wn' a0 a1 a2 a3 a4
      by_cases d : DB
      · simp only [zi_t d]; exact ⟨a2, a3, a4⟩
      · simp only [zi_f d]
        rw [Nat.mul_comm PL 8]
        unfold upd
        refine ⟨fun j hj => ?_, fun j h1 h2 => ?_, fun j hj => ?_⟩
        · split
          · rfl
          · exact a2 j hj
        · rw [if_neg (by omega)]; exact a3 j h1 h2
        · split
          · exact Or.inr hy0
          · exact a4 j hj
    by_cases q : PL = lb
    · simp only [zi_t q]
      have h40 : lb < 40 := by omega
      obtain ⟨k1, k2, k3⟩ := key (lb + 1) (zkp wn (fun _ => -1) (8 * lb) 8) (by omega) (by omega) (fun j hj => by
        unfold zkp
        by_cases z : 8 * lb ≤ j ∧ j < 8 * lb + 8
        · rw [if_pos z]; exact hl.2.2.2.1 j z.1 (by omega)
        · rw [if_neg z]; exact hl.2.2.1 j (by omega)) (fun j h1 h2 => hl.2.2.2.1 j (by omega) h2) (zkp_neg hl.2.2.2.2.1)
      refine ⟨by omega, fun j hj => ?_, k1, k2, k3, hy0⟩
      by_cases z : j = lb
      · rw [z]; exact zlab_new hf
      · exact zlab_old (lb := lb) (hl.2.1 j (by omega)) (by omega) (fun i hi => by unfold zkadd; rw [if_neg (by omega)]) (fun i hi => by unfold upd; rw [if_neg (by omega)]) (fun i hi => ⟨zkp_out hi, zkp_out hi, zkp_out hi⟩)
    · simp only [zi_f q]
      obtain ⟨k1, k2, k3⟩ := key lb wn hl.1 (by omega) hl.2.2.1 hl.2.2.2.1 hl.2.2.2.2.1
      exact ⟨hl.1, hl.2.1, k1, k2, k3, hy0⟩
theorem zcnt_0 : ∀ n, zcnt (fun _ => 0) n = 0 := by
  intro n
  induction n with
  | zero => rfl
  | succ n ih => rw [zcnt, ih]; rfl
theorem zR_start {x : Int32} : zRp (zform x) (fun _ => 0) (fun _ => 0) := ⟨zform_le x, fun k _ => ⟨rfl, Nat.zero_le _⟩, by rw [zcnt_0]; decide, fun k _ => Or.inr (Int32.le_refl _)⟩
theorem zRl_start {K : Nat → Int64} {lF lP lD : Nat → Int32} {lN : Nat → Int64} : zRl K (zkp (fun _ => 0) (fun _ => -1) 0 320) 0 lF lP lD lN (fun _ => 0) 0 := ⟨Nat.zero_le _, fun j h => absurd h (Nat.not_lt_zero _), fun j h => absurd h (by omega), fun j _ h => by unfold zkp; rw [if_pos ⟨Nat.zero_le _, by omega⟩], fun j _ => Or.inr (Int32.le_refl _), Int32.le_refl _⟩
theorem zn_out18 {x : Int32} (h : ∀ k, k < 18 → ¬ x = nI k) : x.toInt < 0 ∨ 17 < x.toInt := by
  rcases Int.lt_or_le x.toInt 0 with q | q
  · exact Or.inl q
  · refine Or.inr (Classical.byContradiction (fun z => ?_))
    have h1 : x.toInt.toNat < 18 := by omega
    refine h _ h1 ?_
    apply Int32.toInt_inj.mp
    rw [nI_toInt (by omega)]
    omega
