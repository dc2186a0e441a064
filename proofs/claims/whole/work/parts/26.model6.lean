/-! The reference: a sign mended, held against the class's count of bits. -/
/-- a number out of bits, the first one on top; how many of them are set -/
def zB (b : Nat → Bool) : Nat → Nat
  | 0 => 0
  | k + 1 => 2 * zB b k + (b k).toNat
def zpc (b : Nat → Bool) : Nat → Nat
  | 0 => 0
  | k + 1 => zpc b k + (b k).toNat
theorem zB_lt (b : Nat → Bool) (k : Nat) : zB b k < 2 ^ k := by
  induction k with
  | zero => exact Nat.one_pos
  | succ k ih => rw [zB, Nat.pow_succ]; have := Bool.toNat_le (b k); omega
theorem zpc_le (b : Nat → Bool) (k : Nat) : zpc b k ≤ k := by
  induction k with
  | zero => exact Nat.le_refl _
  | succ k ih => rw [zpc]; have := Bool.toNat_le (b k); omega
theorem zB_bit (b : Nat → Bool) : ∀ k j, j < k → (zB b k).testBit (k - 1 - j) = b j := by
  intro k
  induction k with
  | zero => intro j h; omega
  | succ k ih =>
    intro j h
    rw [zB]
    by_cases q : j = k
    · subst q
      rw [show j + 1 - 1 - j = 0 by omega, Nat.testBit_zero]
      cases b j
      · rw [decide_eq_false]; rw [Bool.toNat_false]; omega
      · rw [decide_eq_true]; rw [Bool.toNat_true]; omega
    · rw [show k + 1 - 1 - j = (k - 1 - j) + 1 by omega, Nat.testBit_succ, show (2 * zB b k + (b k).toNat) / 2 = zB b k by have := Bool.toNat_le (b k); omega]
      exact ih j (by omega)
theorem zB_eq {b c : Nat → Bool} {k : Nat} : zB b k = zB c k ↔ ∀ j, j < k → b j = c j := by
  constructor
  · intro h j hj; rw [← zB_bit b k j hj, h, zB_bit c k j hj]
  · intro h
    induction k with
    | zero => rfl
    | succ k ih => rw [zB, zB, ih (fun j hj => h j (by omega)), h k (by omega)]
theorem zpc_0 {b : Nat → Bool} {k : Nat} : zpc b k = 0 ↔ ∀ j, j < k → b j = false := by
  induction k with
  | zero => exact ⟨fun _ j h => absurd h (Nat.not_lt_zero _), fun _ => rfl⟩
  | succ k ih =>
    rw [zpc]
    constructor
    · intro h j hj
      by_cases q : j = k
      · rw [q]; cases hb : b k
        · rfl
        · rw [hb, Bool.toNat_true] at h; omega
      · exact ih.mp (by omega) j (by omega)
    · intro h; rw [ih.mpr (fun j hj => h j (by omega)), h k (by omega)]; rfl
theorem zB_0 {b : Nat → Bool} {k : Nat} : zB b k = 0 ↔ ∀ j, j < k → b j = false := by
  have e : zB (fun _ => false) k = 0 := by
    induction k with
    | zero => rfl
    | succ k ih => rw [zB, ih]; rfl
  rw [← e]; exact zB_eq
theorem nI_xor (a b : Nat) : nI a ^^^ nI b = nI (a ^^^ b) := by
  unfold nI
  apply Int32.toBitVec_inj.mp
  rw [Int32.toBitVec_xor, Int32.toBitVec_ofNat', Int32.toBitVec_ofNat', Int32.toBitVec_ofNat', BitVec.ofNat_xor]
theorem nI_and (a b : Nat) : nI a &&& nI b = nI (a &&& b) := by
  unfold nI
  apply Int32.toBitVec_inj.mp
  rw [Int32.toBitVec_and, Int32.toBitVec_ofNat', Int32.toBitVec_ofNat', Int32.toBitVec_ofNat', BitVec.ofNat_and]
theorem zB_mix (b c d : Nat → Bool) {k : Nat} (hk : k ≤ 32) : (zB b k ^^^ zB c k) &&& (zB d k ^^^ 4294967295) = zB (fun j => (b j ^^ c j) && !(d j)) k := by
  apply Nat.eq_of_testBit_eq
  intro i
  rw [Nat.testBit_and, Nat.testBit_xor, Nat.testBit_xor]
  rcases Nat.lt_or_ge i k with h | h
  · have e : k - 1 - (k - 1 - i) = i := by omega
    have hb := zB_bit b k (k - 1 - i) (by omega)
    have hc := zB_bit c k (k - 1 - i) (by omega)
    have hd := zB_bit d k (k - 1 - i) (by omega)
    have hm := zB_bit (fun j => (b j ^^ c j) && !(d j)) k (k - 1 - i) (by omega)
    rw [e] at hb hc hd hm
    rw [hb, hc, hd, hm, show (4294967295 : Nat) = 2 ^ 32 - 1 from rfl, Nat.testBit_two_pow_sub_one, decide_eq_true (by omega : i < 32), Bool.xor_true]
  · have hp : 2 ^ k ≤ 2 ^ i := Nat.pow_le_pow_right (by decide) h
    have lt : ∀ x : Nat → Bool, (zB x k).testBit i = false := fun x => Nat.testBit_lt_two_pow (Nat.lt_of_lt_of_le (zB_lt x k) hp)
    rw [lt b, lt c, lt d, lt _]; rfl
theorem zbc_7x : ∀ x0 x1 x2 x3 x4 x5 x6 : Bool, zbc (nI (2 * (2 * (2 * (2 * (2 * (2 * (2 * 0 + x0.toNat) + x1.toNat) + x2.toNat) + x3.toNat) + x4.toNat) + x5.toNat) + x6.toNat)) = nI (0 + x0.toNat + x1.toNat + x2.toNat + x3.toNat + x4.toNat + x5.toNat + x6.toNat) := by decide +kernel
theorem zbc_7 (b : Nat → Bool) : zbc (nI (zB b 7)) = nI (zpc b 7) := zbc_7x (b 0) (b 1) (b 2) (b 3) (b 4) (b 5) (b 6)
def zwb (v : Nat) (k : Nat) : Bool := decide (zbt (nI v) (nI k) = 1)
theorem zwd_B : ∀ v, v < 16 → zwd 1 (nI v) = nI (zB (zwb v) 7) := by decide +kernel
theorem zwb_B : ∀ v, v < 16 → zB (zwb v) 4 = v := by decide +kernel
theorem zbt_01 : ∀ v, v < 16 → ∀ k, k < 7 → zbt (nI v) (nI k) = 0 ∨ zbt (nI v) (nI k) = 1 := by decide +kernel
/-- the reference's counts of wrong and of erased modules -/
def zwc (fm n : Nat) (f : Nat → Int32) (a v : Nat) : Nat → Nat
  | 0 => 0
  | k + 1 => zwc fm n f a v k + (if f (zpl fm a k n) = 2 then 0 else if f (zpl fm a k n) = zbt (nI v) (nI k) then 0 else 1)
def zec (fm n : Nat) (f : Nat → Int32) (a : Nat) : Nat → Nat
  | 0 => 0
  | k + 1 => zec fm n f a k + (if f (zpl fm a k n) = 2 then 1 else 0)
def zmg (fm w e : Nat) : Prop := (fm = 0 ∧ w + e = 0) ∨ (fm ≠ 0 ∧ 2 * w + e ≤ 2)
noncomputable def zmm (fm n : Nat) (f : Nat → Int32) (a : Nat) : Nat → Nat → Int32 × Int32
  | 0, _ => (-1, 0)
  | k + 1, v => zi (zmg fm (zwc fm n f a v (zw fm)) (zec fm n f a (zw fm))) (zi (v ≤ 10) (nI v, nI (zwc fm n f a v (zw fm) + zec fm n f a (zw fm))) (-1, 0)) (zmm fm n f a k (v + 1))
def z3 (x : Int32) : Prop := x = 0 ∨ x = 1 ∨ x = 2
section ZMEND
variable {fm n a : Nat} {f : Nat → Int32}
theorem zone_B : ∀ k, zone fm n f a k = nI (zB (fun j => decide (f (zpl fm a j n) = 1)) k) := by
  intro k
  induction k with
  | zero => rfl
  | succ k ih =>
    rw [zone, zB, ih, show (2 : Int32) = nI 2 from rfl, pk_mul]
    by_cases q : f (zpl fm a k n) = 1
    · rw [if_pos q, decide_eq_true q, show (1 : Int32) = nI 1 from rfl, nI_add]; congr 1; rw [Bool.toNat_true]; omega
    · rw [if_neg q, decide_eq_false q, show (0 : Int32) = nI 0 from rfl, nI_add]; congr 1; rw [Bool.toNat_false]; omega
theorem zer_B : ∀ k, zer fm n f a k = nI (zB (fun j => decide (f (zpl fm a j n) = 2)) k) := by
  intro k
  induction k with
  | zero => rfl
  | succ k ih =>
    rw [zer, zB, ih, show (2 : Int32) = nI 2 from rfl, pk_mul]
    by_cases q : f (zpl fm a k n) = nI 2
    · rw [if_pos q, decide_eq_true q, show (1 : Int32) = nI 1 from rfl, nI_add]; congr 1; rw [Bool.toNat_true]; omega
    · rw [if_neg q, decide_eq_false q, show (0 : Int32) = nI 0 from rfl, nI_add]; congr 1; rw [Bool.toNat_false]; omega
theorem zec_pc : ∀ k, zec fm n f a k = zpc (fun j => decide (f (zpl fm a j n) = 2)) k := by
  intro k
  induction k with
  | zero => rfl
  | succ k ih =>
    rw [zec, zpc, ih]
    by_cases q : f (zpl fm a k n) = 2
    · rw [if_pos q, decide_eq_true q]; rfl
    · rw [if_neg q, decide_eq_false q]; rfl
theorem zwc_pc {v : Nat} (hv : v < 16) : ∀ k, k ≤ 7 → (∀ j, j < k → z3 (f (zpl fm a j n))) → zwc fm n f a v k = zpc (fun j => (zwb v j ^^ decide (f (zpl fm a j n) = 1)) && !(decide (f (zpl fm a j n) = 2))) k := by
  intro k
  induction k with
  | zero => intro _ _; rfl
  | succ k ih =>
    intro hk h3
    rw [zwc, zpc, ih (by omega) (fun j hj => h3 j (by omega))]
    congr 1
    unfold zwb
    rcases h3 k (by omega) with q | q | q <;> rcases zbt_01 v hv k (by omega) with z | z <;> rw [q, z] <;> decide
theorem zoth_n (hfm : fm ≠ 0) {v : Nat} (hv : v < 16) (h3 : ∀ j, j < 7 → z3 (f (zpl fm a j n))) : zoth fm (zone fm n f a 7) (zer fm n f a 7) v = nI (zwc fm n f a v 7) := by
  unfold zoth
  rw [zone_B, zer_B, show zwd fm (nI v) = zwd 1 (nI v) by unfold zwd; rw [if_neg hfm, if_neg (by decide)], zwd_B v hv, show (-1 : Int32) = nI 4294967295 by decide, nI_xor, nI_xor, nI_and, zB_mix _ _ _ (by decide), zbc_7, zwc_pc hv 7 (Nat.le_refl _) h3]
theorem zbc_er : zbc (zer fm n f a 7) = nI (zec fm n f a 7) := by rw [zer_B, zbc_7, zec_pc]
theorem zbad_n {v : Nat} (hv : v ≤ 16) : zbad (nI v) ↔ 10 < v := by
  unfold zbad
  constructor
  · rintro (h | h)
    · exact absurd h (nI_pos (by omega))
    · exact zn_nle (b := 10) h (by omega) (by decide)
  · intro h; exact Or.inr (nI_ge (a := 10) h (by omega))
theorem zmm_n (hfm : fm ≠ 0) (h3 : ∀ j, j < 7 → z3 (f (zpl fm a j n))) : ∀ k v, v + k ≤ 16 → zmm fm n f a k v = (zi (zbad (zmd fm (zone fm n f a 7) (zer fm n f a 7) k v).1) (-1) (zmd fm (zone fm n f a 7) (zer fm n f a 7) k v).1, (zmd fm (zone fm n f a 7) (zer fm n f a 7) k v).2) := by
  intro k
  induction k with
  | zero => intro v _; rw [zmm, zmd, zi_t (show zbad (-1) from Or.inl (by decide))]
  | succ k ih =>
    intro v hv
    have hw : zwc fm n f a v 7 ≤ 7 := by rw [zwc_pc (by omega) 7 (Nat.le_refl _) h3]; exact zpc_le _ _
    have he : zec fm n f a 7 ≤ 7 := by rw [zec_pc]; exact zpc_le _ _
    rw [zmm, zmd, zoth_n hfm (by omega) h3, zbc_er, zw_n hfm, show (2 : Int32) = nI 2 from rfl, pk_mul, nI_add]
    by_cases q : 2 * zwc fm n f a v 7 + zec fm n f a 7 ≤ 2
    · rw [zi_t (show zmg fm (zwc fm n f a v 7) (zec fm n f a 7) from Or.inr ⟨hfm, q⟩), if_pos (nI_le q (by decide))]
      by_cases z : v ≤ 10
      · rw [zi_t z, if_pos z, zi_f (fun y => by have := (zbad_n (by omega)).mp y; omega), nI_add]
      · rw [zi_f z, if_neg z, zi_t ((zbad_n (by omega)).mpr (by omega))]
    · rw [zi_f (show ¬ zmg fm (zwc fm n f a v 7) (zec fm n f a 7) from fun z => z.elim (fun y => hfm y.1) (fun y => q y.2)), if_neg (nI_ge (a := 2) (by omega) (by omega)), ih (v + 1) (by omega)]
theorem zmm_0 (h3 : ∀ j, j < 4 → z3 (f (zpl 0 a j n))) : zmm 0 n f a 16 0 = (zi (zbad (zsg 0 n f a).1) (-1) (zsg 0 n f a).1, (zsg 0 n f a).2) := by
  have hw0 : zw 0 = 4 := rfl
  unfold zsg
  rw [if_pos rfl, hw0, zer_B, zone_B]
  have hE : (nI (zB (fun j => decide (f (zpl 0 a j n) = 2)) 4) = 0) ↔ zec 0 n f a 4 = 0 := by
    have := zB_lt (fun j => decide (f (zpl 0 a j n) = 2)) 4
    rw [zec_pc, zpc_0, ← zB_0]
    constructor
    · intro q; exact zn_eq (b := 0) q (by omega) (by decide)
    · intro q; rw [q]; rfl
  by_cases he : zec 0 n f a 4 = 0
  · rw [if_pos (hE.mpr he)]
    have hV := zB_lt (fun j => decide (f (zpl 0 a j n) = 1)) 4
    have hno : ∀ j, j < 4 → decide (f (zpl 0 a j n) = 2) = false := by rw [zec_pc] at he; exact zpc_0.mp he
    have hg : ∀ v, v < 16 → (zmg 0 (zwc 0 n f a v 4) (zec 0 n f a 4) ↔ v = zB (fun j => decide (f (zpl 0 a j n) = 1)) 4) := by
      intro v hv
      have e1 : zwc 0 n f a v 4 = 0 ↔ v = zB (fun j => decide (f (zpl 0 a j n) = 1)) 4 := by
        rw [zwc_pc hv 4 (by decide) h3, zpc_0]
        conv => rhs; lhs; rw [← zwb_B v hv]
        rw [zB_eq]
        constructor
        · intro q j hj; have := q j hj; (try dsimp only at this); rw [hno j hj] at this; revert this; cases zwb v j <;> cases decide (f (zpl 0 a j n) = 1) <;> decide
        · intro q j hj; (try dsimp only); rw [hno j hj, q j hj]; cases decide (f (zpl 0 a j n) = 1) <;> rfl
      rw [← e1]
      constructor
      · rintro (q | q)
        · omega
        · exact absurd rfl q.1
      · intro q; exact Or.inl ⟨rfl, by omega⟩
    generalize hVV : zB (fun j => decide (f (zpl 0 a j n) = 1)) 4 = V at hV hg ⊢
    have key : ∀ k v, v + k = 16 → v ≤ V → zmm 0 n f a k v = (zi (zbad (nI V)) (-1) (nI V), 0) := by
      intro k
      induction k with
      | zero => intro v h1 h2; omega
      | succ k ih =>
        intro v h1 h2
        rw [zmm, hw0]
        by_cases q : v = V
        · rw [zi_t ((hg v (by omega)).mpr q)]
          have hz : zwc 0 n f a v 4 + zec 0 n f a 4 = 0 := ((hg v (by omega)).mpr q).elim (fun z => z.2) (fun z => absurd rfl z.1)
          rw [hz, q]
          by_cases z : V ≤ 10
          · rw [zi_t z, zi_f (fun y => by have := (zbad_n (by omega)).mp y; omega)]; rfl
          · rw [zi_f z, zi_t ((zbad_n (by omega)).mpr (by omega))]
        · rw [zi_f (fun z => q ((hg v (by omega)).mp z)), ih (v + 1) (by omega) (by omega)]
    exact key 16 0 rfl (Nat.zero_le _)
  · rw [if_neg (fun q => he (hE.mp q)), zi_t (show zbad (-1) from Or.inl (by decide))]
    have key : ∀ k v, zmm 0 n f a k v = (-1, 0) := by
      intro k
      induction k with
      | zero => intro v; rfl
      | succ k ih => intro v; rw [zmm, hw0, zi_f (show ¬ zmg 0 (zwc 0 n f a v 4) (zec 0 n f a 4) from fun z => z.elim (fun y => he (by omega)) (fun y => y.1 rfl))]; exact ih (v + 1)
    exact key 16 0
theorem zmm_eq (h3 : ∀ j, j < zw fm → z3 (f (zpl fm a j n))) : zmm fm n f a 16 0 = (zi (zbad (zsg fm n f a).1) (-1) (zsg fm n f a).1, (zsg fm n f a).2) := by
  by_cases hfm : fm = 0
  · subst hfm; exact zmm_0 h3
  · rw [zw_n hfm] at h3
    unfold zsg
    rw [if_neg hfm, zw_n hfm]
    exact zmm_n hfm h3 16 0 (by decide)
theorem zwc_le (fm n : Nat) (f : Nat → Int32) (a v k : Nat) : zwc fm n f a v k ≤ k := by
  induction k with
  | zero => exact Nat.le_refl _
  | succ k ih => rw [zwc]; split <;> (try split) <;> omega
theorem zec_le (fm n : Nat) (f : Nat → Int32) (a k : Nat) : zec fm n f a k ≤ k := by
  induction k with
  | zero => exact Nat.le_refl _
  | succ k ih => rw [zec]; split <;> omega
theorem znb_v {x : Int32} (h : ¬ zbad x) : ∃ v, v ≤ 10 ∧ x = nI v := by
  have h1 : ¬ x < 0 := fun q => h (Or.inl q)
  have h2 : x ≤ 10 := Classical.byContradiction (fun q => h (Or.inr q))
  exact nI_of2 (M := 10) (n := 10) (by decide) h1 h2
end ZMEND

set_option maxHeartbeats 4000000 in
set_option maxRecDepth 100000 in
theorem c_X7_mend (l : Launch) (dC : Nat → ClassId) (dI : Nat → Nat → Nat) (cI cZ cJ : ClassId) (h : Nat) (thr : Int32) (fm : Nat) (bL : Nat) (bF : Nat) (bS : Nat) (bN : Nat) (wc : Nat) (bwp : Nat) (bwg : Nat) (bwv : Nat) (mn : Nat) (bmo : Nat) (rn : Nat) (brd : Nat) (tn : Nat) (bty : Nat) (mm : Int32) (sgn : Nat) (bsg : Nat) (fc : Nat) (bpf : Nat) (bpg : Nat) (bpv : Nat) (u : Int32) (lb : Nat) (blF : Nat) (blP : Nat) (blD : Nat) (blN : Nat) (bwn : Nat) (lat : Int32) (bla : Nat) (rf : Nat → Int32) (a : Nat) (n : Nat) (hf : fm ≤ 2) (ha : a < n) (hn : n * zw fm ≤ 420) (hrf : ∀ j, j < n * zw fm → z3 (rf j)) (sz : Nat) : Met l yX7_mend wsX7_mend ({ frames := 2, cells := 0, slots := 0, locals := 43 }) (zc_PW [.ref h, .int (nI a), .int (nI n)] (dC, dI) (zc_T cI cZ cJ) [(h, .inr (8, [.int thr, .int (nI fm), .ref bL, .ref bF, .ref bS, .ref bN, .int (nI wc), .ref bwp, .ref bwg, .ref bwv, .int (nI mn), .ref bmo, .int (nI rn), .ref brd, .int (nI tn), .ref bty, .int mm, .int (nI sgn), .ref bsg, .int (nI fc), .ref bpf, .ref bpg, .ref bpv, .int u, .int (nI lb), .ref blF, .ref blP, .ref blD, .ref blN, .ref bwn, .int lat, .ref bla])), (brd, .inl (cI, 420, .inl rf))] sz) (va_Qi (fun (r : Int32) (_ : Unit) => r = zi (zbad (zsg fm n rf a).1) (-1) (zsg fm n rf a).1) (fun _ t => zc_B (dC, dI) (zc_T cI cZ cJ) (va_A [(h, .inr (8, [.int thr, .int (nI fm), .ref bL, .ref bF, .ref bS, .ref bN, .int (nI wc), .ref bwp, .ref bwg, .ref bwv, .int (nI mn), .ref bmo, .int (nI rn), .ref brd, .int (nI tn), .ref bty, .int mm, .int (nI sgn), .ref bsg, .int (nI fc), .ref bpf, .ref bpg, .ref bpv, .int u, .int (nI lb), .ref blF, .ref blP, .ref blD, .ref blN, .ref bwn, .int lat, .ref bla])), (brd, .inl (cI, 420, .inl rf))] sz) [(h, .inr (8, [.int thr, .int (nI fm), .ref bL, .ref bF, .ref bS, .ref bN, .int (nI wc), .ref bwp, .ref bwg, .ref bwv, .int (nI mn), .ref bmo, .int (nI rn), .ref brd, .int (nI tn), .ref bty, .int (mm + (zsg fm n rf a).2), .int (nI sgn), .ref bsg, .int (nI fc), .ref bpf, .ref bpg, .ref bpv, .int u, .int (nI lb), .ref blF, .ref blP, .ref blD, .ref blN, .ref bwn, .int lat, .ref bla])), (brd, .inl (cI, 420, .inl rf))] t) (va_A [(h, .inr (8, [.int thr, .int (nI fm), .ref bL, .ref bF, .ref bS, .ref bN, .int (nI wc), .ref bwp, .ref bwg, .ref bwv, .int (nI mn), .ref bmo, .int (nI rn), .ref brd, .int (nI tn), .ref bty, .int mm, .int (nI sgn), .ref bsg, .int (nI fc), .ref bpf, .ref bpg, .ref bpv, .int u, .int (nI lb), .ref blF, .ref blP, .ref blD, .ref blN, .ref bwn, .int lat, .ref bla])), (brd, .inl (cI, 420, .inl rf))] sz)) 0 0 (va_A [(h, .inr (8, [.int thr, .int (nI fm), .ref bL, .ref bF, .ref bS, .ref bN, .int (nI wc), .ref bwp, .ref bwg, .ref bwv, .int (nI mn), .ref bmo, .int (nI rn), .ref brd, .int (nI tn), .ref bty, .int mm, .int (nI sgn), .ref bsg, .int (nI fc), .ref bpf, .ref bpg, .ref bpv, .int u, .int (nI lb), .ref blF, .ref blP, .ref blD, .ref blN, .ref bwn, .int lat, .ref bla])), (brd, .inl (cI, 420, .inl rf))] sz) := by
  refine Met.ofW (cc := cX7_mend) (maxL := 8) (ret := (some .int)) (by decide) rfl ?_
  intro p e s m args below meth c s₁ B hml hv
  obtain ⟨rfl, hsz, hP, hK, hD0⟩ := hv
  have hx := B.exec
  have hb := B.bytes
  have hr := B.returns
  have hts := atoms_spec (ws := wsX7_mend) B.pre
  have hown : s.vm.findClass RX7 = some m.cls := findClass_of_methodNamed B.named
  have hlocks := B.notSynchronized
  subst hsz
  have hD := hD0.self (sz := s.heap.size)
  generalize hAe : va_A [(h, .inr (8, [.int thr, .int (nI fm), .ref bL, .ref bF, .ref bS, .ref bN, .int (nI wc), .ref bwp, .ref bwg, .ref bwv, .int (nI mn), .ref bmo, .int (nI rn), .ref brd, .int (nI tn), .ref bty, .int mm, .int (nI sgn), .ref bsg, .int (nI fc), .ref bpf, .ref bpg, .ref bpv, .int u, .int (nI lb), .ref blF, .ref blP, .ref blD, .ref blN, .ref bwn, .int lat, .ref bla])), (brd, .inl (cI, 420, .inl rf))] s.heap.size = A at hD ⊢
  have hA : ∀ q : Nat, s.heap.size ≤ q → A q := fun q h => by rw [← hAe]; exact Or.inr h
  have hS : va_S A s.heap s.heap [] := va_S.rf
  have hinX7 : ∀ w ∈ wsX70, w ∈ wsX7_mend := by decide +kernel
  have hl := lv_entry ([.ref h, .int (nI a), .int (nI n)]) (n := 8) (Nat.le_of_ble_eq_true rfl)
  rw [lg_entry_eq]
  generalize (lg_sl ([.ref h, .int (nI a), .int (nI n)]) ++ List.replicate (8 - (lg_sl ([.ref h, .int (nI a), .int (nI n)])).length) Slot.unset).toArray = ls at hl ⊢
  have hl : lv_has ls 8 [(0, .ref h), (1, .int (nI a)), (2, .int (nI n))] := hl
  have hZ := zmm_eq (fm := fm) (n := n) (a := a) (f := rf) (fun j hj => hrf _ (zpl_lt ha hj))
  have e1 : zi (zbad (zsg fm n rf a).1) (-1) (zsg fm n rf a).1 = (zmm fm n rf a 16 0).1 := by rw [hZ]
  have e2 : (zsg fm n rf a).2 = (zmm fm n rf a 16 0).2 := by rw [hZ]
  refine lv_iconst (v := 0) hx hb dX7_mend_0 (by decide) ?_
  refine lv_istore_n (lv' := [(3, .int 0), (0, .ref h), (1, .int (nI a)), (2, .int (nI n))]) hx hb dX7_mend_1 rfl hl (by decide) rfl (fun ls hl => ?_)
  refine zc_loop (α := Nat) (fun v ls => lv_has ls 8 [(3, .int (nI v)), (0, .ref h), (1, .int (nI a)), (2, .int (nI n))] ∧ (v ≤ 16) ∧ (zmm fm n rf a (16 - v) v = zmm fm n rf a 16 0)) (fun v => 16 - v) 0 ⟨lv_sub hl [0, 1, 2, 3] rfl, Nat.zero_le _, rfl⟩ ?_
  intro x ls hI ih2
  obtain ⟨v, rfl⟩ : ∃ z, z = x := ⟨_, rfl⟩
  obtain ⟨hl, hi1, hi2⟩ := hI
  have hl : lv_has ls 8 [(3, .int (nI v)), (0, .ref h), (1, .int (nI a)), (2, .int (nI n))] := hl
  try dsimp only at ih2
  refine lv_iload_n hx hb dX7_mend_2 rfl (lv_at hl 0 rfl) ?_
  refine lv_bipush (v := 16) hx hb dX7_mend_3 (by decide) ?_
  refine lv_icmp_ge (tgt := 149) hx hb dX7_mend_5 (by decide) (fun c5 => ?_) (fun c5 => ?_)
  · have hgev := zn_le (a := 16) c5 (by decide) (by omega)
    have hR : zmm fm n rf a 16 0 = (-1, 0) := by rw [← hi2, show 16 - v = 0 by omega]; rfl
    refine lv_iconst (v := (-1)) hx hb dX7_mend_149 (by decide) ?_
    have hP9 : va_P (dC, dI) vwCl [(h, .inr (8, [.int thr, .int (nI fm), .ref bL, .ref bF, .ref bS, .ref bN, .int (nI wc), .ref bwp, .ref bwg, .ref bwv, .int (nI mn), .ref bmo, .int (nI rn), .ref brd, .int (nI tn), .ref bty, .int (mm + (zsg fm n rf a).2), .int (nI sgn), .ref bsg, .int (nI fc), .ref bpf, .ref bpg, .ref bpv, .int u, .int (nI lb), .ref blF, .ref blP, .ref blD, .ref blN, .ref bwn, .int lat, .ref bla])), (brd, .inl (cI, 420, .inl rf))] s.heap := by rw [e2, hR]; dsimp only; rw [Int32.add_zero]; exact hP
    have hD9 : va_D A [(h, .inr (8, [.int thr, .int (nI fm), .ref bL, .ref bF, .ref bS, .ref bN, .int (nI wc), .ref bwp, .ref bwg, .ref bwv, .int (nI mn), .ref bmo, .int (nI rn), .ref brd, .int (nI tn), .ref bty, .int (mm + (zsg fm n rf a).2), .int (nI sgn), .ref bsg, .int (nI fc), .ref bpf, .ref bpg, .ref bpv, .int u, .int (nI lb), .ref blF, .ref blP, .ref blD, .ref blN, .ref bwn, .int lat, .ref bla])), (brd, .inl (cI, 420, .inl rf))] := by rw [e2, hR]; dsimp only; rw [Int32.add_zero]; exact hD
    have hres : ((-1) : Int32) = zi (zbad (zsg fm n rf a).1) (-1) (zsg fm n rf a).1 := by rw [e1, hR]
    exact W.iret (v := (-1)) hx hb hr (fun t ht hW => ⟨⟨_, (), rfl, hres, by rw [ht]; exact hP9, va_K.moved hW.alike hK, hD9⟩, hS.F ht⟩) hS.2.2 dX7_mend_150
  · have hltv := zn_nle (a := 16) c5 (by decide) (by omega)
    obtain ⟨k2, hk2⟩ : ∃ k2, 16 - v = k2 + 1 := ⟨16 - v - 1, by omega⟩
    have hw7 := zw_le fm
    have hwc7 := zwc_le fm n rf a v (zw fm)
    have hec7 := zec_le fm n rf a (zw fm)
    refine lv_iconst (v := 0) hx hb dX7_mend_8 (by decide) ?_
    refine lv_istore (lv' := [(4, .int 0), (3, .int (nI v)), (0, .ref h), (1, .int (nI a)), (2, .int (nI n))]) hx hb dX7_mend_9 hl (by decide) rfl (fun ls hl => ?_)
    refine lv_iconst (v := 0) hx hb dX7_mend_11 (by decide) ?_
    refine lv_istore (lv' := [(5, .int 0), (4, .int 0), (3, .int (nI v)), (0, .ref h), (1, .int (nI a)), (2, .int (nI n))]) hx hb dX7_mend_12 hl (by decide) rfl (fun ls hl => ?_)
    refine lv_iconst (v := 0) hx hb dX7_mend_14 (by decide) ?_
    refine lv_istore (lv' := [(6, .int 0), (5, .int 0), (4, .int 0), (3, .int (nI v)), (0, .ref h), (1, .int (nI a)), (2, .int (nI n))]) hx hb dX7_mend_15 hl (by decide) rfl (fun ls hl => ?_)
    refine zc_loop (α := Nat) (fun k ls => lv_has ls 8 [(6, .int (nI k)), (5, .int (nI (zec fm n rf a k))), (4, .int (nI (zwc fm n rf a v k))), (3, .int (nI v)), (0, .ref h), (1, .int (nI a)), (2, .int (nI n))] ∧ (k ≤ zw fm)) (fun k => zw fm - k) 0 ⟨lv_sub hl [0, 1, 2, 3, 4, 5, 6] rfl, Nat.zero_le _⟩ ?_
    intro x ls hI ih17
    obtain ⟨k, rfl⟩ : ∃ z, z = x := ⟨_, rfl⟩
    obtain ⟨hl, hk1⟩ := hI
    have hl : lv_has ls 8 [(6, .int (nI k)), (5, .int (nI (zec fm n rf a k))), (4, .int (nI (zwc fm n rf a v k))), (3, .int (nI v)), (0, .ref h), (1, .int (nI a)), (2, .int (nI n))] := hl
    try dsimp only at ih17
    refine lv_iload hx hb dX7_mend_17 (lv_at hl 0 rfl) ?_
    refine lv_aload_n hx hb dX7_mend_19 rfl (lv_at hl 4 rfl) ?_
    refine zc_callR (va_runV (As := []) (rest := [.int (nI k)]) ⟨hx, hb, hml, hown, hts⟩ (c_X7_width l dC dI cI cZ cJ h thr fm bL bF bS bN wc bwp bwg bwv mn bmo rn brd tn bty mm sgn bsg fc bpf bpg bpv u lb blF blP blD blN bwn lat bla (by first | assumption | omega)) (zc_V 0 hts ggX7_mend_X7_width rfl rfl rfl (by decide +kernel) (by decide +kernel) ⟨Nat.le_of_ble_eq_true rfl, Nat.le_of_ble_eq_true rfl⟩) ⟨zc_blind, va_recv hK hP (ci := 8) (q0 := 0) rfl rfl, zc_pay (hP.sub (ws' := [(h, .inr (8, [.int thr, .int (nI fm), .ref bL, .ref bF, .ref bS, .ref bN, .int (nI wc), .ref bwp, .ref bwg, .ref bwv, .int (nI mn), .ref bmo, .int (nI rn), .ref brd, .int (nI tn), .ref bty, .int mm, .int (nI sgn), .ref bsg, .int (nI fc), .ref bpf, .ref bpg, .ref bpv, .int u, .int (nI lb), .ref blF, .ref blP, .ref blD, .ref blN, .ref bwn, .int lat, .ref bla]))]) [0] rfl) hK⟩ rfl rfl hl.1 rfl (lv_room (Nat.le_of_ble_eq_true rfl)) dX7_mend_20 ⟨Nat.le_of_ble_eq_true rfl, Nat.le_of_ble_eq_true rfl⟩) ?_
    refine lv_icmp_ge (tgt := 73) hx hb dX7_mend_23 (by decide) (fun c23 => ?_) (fun c23 => ?_)
    · have hgek := zn_le c23 (by omega) (by omega)
      have hkw : k = zw fm := by omega
      rw [hkw] at hl
      refine zc_cut (g' := F0 m 112 ls [.int (zb (zmg fm (zwc fm n rf a v (zw fm)) (zec fm n rf a (zw fm))))]) ?_ (fun J112 => ?_)
      · refine lv_istore (lv' := [(6, .int (zb (zmg fm (zwc fm n rf a v (zw fm)) (zec fm n rf a (zw fm))))), (5, .int (nI (zec fm n rf a (zw fm)))), (4, .int (nI (zwc fm n rf a v (zw fm)))), (3, .int (nI v)), (0, .ref h), (1, .int (nI a)), (2, .int (nI n))]) hx hb dX7_mend_112 hl (by decide) rfl (fun ls hl => ?_)
        refine lv_iload hx hb dX7_mend_114 (lv_at hl 0 rfl) ?_
        refine lv_if_eq (tgt := 143) hx hb dX7_mend_116 (by decide) (fun c116 => ?_) (fun c116 => ?_)
        · have hng := zb_0 c116
          refine lv_iinc (v := nI (v + 1)) (lv' := [(3, .int (nI (v + 1))), (6, .int (zb (zmg fm (zwc fm n rf a v (zw fm)) (zec fm n rf a (zw fm))))), (5, .int (nI (zec fm n rf a (zw fm)))), (4, .int (nI (zwc fm n rf a v (zw fm)))), (0, .ref h), (1, .int (nI a)), (2, .int (nI n))]) hx hb dX7_mend_143 hl (k := 3) rfl (nI_1 v) (by decide) rfl (fun ls hl => ?_)
          refine lv_goto (tgt := 2) hx hb dX7_mend_146 (by decide) ?_
          exact ih2 (v + 1) _ (by omega) ⟨lv_sub hl [0, 4, 5, 6] rfl, hltv, by rw [← hi2, hk2, zmm, zi_f hng, show 16 - (v + 1) = k2 by omega]⟩
        · have hg := zb_1 c116
          refine lv_iload_n hx hb dX7_mend_119 rfl (lv_at hl 3 rfl) ?_
          refine lv_bipush (v := 10) hx hb dX7_mend_120 (by decide) ?_
          refine lv_icmp_le (tgt := 127) hx hb dX7_mend_122 (by decide) (fun c122 => ?_) (fun c122 => ?_)
          · have hv10 := zn_le (b := 10) c122 (by omega) (by decide)
            have hR : zmm fm n rf a 16 0 = (nI v, nI (zwc fm n rf a v (zw fm) + zec fm n rf a (zw fm))) := by rw [← hi2, hk2, zmm, zi_t hg, zi_t hv10]
            refine lv_aload_n hx hb dX7_mend_127 rfl (lv_at hl 4 rfl) ?_
            refine lv_dup hx hb dX7_mend_128 rfl ?_
            refine va_get (D := (dC, dI)) (ci := 8) (v := .int mm) (C := RX7) (T := TX7) (N := 32) hx hb hts hinX7 hown hK hP 0 rfl rfl 16 (by decide) (hts (.fieldLink RX7 58 "ScanCodesModel" "mendedNow" "I") (by decide +kernel)) (fun _ h9 => h9) rfl dX7_mend_129 ?_
            refine lv_iload hx hb dX7_mend_132 (lv_at hl 2 rfl) ?_
            refine lv_iload hx hb dX7_mend_134 (lv_at hl 1 rfl) ?_
            refine lv_iadd hx hb dX7_mend_136 ?_
            refine zc_ti (y := nI (zwc fm n rf a v (zw fm) + zec fm n rf a (zw fm))) (nI_add _ _) ?_
            refine lv_iadd hx hb dX7_mend_137 ?_
            refine va_put (D := (dC, dI)) (ci := 8) (v := .int (mm + (nI (zwc fm n rf a v (zw fm) + zec fm n rf a (zw fm))))) (ty := .int) (C := RX7) (T := TX7) (N := 32) hx hb hts hinX7 tyX7 tyX7_ok nmX7 hown hK hP hD hS 0 rfl rfl 16 (by decide) (hts (.fieldLink RX7 58 "ScanCodesModel" "mendedNow" "I") (by decide +kernel)) (fun _ h9 => h9) rfl (by decide +kernel) rfl rfl (Nat.le_of_ble_eq_true rfl) dX7_mend_138 (fun H locs hP hD hS => ?_)
            have hP : va_P (dC, dI) vwCl [(h, .inr (8, [.int thr, .int (nI fm), .ref bL, .ref bF, .ref bS, .ref bN, .int (nI wc), .ref bwp, .ref bwg, .ref bwv, .int (nI mn), .ref bmo, .int (nI rn), .ref brd, .int (nI tn), .ref bty, .int (mm + (nI (zwc fm n rf a v (zw fm) + zec fm n rf a (zw fm)))), .int (nI sgn), .ref bsg, .int (nI fc), .ref bpf, .ref bpg, .ref bpv, .int u, .int (nI lb), .ref blF, .ref blP, .ref blD, .ref blN, .ref bwn, .int lat, .ref bla])), (brd, .inl (cI, 420, .inl rf))] H := hP
            have hD : va_D A [(h, .inr (8, [.int thr, .int (nI fm), .ref bL, .ref bF, .ref bS, .ref bN, .int (nI wc), .ref bwp, .ref bwg, .ref bwv, .int (nI mn), .ref bmo, .int (nI rn), .ref brd, .int (nI tn), .ref bty, .int (mm + (nI (zwc fm n rf a v (zw fm) + zec fm n rf a (zw fm)))), .int (nI sgn), .ref bsg, .int (nI fc), .ref bpf, .ref bpg, .ref bpv, .int u, .int (nI lb), .ref blF, .ref blP, .ref blD, .ref blN, .ref bwn, .int lat, .ref bla])), (brd, .inl (cI, 420, .inl rf))] := hD
            refine lv_iload_n hx hb dX7_mend_141 rfl (lv_at hl 3 rfl) ?_
            have hP9 : va_P (dC, dI) vwCl [(h, .inr (8, [.int thr, .int (nI fm), .ref bL, .ref bF, .ref bS, .ref bN, .int (nI wc), .ref bwp, .ref bwg, .ref bwv, .int (nI mn), .ref bmo, .int (nI rn), .ref brd, .int (nI tn), .ref bty, .int (mm + (zsg fm n rf a).2), .int (nI sgn), .ref bsg, .int (nI fc), .ref bpf, .ref bpg, .ref bpv, .int u, .int (nI lb), .ref blF, .ref blP, .ref blD, .ref blN, .ref bwn, .int lat, .ref bla])), (brd, .inl (cI, 420, .inl rf))] H := by rw [e2, hR]; exact hP
            have hD9 : va_D A [(h, .inr (8, [.int thr, .int (nI fm), .ref bL, .ref bF, .ref bS, .ref bN, .int (nI wc), .ref bwp, .ref bwg, .ref bwv, .int (nI mn), .ref bmo, .int (nI rn), .ref brd, .int (nI tn), .ref bty, .int (mm + (zsg fm n rf a).2), .int (nI sgn), .ref bsg, .int (nI fc), .ref bpf, .ref bpg, .ref bpv, .int u, .int (nI lb), .ref blF, .ref blP, .ref blD, .ref blN, .ref bwn, .int lat, .ref bla])), (brd, .inl (cI, 420, .inl rf))] := by rw [e2, hR]; exact hD
            have hres : (nI v) = zi (zbad (zsg fm n rf a).1) (-1) (zsg fm n rf a).1 := by rw [e1, hR]
            exact W.iret (v := nI v) hx hb hr (fun t ht hW => ⟨⟨_, (), rfl, hres, by rw [ht]; exact hP9, va_K.moved hW.alike hK, hD9⟩, hS.F ht⟩) hS.2.2 dX7_mend_142
          · have hv10 := zn_nle (b := 10) c122 (by omega) (by decide)
            have hR : zmm fm n rf a 16 0 = (-1, 0) := by rw [← hi2, hk2, zmm, zi_t hg, zi_f (by omega)]
            refine lv_iconst (v := (-1)) hx hb dX7_mend_125 (by decide) ?_
            have hP9 : va_P (dC, dI) vwCl [(h, .inr (8, [.int thr, .int (nI fm), .ref bL, .ref bF, .ref bS, .ref bN, .int (nI wc), .ref bwp, .ref bwg, .ref bwv, .int (nI mn), .ref bmo, .int (nI rn), .ref brd, .int (nI tn), .ref bty, .int (mm + (zsg fm n rf a).2), .int (nI sgn), .ref bsg, .int (nI fc), .ref bpf, .ref bpg, .ref bpv, .int u, .int (nI lb), .ref blF, .ref blP, .ref blD, .ref blN, .ref bwn, .int lat, .ref bla])), (brd, .inl (cI, 420, .inl rf))] s.heap := by rw [e2, hR]; dsimp only; rw [Int32.add_zero]; exact hP
            have hD9 : va_D A [(h, .inr (8, [.int thr, .int (nI fm), .ref bL, .ref bF, .ref bS, .ref bN, .int (nI wc), .ref bwp, .ref bwg, .ref bwv, .int (nI mn), .ref bmo, .int (nI rn), .ref brd, .int (nI tn), .ref bty, .int (mm + (zsg fm n rf a).2), .int (nI sgn), .ref bsg, .int (nI fc), .ref bpf, .ref bpg, .ref bpv, .int u, .int (nI lb), .ref blF, .ref blP, .ref blD, .ref blN, .ref bwn, .int lat, .ref bla])), (brd, .inl (cI, 420, .inl rf))] := by rw [e2, hR]; dsimp only; rw [Int32.add_zero]; exact hD
            have hres : ((-1) : Int32) = zi (zbad (zsg fm n rf a).1) (-1) (zsg fm n rf a).1 := by rw [e1, hR]
            exact W.iret (v := (-1)) hx hb hr (fun t ht hW => ⟨⟨_, (), rfl, hres, by rw [ht]; exact hP9, va_K.moved hW.alike hK, hD9⟩, hS.F ht⟩) hS.2.2 dX7_mend_126
      · refine lv_aload_n hx hb dX7_mend_73 rfl (lv_at hl 4 rfl) ?_
        refine va_get (D := (dC, dI)) (ci := 8) (v := .int (nI fm)) (C := RX7) (T := TX7) (N := 32) hx hb hts hinX7 hown hK hP 0 rfl rfl 1 (by decide) (hts (.fieldLink RX7 106 "ScanCodesModel" "form" "I") (by decide +kernel)) (fun _ h9 => h9) rfl dX7_mend_74 ?_
        refine lv_if_ne (tgt := 96) hx hb dX7_mend_77 (by decide) (fun c77 => ?_) (fun c77 => ?_)
        · have h2 := zn_ne (b := 0) c77 (by omega) (by decide)
          refine lv_iconst (v := 2) hx hb dX7_mend_96 (by decide) ?_
          refine lv_iload hx hb dX7_mend_97 (lv_at hl 2 rfl) ?_
          refine lv_imul hx hb dX7_mend_99 ?_
          refine lv_iload hx hb dX7_mend_100 (lv_at hl 1 rfl) ?_
          refine lv_iadd hx hb dX7_mend_102 ?_
          refine zc_ti (y := nI (2 * zwc fm n rf a v (zw fm) + zec fm n rf a (zw fm))) (by rw [show (2 : Int32) = nI 2 from rfl, pk_mul, nI_add]) ?_
          refine lv_iconst (v := 2) hx hb dX7_mend_103 (by decide) ?_
          refine lv_icmp_gt (tgt := 111) hx hb dX7_mend_104 (by decide) (fun c104 => ?_) (fun c104 => ?_)
          · refine lv_iconst (v := 0) hx hb dX7_mend_111 (by decide) ?_
            refine zc_ti (y := zb (zmg fm (zwc fm n rf a v (zw fm)) (zec fm n rf a (zw fm)))) ((zb_f (fun q => q.elim (fun z => h2 z.1) (fun z => by have := zn_lt (a := 2) c104 (by decide) (by omega); omega))).symm) ?_
            exact J112
          · refine lv_iconst (v := 1) hx hb dX7_mend_107 (by decide) ?_
            refine lv_goto (tgt := 112) hx hb dX7_mend_108 (by decide) ?_
            refine zc_ti (y := zb (zmg fm (zwc fm n rf a v (zw fm)) (zec fm n rf a (zw fm)))) ((zb_t (Or.inr ⟨h2, by have := zn_nlt (a := 2) c104 (by decide) (by omega); omega⟩)).symm) ?_
            exact J112
        · have h2 := zn_eq (b := 0) c77 (by omega) (by decide)
          refine lv_iload hx hb dX7_mend_80 (lv_at hl 2 rfl) ?_
          refine lv_iload hx hb dX7_mend_82 (lv_at hl 1 rfl) ?_
          refine lv_iadd hx hb dX7_mend_84 ?_
          refine zc_ti (y := nI (zwc fm n rf a v (zw fm) + zec fm n rf a (zw fm))) (nI_add _ _) ?_
          refine lv_if_ne (tgt := 92) hx hb dX7_mend_85 (by decide) (fun c85 => ?_) (fun c85 => ?_)
          · refine lv_iconst (v := 0) hx hb dX7_mend_92 (by decide) ?_
            refine lv_goto (tgt := 112) hx hb dX7_mend_93 (by decide) ?_
            refine zc_ti (y := zb (zmg fm (zwc fm n rf a v (zw fm)) (zec fm n rf a (zw fm)))) ((zb_f (fun q => q.elim (fun z => c85 (by rw [z.2]; rfl)) (fun z => z.1 h2))).symm) ?_
            exact J112
          · refine lv_iconst (v := 1) hx hb dX7_mend_88 (by decide) ?_
            refine lv_goto (tgt := 112) hx hb dX7_mend_89 (by decide) ?_
            refine zc_ti (y := zb (zmg fm (zwc fm n rf a v (zw fm)) (zec fm n rf a (zw fm)))) ((zb_t (Or.inl ⟨h2, zn_eq (b := 0) c85 (by omega) (by decide)⟩)).symm) ?_
            exact J112
    · have hltk := zn_nle c23 (by omega) (by omega)
      have hpl := zpl_lt ha hltk
      have hp9 : zpl fm a k n < 420 := by omega
      refine lv_aload_n hx hb dX7_mend_26 rfl (lv_at hl 4 rfl) ?_
      refine va_get (D := (dC, dI)) (ci := 8) (v := .ref brd) (C := RX7) (T := TX7) (N := 32) hx hb hts hinX7 hown hK hP 0 rfl rfl 13 (by decide) (hts (.fieldLink RX7 49 "ScanCodesModel" "readModules" "[I") (by decide +kernel)) (fun _ h9 => h9) rfl dX7_mend_27 ?_
      refine lv_aload_n hx hb dX7_mend_30 rfl (lv_at hl 4 rfl) ?_
      refine lv_iload_n hx hb dX7_mend_31 rfl (lv_at hl 5 rfl) ?_
      refine lv_iload hx hb dX7_mend_32 (lv_at hl 0 rfl) ?_
      refine lv_iload_n hx hb dX7_mend_34 rfl (lv_at hl 6 rfl) ?_
      refine zc_callR (va_runV (As := [.int (nI a), .int (nI k), .int (nI n)]) (rest := [.ref brd]) ⟨hx, hb, hml, hown, hts⟩ (c_X7_place l dC dI cI cZ cJ h thr fm bL bF bS bN wc bwp bwg bwv mn bmo rn brd tn bty mm sgn bsg fc bpf bpg bpv u lb blF blP blD blN bwn lat bla a k n (by first | assumption | omega)) (zc_V 3 hts ggX7_mend_X7_place rfl rfl rfl (by decide +kernel) (by decide +kernel) ⟨Nat.le_of_ble_eq_true rfl, Nat.le_of_ble_eq_true rfl⟩) ⟨zc_blind, va_recv hK hP (ci := 8) (q0 := 0) rfl rfl, zc_pay (hP.sub (ws' := [(h, .inr (8, [.int thr, .int (nI fm), .ref bL, .ref bF, .ref bS, .ref bN, .int (nI wc), .ref bwp, .ref bwg, .ref bwv, .int (nI mn), .ref bmo, .int (nI rn), .ref brd, .int (nI tn), .ref bty, .int mm, .int (nI sgn), .ref bsg, .int (nI fc), .ref bpf, .ref bpg, .ref bpv, .int u, .int (nI lb), .ref blF, .ref blP, .ref blD, .ref blN, .ref bwn, .int lat, .ref bla]))]) [0] rfl) hK⟩ rfl rfl hl.1 rfl (lv_room (Nat.le_of_ble_eq_true rfl)) dX7_mend_35 ⟨Nat.le_of_ble_eq_true rfl, Nat.le_of_ble_eq_true rfl⟩) ?_
      refine zc_iald hx hb hK hP 1 0 rfl rfl (zpl fm a k n) rfl (by first | assumption | omega) (by decide) dX7_mend_38 ?_
      refine lv_istore (lv' := [(7, .int (rf (zpl fm a k n))), (6, .int (nI k)), (5, .int (nI (zec fm n rf a k))), (4, .int (nI (zwc fm n rf a v k))), (3, .int (nI v)), (0, .ref h), (1, .int (nI a)), (2, .int (nI n))]) hx hb dX7_mend_39 hl (by decide) rfl (fun ls hl => ?_)
      refine lv_iload hx hb dX7_mend_41 (lv_at hl 0 rfl) ?_
      refine lv_iconst (v := 2) hx hb dX7_mend_43 (by decide) ?_
      refine lv_icmp_ne (tgt := 53) hx hb dX7_mend_44 (by decide) (fun c44 => ?_) (fun c44 => ?_)
      · have he : zec fm n rf a (k + 1) = zec fm n rf a k := by rw [zec, if_neg c44]; rfl
        rw [← he] at hl
        refine lv_iload hx hb dX7_mend_53 (lv_at hl 0 rfl) ?_
        refine lv_iload_n hx hb dX7_mend_55 rfl (lv_at hl 4 rfl) ?_
        refine lv_iload hx hb dX7_mend_56 (lv_at hl 1 rfl) ?_
        refine zc_callR (va_runS (As := [.int (nI v), .int (nI k)]) (rest := [.int (rf (zpl fm a k n))]) ⟨hx, hb, hml, hown, hts⟩ (c_X7_bit l dC dI cI cZ cJ (nI v) (nI k)) (zc_S 2 hts ggX7_mend_X7_bit rfl rfl rfl (by decide +kernel) (by decide +kernel) ⟨Nat.le_of_ble_eq_true rfl, Nat.le_of_ble_eq_true rfl⟩) ⟨zc_blind, zc_pay (hP.sub (ws' := []) [] rfl) hK⟩ rfl rfl hl.1 rfl (lv_room (Nat.le_of_ble_eq_true rfl)) dX7_mend_58 ⟨Nat.le_of_ble_eq_true rfl, Nat.le_of_ble_eq_true rfl⟩) ?_
        refine lv_icmp_eq (tgt := 67) hx hb dX7_mend_61 (by decide) (fun c61 => ?_) (fun c61 => ?_)
        · have hw : zwc fm n rf a v (k + 1) = zwc fm n rf a v k := by rw [zwc, if_neg c44, if_pos c61]; rfl
          rw [← hw] at hl
          refine lv_iinc (v := nI (k + 1)) (lv' := [(6, .int (nI (k + 1))), (7, .int (rf (zpl fm a k n))), (5, .int (nI (zec fm n rf a (k + 1)))), (4, .int (nI (zwc fm n rf a v (k + 1)))), (3, .int (nI v)), (0, .ref h), (1, .int (nI a)), (2, .int (nI n))]) hx hb dX7_mend_67 hl (k := 1) rfl (nI_1 k) (by decide) rfl (fun ls hl => ?_)
          refine lv_goto (tgt := 17) hx hb dX7_mend_70 (by decide) ?_
          exact ih17 (k + 1) _ (by omega) ⟨lv_sub hl [0, 2, 3, 4, 5, 6, 7] rfl, hltk⟩
        · refine lv_iinc (v := nI (zwc fm n rf a v (k + 1))) (lv' := [(4, .int (nI (zwc fm n rf a v (k + 1)))), (7, .int (rf (zpl fm a k n))), (6, .int (nI k)), (5, .int (nI (zec fm n rf a (k + 1)))), (3, .int (nI v)), (0, .ref h), (1, .int (nI a)), (2, .int (nI n))]) hx hb dX7_mend_64 hl (k := 3) rfl (by rw [zwc, if_neg c44, if_neg c61]; exact nI_1 _) (by decide) rfl (fun ls hl => ?_)
          refine lv_iinc (v := nI (k + 1)) (lv' := [(6, .int (nI (k + 1))), (4, .int (nI (zwc fm n rf a v (k + 1)))), (7, .int (rf (zpl fm a k n))), (5, .int (nI (zec fm n rf a (k + 1)))), (3, .int (nI v)), (0, .ref h), (1, .int (nI a)), (2, .int (nI n))]) hx hb dX7_mend_67 hl (k := 2) rfl (nI_1 k) (by decide) rfl (fun ls hl => ?_)
          refine lv_goto (tgt := 17) hx hb dX7_mend_70 (by decide) ?_
          exact ih17 (k + 1) _ (by omega) ⟨lv_sub hl [0, 3, 1, 4, 5, 6, 7] rfl, hltk⟩
      · have hw : zwc fm n rf a v (k + 1) = zwc fm n rf a v k := by rw [zwc, if_pos c44]; rfl
        rw [← hw] at hl
        refine lv_iinc (v := nI (zec fm n rf a (k + 1))) (lv' := [(5, .int (nI (zec fm n rf a (k + 1)))), (7, .int (rf (zpl fm a k n))), (6, .int (nI k)), (4, .int (nI (zwc fm n rf a v (k + 1)))), (3, .int (nI v)), (0, .ref h), (1, .int (nI a)), (2, .int (nI n))]) hx hb dX7_mend_47 hl (k := 2) rfl (by rw [zec, if_pos c44]; exact nI_1 _) (by decide) rfl (fun ls hl => ?_)
        refine lv_goto (tgt := 67) hx hb dX7_mend_50 (by decide) ?_
        refine lv_iinc (v := nI (k + 1)) (lv' := [(6, .int (nI (k + 1))), (5, .int (nI (zec fm n rf a (k + 1)))), (7, .int (rf (zpl fm a k n))), (4, .int (nI (zwc fm n rf a v (k + 1)))), (3, .int (nI v)), (0, .ref h), (1, .int (nI a)), (2, .int (nI n))]) hx hb dX7_mend_67 hl (k := 2) rfl (nI_1 k) (by decide) rfl (fun ls hl => ?_)
        refine lv_goto (tgt := 17) hx hb dX7_mend_70 (by decide) ?_
        exact ih17 (k + 1) _ (by omega) ⟨lv_sub hl [0, 1, 3, 4, 5, 6, 7] rfl, hltk⟩
