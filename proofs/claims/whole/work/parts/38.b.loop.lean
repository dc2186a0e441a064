/-! The law's head and its loop. -/
theorem zl_gt {i n : Nat} (hn : n ≤ 2561) (hi : i ≤ 3000) : (Int32.ofNat n - 5 < nI i) ↔ n < i + 5 := by
  have e1 : (Int32.ofNat n).toInt = (n : Int) := nI_toInt (n := n) (by omega)
  have e2 : (nI i).toInt = (i : Int) := nI_toInt (by omega)
  have e5 : (5 : Int32).toInt = 5 := by decide
  have e3 : (Int32.ofNat n - 5).toInt = (n : Int) - 5 := by
    rw [Int32.toInt_sub, e1, e5]
    exact Int.bmod_eq_of_le (by omega) (by omega)
  rw [Int32.lt_iff_toInt_lt, e3, e2]
  omega
set_option maxHeartbeats 4000000 in
set_option maxRecDepth 100000 in
theorem zl_head {p : Program} {l : Launch} {e : Env} {s : State} {m : MethodId} {below : List Frame} {meth : Method} {c : Code} {dC : Nat → ClassId} {dI : Nat → Nat → Nat} {cI cZ cJ : ClassId} {A : Nat → Prop} {b nS : Nat} {xs : Nat → Int32} {tx : Nat → Nat} {ad : Nat → Nat} {i : Nat} (hnd : ∀ q : Nat, A q → s.heap.size ≤ q) (Z : zLA p l s m meth c dC dI cI cZ cJ A b nS xs tx) (hi1 : 1 ≤ i) (hi2 : i ≤ nS + 5) (nxt : i + 5 ≤ nS → zLq p l e s m below meth c dC dI cI cZ cJ A b ad 33 (100 + (i + 5)) (6000 + 6 * (i + 5)) (i + 5)) : zLq p l e s m below meth c dC dI cI cZ cJ A b ad 33 (100 + i) (6000 + 6 * i) i := by
  have Z0 := Z
  obtain ⟨hst, hN, ⟨hx, hb, hr, hml, hown, hts0, hX, hbl, hlocks, hgv⟩, hK, hzN, hzR, hZ0, hzC, hA, hbA⟩ := Z
  have hb : c.code = cL_law := hb
  have hown : s.vm.findClass RL = some m.cls := hown
  have hts : ∀ w ∈ wsL_lawX, w.before #[Value.ref b] s = true := fun w h => hts0 w (wsL_lawX_in w h)
  have nx : i + 5 ≤ nS → zLq p l e s m below meth c dC dI cI cZ cJ A b ad 1055 (100 + i + 1) (6000 + 6 * i + 6) i := by
    intro hle
    intro mm lsec fm md L F S N wc wp wg wv mn mf rn rf tn tf sn sf u fc fp fg fv lb K T thr sgn mo sg pf pg pv lF lP lD lN wn la o H locs ls hR hP hD hS hl
    refine lv_iinc (v := nI (i + 5)) (lv' := [(4, .int (nI (i + 5))), (0, .ref b), (1, .ref (ad 0)), (2, .ref (ad 27)), (3, .ref (ad 48))]) hx hb dL_law_1055 hl (k := 4) rfl (nI_add i 5) (by decide) rfl (fun ls hl => ?_)
    refine lv_goto (tgt := 33) hx hb dL_law_1058 (by decide) ?_
    refine W.widen (k := 100 + (i + 5)) (n := 6000 + 6 * (i + 5)) (by omega) (by omega) ?_
    exact nxt hle mm lsec fm md L F S N wc wp wg wv mn mf rn rf tn tf sn sf u fc fp fg fv lb K T thr sgn mo sg pf pg pv lF lP lD lN wn la o H locs ls hR hP hD hS (lv_sub hl [1, 2, 3, 4, 0] rfl)
  intro mm lsec fm md L F S N wc wp wg wv mn mf rn rf tn tf sn sf u fc fp fg fv lb K T thr sgn mo sg pf pg pv lF lP lD lN wn la o H locs ls hR hP hD hS hl
  refine lv_iload hx hb dL_law_33 (lv_at hl 4 rfl) ?_
  refine lv_aload_n hx hb dL_law_35 rfl (lv_at hl 0 rfl) ?_
  refine va_slen hx hb hX hbl hbA hS dL_law_36 ?_
  refine lv_iconst (v := 5) hx hb dL_law_37 (by decide) ?_
  refine lv_isub hx hb dL_law_38 ?_
  refine lv_icmp_gt (tgt := 1061) hx hb dL_law_39 (by decide) (fun c39 => ?_) (fun c39 => ?_)
  · refine lv_iconst (v := 1) hx hb dL_law_1061 (by decide) ?_
    refine va_forget (fun q hq => hnd _ (hS.2.2 q hq)) ?_
    refine W.widen (k := 601024) (n := 7293000) (by omega) (by omega) ?_
    exact lw_ret hx hb hr hlocks dL_law_1062
  · have hle : i + 5 ≤ nS := Nat.le_of_not_lt (fun q => c39 ((zl_gt hN (by omega)).mpr q))
    have hi4 : i + 4 < nS := by omega
    refine lv_aload_n hx hb dL_law_42 rfl (lv_at hl 0 rfl) ?_
    refine lv_iload hx hb dL_law_43 (lv_at hl 4 rfl) ?_
    refine va_sld hx hb hX hbl hbA hS (vp_in_nI (by omega) (by omega)) dL_law_45 ?_
    refine lv_bipush (v := 31) hx hb dL_law_46 (by decide) ?_
    refine lv_iand hx hb dL_law_48 ?_
    generalize xs (nI i).toNatClampNeg &&& 31 = X
    by_cases q0 : X = 0
    · refine lv_tableIn (tgt := 136) hx hb dL_law_49 (by rw [q0]; decide) (by rw [q0]; decide) (by rw [q0]; rfl) (by decide) ?_
      exact zl_prefix Z0 hi4 (nx hle) mm lsec fm md L F S N wc wp wg wv mn mf rn rf tn tf sn sf u fc fp fg fv lb K T thr sgn mo sg pf pg pv lF lP lD lN wn la o H locs ls hR hP hD hS hl
    by_cases q1 : X = 1
    · refine lv_tableIn (tgt := 244) hx hb dL_law_49 (by rw [q1]; decide) (by rw [q1]; decide) (by rw [q1]; rfl) (by decide) ?_
      exact zl_needs Z0 hi4 (nx hle) mm lsec fm md L F S N wc wp wg wv mn mf rn rf tn tf sn sf u fc fp fg fv lb K T thr sgn mo sg pf pg pv lF lP lD lN wn la o H locs ls hR hP hD hS hl
    by_cases q2 : X = 2
    · refine lv_tableIn (tgt := 292) hx hb dL_law_49 (by rw [q2]; decide) (by rw [q2]; decide) (by rw [q2]; rfl) (by decide) ?_
      exact zl_begin Z0 hi4 (nx hle) mm lsec fm md L F S N wc wp wg wv mn mf rn rf tn tf sn sf u fc fp fg fv lb K T thr sgn mo sg pf pg pv lF lP lD lN wn la o H locs ls hR hP hD hS hl
    by_cases q3 : X = 3
    · refine lv_tableIn (tgt := 303) hx hb dL_law_49 (by rw [q3]; decide) (by rw [q3]; decide) (by rw [q3]; rfl) (by decide) ?_
      exact zl_field Z0 hi4 (nx hle) mm lsec fm md L F S N wc wp wg wv mn mf rn rf tn tf sn sf u fc fp fg fv lb K T thr sgn mo sg pf pg pv lF lP lD lN wn la o H locs ls hR hP hD hS hl
    by_cases q4 : X = 4
    · refine lv_tableIn (tgt := 415) hx hb dL_law_49 (by rw [q4]; decide) (by rw [q4]; decide) (by rw [q4]; rfl) (by decide) ?_
      exact zl_make Z0 hi4 (nx hle) mm lsec fm md L F S N wc wp wg wv mn mf rn rf tn tf sn sf u fc fp fg fv lb K T thr sgn mo sg pf pg pv lF lP lD lN wn la o H locs ls hR hP hD hS hl
    by_cases q5 : X = 5
    · refine lv_tableIn (tgt := 459) hx hb dL_law_49 (by rw [q5]; decide) (by rw [q5]; decide) (by rw [q5]; rfl) (by decide) ?_
      exact zl_module Z0 hi4 (nx hle) mm lsec fm md L F S N wc wp wg wv mn mf rn rf tn tf sn sf u fc fp fg fv lb K T thr sgn mo sg pf pg pv lF lP lD lN wn la o H locs ls hR hP hD hS hl
    by_cases q6 : X = 6
    · refine lv_tableIn (tgt := 515) hx hb dL_law_49 (by rw [q6]; decide) (by rw [q6]; decide) (by rw [q6]; rfl) (by decide) ?_
      exact zl_clear Z0 hi4 (nx hle) mm lsec fm md L F S N wc wp wg wv mn mf rn rf tn tf sn sf u fc fp fg fv lb K T thr sgn mo sg pf pg pv lF lP lD lN wn la o H locs ls hR hP hD hS hl
    by_cases q7 : X = 7
    · refine lv_tableIn (tgt := 526) hx hb dL_law_49 (by rw [q7]; decide) (by rw [q7]; decide) (by rw [q7]; rfl) (by decide) ?_
      exact zl_read Z0 hi4 (nx hle) mm lsec fm md L F S N wc wp wg wv mn mf rn rf tn tf sn sf u fc fp fg fv lb K T thr sgn mo sg pf pg pv lF lP lD lN wn la o H locs ls hR hP hD hS hl
    by_cases q8 : X = 8
    · refine lv_tableIn (tgt := 582) hx hb dL_law_49 (by rw [q8]; decide) (by rw [q8]; decide) (by rw [q8]; rfl) (by decide) ?_
      exact zl_typed Z0 hi4 (nx hle) mm lsec fm md L F S N wc wp wg wv mn mf rn rf tn tf sn sf u fc fp fg fv lb K T thr sgn mo sg pf pg pv lF lP lD lN wn la o H locs ls hR hP hD hS hl
    by_cases q9 : X = 9
    · refine lv_tableIn (tgt := 638) hx hb dL_law_49 (by rw [q9]; decide) (by rw [q9]; decide) (by rw [q9]; rfl) (by decide) ?_
      exact zl_parse Z0 hi4 (nx hle) mm lsec fm md L F S N wc wp wg wv mn mf rn rf tn tf sn sf u fc fp fg fv lb K T thr sgn mo sg pf pg pv lF lP lD lN wn la o H locs ls hR hP hD hS hl
    by_cases q10 : X = 10
    · refine lv_tableIn (tgt := 682) hx hb dL_law_49 (by rw [q10]; decide) (by rw [q10]; decide) (by rw [q10]; rfl) (by decide) ?_
      exact zl_parseTyped Z0 hi4 (nx hle) mm lsec fm md L F S N wc wp wg wv mn mf rn rf tn tf sn sf u fc fp fg fv lb K T thr sgn mo sg pf pg pv lF lP lD lN wn la o H locs ls hR hP hD hS hl
    by_cases q11 : X = 11
    · refine lv_tableIn (tgt := 726) hx hb dL_law_49 (by rw [q11]; decide) (by rw [q11]; decide) (by rw [q11]; rfl) (by decide) ?_
      exact zl_check Z0 hi4 (nx hle) mm lsec fm md L F S N wc wp wg wv mn mf rn rf tn tf sn sf u fc fp fg fv lb K T thr sgn mo sg pf pg pv lF lP lD lN wn la o H locs ls hR hP hD hS hl
    by_cases q12 : X = 12
    · refine lv_tableIn (tgt := 770) hx hb dL_law_49 (by rw [q12]; decide) (by rw [q12]; decide) (by rw [q12]; rfl) (by decide) ?_
      exact zl_known Z0 hi4 (nx hle) mm lsec fm md L F S N wc wp wg wv mn mf rn rf tn tf sn sf u fc fp fg fv lb K T thr sgn mo sg pf pg pv lF lP lD lN wn la o H locs ls hR hP hD hS hl
    by_cases q13 : X = 13
    · refine lv_tableIn (tgt := 838) hx hb dL_law_49 (by rw [q13]; decide) (by rw [q13]; decide) (by rw [q13]; rfl) (by decide) ?_
      exact zl_value Z0 hi4 (nx hle) mm lsec fm md L F S N wc wp wg wv mn mf rn rf tn tf sn sf u fc fp fg fv lb K T thr sgn mo sg pf pg pv lF lP lD lN wn la o H locs ls hR hP hD hS hl
    by_cases q14 : X = 14
    · refine lv_tableIn (tgt := 893) hx hb dL_law_49 (by rw [q14]; decide) (by rw [q14]; decide) (by rw [q14]; rfl) (by decide) ?_
      exact zl_mended Z0 hi4 (nx hle) mm lsec fm md L F S N wc wp wg wv mn mf rn rf tn tf sn sf u fc fp fg fv lb K T thr sgn mo sg pf pg pv lF lP lD lN wn la o H locs ls hR hP hD hS hl
    by_cases q15 : X = 15
    · refine lv_tableIn (tgt := 906) hx hb dL_law_49 (by rw [q15]; decide) (by rw [q15]; decide) (by rw [q15]; rfl) (by decide) ?_
      exact zl_hint Z0 hi4 (nx hle) mm lsec fm md L F S N wc wp wg wv mn mf rn rf tn tf sn sf u fc fp fg fv lb K T thr sgn mo sg pf pg pv lF lP lD lN wn la o H locs ls hR hP hD hS hl
    by_cases q16 : X = 16
    · refine lv_tableIn (tgt := 962) hx hb dL_law_49 (by rw [q16]; decide) (by rw [q16]; decide) (by rw [q16]; rfl) (by decide) ?_
      exact zl_scan Z0 hi4 (nx hle) mm lsec fm md L F S N wc wp wg wv mn mf rn rf tn tf sn sf u fc fp fg fv lb K T thr sgn mo sg pf pg pv lF lP lD lN wn la o H locs ls hR hP hD hS hl
    by_cases q17 : X = 17
    · refine lv_tableIn (tgt := 1030) hx hb dL_law_49 (by rw [q17]; decide) (by rw [q17]; decide) (by rw [q17]; rfl) (by decide) ?_
      exact zl_count Z0 hi4 (nx hle) mm lsec fm md L F S N wc wp wg wv mn mf rn rf tn tf sn sf u fc fp fg fv lb K T thr sgn mo sg pf pg pv lF lP lD lN wn la o H locs ls hR hP hD hS hl
    refine lv_tableOut (tgt := 1055) hx hb dL_law_49 (zn_out18 (fun k hk => ?_)) (by decide) ?_
    · rcases (show k = 0 ∨ k = 1 ∨ k = 2 ∨ k = 3 ∨ k = 4 ∨ k = 5 ∨ k = 6 ∨ k = 7 ∨ k = 8 ∨ k = 9 ∨ k = 10 ∨ k = 11 ∨ k = 12 ∨ k = 13 ∨ k = 14 ∨ k = 15 ∨ k = 16 ∨ k = 17 by omega) with rfl | rfl | rfl | rfl | rfl | rfl | rfl | rfl | rfl | rfl | rfl | rfl | rfl | rfl | rfl | rfl | rfl | rfl
      · exact q0
      · exact q1
      · exact q2
      · exact q3
      · exact q4
      · exact q5
      · exact q6
      · exact q7
      · exact q8
      · exact q9
      · exact q10
      · exact q11
      · exact q12
      · exact q13
      · exact q14
      · exact q15
      · exact q16
      · exact q17
    refine W.widen (k := 100 + i + 1) (n := 6000 + 6 * i + 6) (by omega) (by omega) ?_
    exact nx hle mm lsec fm md L F S N wc wp wg wv mn mf rn rf tn tf sn sf u fc fp fg fv lb K T thr sgn mo sg pf pg pv lF lP lD lN wn la o H locs ls hR hP hD hS hl
theorem zl_loop {p : Program} {l : Launch} {e : Env} {s : State} {m : MethodId} {below : List Frame} {meth : Method} {c : Code} {dC : Nat → ClassId} {dI : Nat → Nat → Nat} {cI cZ cJ : ClassId} {A : Nat → Prop} {b nS : Nat} {xs : Nat → Int32} {tx : Nat → Nat} {ad : Nat → Nat} (hnd : ∀ q : Nat, A q → s.heap.size ≤ q) (Z : zLA p l s m meth c dC dI cI cZ cJ A b nS xs tx) : ∀ (n i : Nat), 1 ≤ i → i ≤ nS + 5 → nS ≤ i + n → zLq p l e s m below meth c dC dI cI cZ cJ A b ad 33 (100 + i) (6000 + 6 * i) i := by
  intro n
  induction n with
  | zero => intro i h1 h2 h3; exact zl_head hnd Z h1 h2 (fun h => absurd h (by omega))
  | succ n ih => intro i h1 h2 h3; exact zl_head hnd Z h1 h2 (fun h => ih (i + 5) (by omega) (by omega) (by omega))
