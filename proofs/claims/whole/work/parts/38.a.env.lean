/-! The law: cell, the environment out of the Statement's words. -/
set_option maxHeartbeats 4000000 in
set_option maxRecDepth 100000 in
theorem c_L_cell (l : Launch) (b nS : Nat) (xs : Nat → Int32) (hN : nS ≤ 2561) : Met l yL_cell wsL_cell ({ frames := 0, cells := 0, slots := 0, locals := 0 }) (va_Pc [.ref b, .int 0] (fun U => va_X b nS xs U U.heap ∧ b < U.heap.size)) (zc_Q (.int (if 0 < nS then xs 0 else 0))) 0 0 (fun _ => False) := by
  refine Met.ofW (cc := cL_cell) (maxL := 2) (ret := (some .int)) (by decide) rfl ?_
  intro p e s m args below meth c s₁ B hml hv
  obtain ⟨rfl, hX, hbl⟩ := hv
  have hx := B.exec
  have hb := B.bytes
  have hr := B.returns
  have hS : va_S (fun _ => False) s.heap s.heap [] := va_S.rf
  have hl := lv_entry ([.ref b, .int 0]) (n := 2) (Nat.le_of_ble_eq_true rfl)
  rw [lg_entry_eq]
  generalize (lg_sl ([.ref b, .int 0]) ++ List.replicate (2 - (lg_sl ([.ref b, .int 0])).length) Slot.unset).toArray = ls at hl ⊢
  have hl : lv_has ls 2 [(0, .ref b), (1, .int 0)] := hl
  refine lv_iload_n hx hb dL_cell_0 rfl (lv_at hl 1 rfl) ?_
  refine lv_aload_n hx hb dL_cell_1 rfl (lv_at hl 0 rfl) ?_
  refine va_slen hx hb hX hbl (fun h => h) hS dL_cell_2 ?_
  refine lv_icmp_ge (tgt := 12) hx hb dL_cell_3 (by decide) (fun c3 => ?_) (fun c3 => ?_)
  · have h0 : ¬ 0 < nS := fun q => absurd c3 (nI_nle q (by omega))
    refine lv_iconst (v := 0) hx hb dL_cell_12 (by decide) ?_
    exact W.iret (v := 0) hx hb hr (fun t ht _ => ⟨by rw [if_neg h0], ht⟩) (fun _ h => nomatch h) dL_cell_13
  · have h0 : 0 < nS := Nat.lt_of_not_le (fun q => c3 (by rw [show nS = 0 by omega]; decide))
    refine lv_aload_n hx hb dL_cell_6 rfl (lv_at hl 0 rfl) ?_
    refine lv_iload_n hx hb dL_cell_7 rfl (lv_at hl 1 rfl) ?_
    refine va_sld hx hb hX hbl (fun h => h) hS (vp_in_nI (n := 0) h0 (by omega)) dL_cell_8 ?_
    refine lv_goto (tgt := 13) hx hb dL_cell_9 (by decide) ?_
    exact W.iret (v := xs 0) hx hb hr (fun t ht _ => ⟨by rw [if_pos h0], ht⟩) (fun _ h => nomatch h) dL_cell_13
theorem zN_in : ∀ w ∈ zx_ws, w ∈ lw_tbl := by decide +kernel
theorem zR_in : ∀ q ∈ zx_st, Cond.stringRef RX6 q.1 q.2 ∈ lw_tbl := by decide +kernel
theorem zC_in : ∀ q ∈ zx_nc, Cond.not (.castable q.1 q.2) ∈ flatC (Jvm.Cond.and given_1 narrow_1) := by decide +kernel
theorem zZ_in1 : Cond.laysStatic Bundle.tN "UNASSIGNED_STACK" Bundle.steD ∈ lw_tbl ∧ Cond.laysStatic Bundle.tN "SUPPRESSED_SENTINEL" Bundle.listD ∈ lw_tbl ∧ Cond.initialized Bundle.tN ∈ lw_tbl := by decide +kernel
theorem zZ_in2 : Cond.isRef (.static Bundle.tN "UNASSIGNED_STACK" Bundle.steD) ∈ flatC (Jvm.Cond.and given_1 narrow_1) ∧ Cond.isRef (.static Bundle.tN "SUPPRESSED_SENTINEL" Bundle.listD) ∈ flatC (Jvm.Cond.and given_1 narrow_1) := by decide +kernel

theorem zK_in_Jx00060 : (∀ w ∈ wsJx000600, w ∈ wsL_lawX) ∧ Cond.instantiable RJx00060 6 ∈ wsL_lawX := ⟨by decide +kernel, by decide +kernel⟩
theorem zK_in_X0 : (∀ w ∈ wsX00, w ∈ wsL_lawX) ∧ Cond.instantiable RX0 3 ∈ wsL_lawX := ⟨by decide +kernel, by decide +kernel⟩
theorem zK_in_X1 : (∀ w ∈ wsX10, w ∈ wsL_lawX) ∧ Cond.instantiable RX1 4 ∈ wsL_lawX := ⟨by decide +kernel, by decide +kernel⟩
theorem zK_in_X2 : (∀ w ∈ wsX20, w ∈ wsL_lawX) ∧ Cond.instantiable RX2 5 ∈ wsL_lawX := ⟨by decide +kernel, by decide +kernel⟩
theorem zK_in_X3 : (∀ w ∈ wsX30, w ∈ wsL_lawX) ∧ Cond.instantiable RX3 2 ∈ wsL_lawX := ⟨by decide +kernel, by decide +kernel⟩
theorem zK_in_X4 : (∀ w ∈ wsX40, w ∈ wsL_lawX) ∧ Cond.instantiable RX4 3 ∈ wsL_lawX := ⟨by decide +kernel, by decide +kernel⟩
theorem zK_in_X5 : (∀ w ∈ wsX50, w ∈ wsL_lawX) ∧ Cond.instantiable RX5 3 ∈ wsL_lawX := ⟨by decide +kernel, by decide +kernel⟩
theorem zK_in_X6 : (∀ w ∈ wsX60, w ∈ wsL_lawX) ∧ Cond.instantiable RX6 11 ∈ wsL_lawX := ⟨by decide +kernel, by decide +kernel⟩
theorem zK_in_X7 : (∀ w ∈ wsX70, w ∈ wsL_lawX) ∧ Cond.instantiable RX7 32 ∈ wsL_lawX := ⟨by decide +kernel, by decide +kernel⟩
theorem zA_in : Cond.arrayClass .int ∈ wsL_lawX ∧ Cond.arrayClass .boolean ∈ wsL_lawX ∧ Cond.arrayClass .long ∈ wsL_lawX := by decide +kernel
set_option maxHeartbeats 4000000 in
set_option maxRecDepth 100000 in
theorem zl_env {p : Program} {s : State} {m : MethodId} {meth : Method} {c : Code} {b nS : Nat} {xs : Nat → Int32} (C0 : lw_At p s m meth c b nS xs) : ∃ (dC : Nat → ClassId) (dI : Nat → Nat → Nat) (cI cZ cJ : ClassId) (tx : Nat → Nat), va_K (dC, dI) vwCl (zc_T cI cZ cJ) s ∧ zx_N s ∧ zx_R tx s ∧ zx_Z (fun q : Nat => s.heap.size ≤ q) s s.heap ∧ zx_C s := by
  obtain ⟨hx, hb, hr, hml, hown, hts0, hX, hbl, hlocks, hgv⟩ := C0
  have hts : ∀ w ∈ wsL_lawX, w.before #[Value.ref b] s = true := fun w h => hts0 w (wsL_lawX_in w h)
  obtain ⟨c0, i0, k0⟩ := u_known (C := RJx00060) (T := TJx00060) (N := 6) (n := 6) hts zK_in_Jx00060.1 (hts _ zK_in_Jx00060.2)
  obtain ⟨c1, i1, k1⟩ := u_known (C := RX0) (T := TX0) (N := 3) (n := 3) hts zK_in_X0.1 (hts _ zK_in_X0.2)
  obtain ⟨c2, i2, k2⟩ := u_known (C := RX1) (T := TX1) (N := 4) (n := 4) hts zK_in_X1.1 (hts _ zK_in_X1.2)
  obtain ⟨c3, i3, k3⟩ := u_known (C := RX2) (T := TX2) (N := 5) (n := 5) hts zK_in_X2.1 (hts _ zK_in_X2.2)
  obtain ⟨c4, i4, k4⟩ := u_known (C := RX3) (T := TX3) (N := 2) (n := 2) hts zK_in_X3.1 (hts _ zK_in_X3.2)
  obtain ⟨c5, i5, k5⟩ := u_known (C := RX4) (T := TX4) (N := 3) (n := 3) hts zK_in_X4.1 (hts _ zK_in_X4.2)
  obtain ⟨c6, i6, k6⟩ := u_known (C := RX5) (T := TX5) (N := 3) (n := 3) hts zK_in_X5.1 (hts _ zK_in_X5.2)
  obtain ⟨c7, i7, k7⟩ := u_known (C := RX6) (T := TX6) (N := 11) (n := 11) hts zK_in_X6.1 (hts _ zK_in_X6.2)
  obtain ⟨c8, i8, k8⟩ := u_known (C := RX7) (T := TX7) (N := 32) (n := 32) hts zK_in_X7.1 (hts _ zK_in_X7.2)
  obtain ⟨dC, dI, hKc⟩ : ∃ (dC : Nat → ClassId) (dI : Nat → Nat → Nat), ∀ (k : Nat) (q : vw_C), vwCl[k]? = some q → u_Kn s q.1 q.2.1 q.2.2 (dC k) (dI k) := by
    refine ⟨fun k => if k = 0 then c0 else if k = 1 then c1 else if k = 2 then c2 else if k = 3 then c3 else if k = 4 then c4 else if k = 5 then c5 else if k = 6 then c6 else if k = 7 then c7 else c8, fun k => if k = 0 then i0 else if k = 1 then i1 else if k = 2 then i2 else if k = 3 then i3 else if k = 4 then i4 else if k = 5 then i5 else if k = 6 then i6 else if k = 7 then i7 else i8, ?_⟩
    intro k q hq
    match k, hq with
    | 0, hq => cases hq; exact k0
    | 1, hq => cases hq; exact k1
    | 2, hq => cases hq; exact k2
    | 3, hq => cases hq; exact k3
    | 4, hq => cases hq; exact k4
    | 5, hq => cases hq; exact k5
    | 6, hq => cases hq; exact k6
    | 7, hq => cases hq; exact k7
    | 8, hq => cases hq; exact k8
    | k + 9, hq => simp [vwCl] at hq
  obtain ⟨cI, qI, rI, aI, bI, d_I⟩ := Cond.arrayClass_spec (hts (.arrayClass .int) zA_in.1)
  obtain ⟨cZ, qZ, rZ, aZ, bZ, d_Z⟩ := Cond.arrayClass_spec (hts (.arrayClass .boolean) zA_in.2.1)
  obtain ⟨cJ, qJ, rJ, aJ, bJ, d_J⟩ := Cond.arrayClass_spec (hts (.arrayClass .long) zA_in.2.2)
  have hst : ∀ q ∈ zx_st, ∃ a : Nat, (Term.string RX6 q.1).eval #[Value.ref b] s none [] s = some (.ref a) := fun q hq => by
    obtain ⟨_, _, _, a, _, _, _, _, _, h⟩ := Cond.stringRef_spec k7.2.1 (hts0 _ (zR_in q hq))
    exact ⟨a, h⟩
  have hs := flat_of_before _ hgv
  have hA : ∀ a : Nat, a < s.heap.size → ¬ (fun q : Nat => s.heap.size ≤ q) a := fun a h => Nat.not_le.mpr h
  have hsel : ∃ tx : Nat → Nat, ∀ q ∈ zx_st, (Term.string RX6 q.1).eval #[Value.ref b] s none [] s = some (.ref (tx q.1)) := by
    refine ⟨fun k => @dite _ (∃ a : Nat, (Term.string RX6 k).eval #[Value.ref b] s none [] s = some (.ref a)) (Classical.propDecidable _) (fun h => Classical.choose h) (fun _ => 0), fun q hq => ?_⟩
    dsimp only
    rw [dif_pos (hst q hq)]
    exact Classical.choose_spec (hst q hq)
  obtain ⟨tx, htx⟩ := hsel
  refine ⟨dC, dI, cI, cZ, cJ, tx, ⟨hKc, fun k q hk => ?_⟩, fun w hw => va_Nw.of (zx_on w hw) (hts0 w (zN_in w hw)), fun q hq => vk_R.of (hts0 _ (zR_in q hq)) (htx q hq), ⟨vx_Zqof (hts0 _ zZ_in1.1) (hts0 _ zZ_in1.2.2) (hs _ zZ_in2.1) hA, vx_Zqof (hts0 _ zZ_in1.2.1) (hts0 _ zZ_in1.2.2) (hs _ zZ_in2.2) hA⟩, fun q hq => va_Nc.of (hs _ (zC_in q hq))⟩
  match k, hk with
  | 0, hk => cases hk; exact ⟨fun n z => ⟨fun k h => (by cases h), qI, bI, rI, d_I⟩, aI⟩
  | 1, hk => cases hk; exact ⟨fun n z => ⟨fun k h => (by cases h), qZ, bZ, rZ, d_Z⟩, aZ⟩
  | 2, hk => cases hk; exact ⟨fun n z => ⟨fun k h => (by cases h), qJ, bJ, rJ, d_J⟩, aJ⟩
  | k + 3, hk => simp [zc_T] at hk
