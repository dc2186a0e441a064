/-! Coder: whole rows of signs. -/
theorem zmd_bad (fm : Nat) (o er : Int32) : ∀ (k v : Nat), v + k ≤ 16 → zbad (zmd fm o er k v).1 → (zmd fm o er k v).2 = 0 := by
  intro k
  induction k with
  | zero => intro v _ _; rfl
  | succ k ih =>
    intro v hv hb
    rw [zmd] at hb ⊢
    by_cases h : 2 * zoth fm o er v + zbc er ≤ 2
    · rw [if_pos h] at hb ⊢
      by_cases h10 : v ≤ 10
      · exfalso
        rcases hb with h1 | h1
        · exact nI_pos (by omega) h1
        · exact h1 (nI_le (b := 10) h10 (by decide))
      · show (if v ≤ 10 then _ else (0 : Int32)) = 0
        rw [if_neg h10]
    · rw [if_neg h] at hb ⊢
      exact ih (v + 1) (by omega) hb
theorem zsg_bad {fm n : Nat} {f : Nat → Int32} {a : Nat} (h : zbad (zsg fm n f a).1) : (zsg fm n f a).2 = 0 := by
  unfold zsg at h ⊢
  by_cases h0 : fm = 0
  · rw [if_pos h0]
  · rw [if_neg h0] at h ⊢
    exact zmd_bad _ _ _ 16 0 (by omega) h
theorem zstop_le (fm n : Nat) (f : Nat → Int32) : ∀ (k a : Nat), zstop fm n f k a ≤ a + k ∧ a ≤ zstop fm n f k a := by
  intro k
  induction k with
  | zero => intro a; exact ⟨Nat.le_refl _, Nat.le_refl _⟩
  | succ k ih =>
    intro a
    rw [zstop]
    by_cases h : zbad (zsg fm n f a).1
    · rw [zi_t h]; omega
    · rw [zi_f h]; have := ih (a + 1); omega
/-- how many signs the modules give, until one can't be mended; 0 if they aren't whole signs -/
noncomputable def zdn (fm n : Nat) (f : Nat → Int32) : Nat := zi (n / zw fm * zw fm = n) (zstop fm (n / zw fm) f (n / zw fm) 0) 0
def zval (fm : Nat) (fs : Nat → Int32) (a k : Nat) : Int32 := (zwd fm (fs a) >>> ((nI (zw fm) - 1 - nI k) &&& 31)) &&& 1

set_option maxHeartbeats 4000000 in
set_option maxRecDepth 100000 in
theorem c_X0_decode (l : Launch) (dC : Nat → ClassId) (dI : Nat → Nat → Nat) (cI cZ cJ : ClassId) (h : Nat) (fm : Nat) (md : Int32) (mh : Nat) (ma : Nat) (mcap : Nat) (n : Nat) (f : Nat → Int32) (sh : Nat) (sa : Nat) (scap : Nat) (sn : Nat) (fs : Nat → Int32) (hf : fm ≤ 2) (hmn : n ≤ mcap) (hmc : mcap < 2 ^ 31) (hsc : scap < 2 ^ 31) (hls : n / zw fm ≤ scap) (sz : Nat) : Met l yX0_decode wsX0_decode ({ frames := 3, cells := 0, slots := 0, locals := 77 }) (zc_PW [.ref h, .ref mh, .ref sh] (dC, dI) (zc_T cI cZ cJ) [(h, .inr (1, [.int (nI fm), .int (nI (zw fm)), .int md])), (mh, .inr (4, [.ref ma, .int (nI n)])), (ma, .inl (cI, mcap, .inl f)), (sh, .inr (4, [.ref sa, .int (nI sn)])), (sa, .inl (cI, scap, .inl fs))] sz) (va_Qi (fun (r : Int32) (_ : Unit) => r = zb (n / zw fm * zw fm = n ∧ zdn fm n f = n / zw fm)) (fun _ t => zc_B (dC, dI) (zc_T cI cZ cJ) (va_A [(h, .inr (1, [.int (nI fm), .int (nI (zw fm)), .int md])), (mh, .inr (4, [.ref ma, .int (nI n)])), (ma, .inl (cI, mcap, .inl f)), (sh, .inr (4, [.ref sa, .int (nI sn)])), (sa, .inl (cI, scap, .inl fs))] sz) [(h, .inr (1, [.int (nI fm), .int (nI (zw fm)), .int (zsum fm (n / zw fm) f (zdn fm n f))])), (mh, .inr (4, [.ref ma, .int (nI n)])), (ma, .inl (cI, mcap, .inl f)), (sh, .inr (4, [.ref sa, .int (nI (zdn fm n f))])), (sa, .inl (cI, scap, .inl (zsrow fm (n / zw fm) f fs (zdn fm n f))))] t) (va_A [(h, .inr (1, [.int (nI fm), .int (nI (zw fm)), .int md])), (mh, .inr (4, [.ref ma, .int (nI n)])), (ma, .inl (cI, mcap, .inl f)), (sh, .inr (4, [.ref sa, .int (nI sn)])), (sa, .inl (cI, scap, .inl fs))] sz)) 0 0 (va_A [(h, .inr (1, [.int (nI fm), .int (nI (zw fm)), .int md])), (mh, .inr (4, [.ref ma, .int (nI n)])), (ma, .inl (cI, mcap, .inl f)), (sh, .inr (4, [.ref sa, .int (nI sn)])), (sa, .inl (cI, scap, .inl fs))] sz) := by
  refine Met.ofW (cc := cX0_decode) (maxL := 6) (ret := (some .boolean)) (by decide) rfl ?_
  intro p e s m args below meth c s₁ B hml hv
  obtain ⟨rfl, hsz, hP, hK, hD0⟩ := hv
  have hx := B.exec
  have hb := B.bytes
  have hr := B.returns
  have hts := atoms_spec (ws := wsX0_decode) B.pre
  have hown : s.vm.findClass RX0 = some m.cls := findClass_of_methodNamed B.named
  have hlocks := B.notSynchronized
  subst hsz
  have hD := hD0.self (sz := s.heap.size)
  generalize hAe : va_A [(h, .inr (1, [.int (nI fm), .int (nI (zw fm)), .int md])), (mh, .inr (4, [.ref ma, .int (nI n)])), (ma, .inl (cI, mcap, .inl f)), (sh, .inr (4, [.ref sa, .int (nI sn)])), (sa, .inl (cI, scap, .inl fs))] s.heap.size = A at hD ⊢
  have hA : ∀ q : Nat, s.heap.size ≤ q → A q := fun q h => by rw [← hAe]; exact Or.inr h
  have hS : va_S A s.heap s.heap [] := va_S.rf
  have hinX0 : ∀ w ∈ wsX00, w ∈ wsX0_decode := by decide +kernel
  have hl := lv_entry ([.ref h, .ref mh, .ref sh]) (n := 6) (Nat.le_of_ble_eq_true rfl)
  rw [lg_entry_eq]
  generalize (lg_sl ([.ref h, .ref mh, .ref sh]) ++ List.replicate (6 - (lg_sl ([.ref h, .ref mh, .ref sh])).length) Slot.unset).toArray = ls at hl ⊢
  have hl : lv_has ls 6 [(0, .ref h), (1, .ref mh), (2, .ref sh)] := hl
  refine lv_aload_n hx hb dX0_decode_0 rfl (lv_at hl 0 rfl) ?_
  refine lv_iconst (v := 0) hx hb dX0_decode_1 (by decide) ?_
  refine va_put (D := (dC, dI)) (ci := 1) (v := .int 0) (ty := .int) (C := RX0) (T := TX0) (N := 3) hx hb hts hinX0 tyX0 tyX0_ok nmX0 hown hK hP hD hS 0 rfl rfl 2 (by decide) (hts (.fieldLink RX0 18 "ScanCodes$Coder" "mended" "I") (by decide +kernel)) (fun _ h9 => h9) rfl (by decide +kernel) rfl rfl (Nat.le_of_ble_eq_true rfl) dX0_decode_2 (fun H locs hP hD hS => ?_)
  have hP : va_P (dC, dI) vwCl [(h, .inr (1, [.int (nI fm), .int (nI (zw fm)), .int 0])), (mh, .inr (4, [.ref ma, .int (nI n)])), (ma, .inl (cI, mcap, .inl f)), (sh, .inr (4, [.ref sa, .int (nI sn)])), (sa, .inl (cI, scap, .inl fs))] H := hP
  have hD : va_D A [(h, .inr (1, [.int (nI fm), .int (nI (zw fm)), .int 0])), (mh, .inr (4, [.ref ma, .int (nI n)])), (ma, .inl (cI, mcap, .inl f)), (sh, .inr (4, [.ref sa, .int (nI sn)])), (sa, .inl (cI, scap, .inl fs))] := hD
  refine lv_aload_n hx hb dX0_decode_5 rfl (lv_at hl 2 rfl) ?_
  have hPc := hP.sub (ws' := [(sh, .inr (4, [.ref sa, .int (nI sn)])), (sa, .inl (cI, scap, .inl fs))]) [3, 4] rfl
  have hDc := hD.sub (ws' := [(sh, .inr (4, [.ref sa, .int (nI sn)])), (sa, .inl (cI, scap, .inl fs))]) [3, 4] (by decide) rfl
  have hFc := va_free (wc := [(sh, .inr (4, [.ref sa, .int (nI sn)])), (sa, .inl (cI, scap, .inl fs))]) hD hS hA [3, 4] rfl
  refine va_callv (va_runV (As := []) (rest := []) ⟨hx, hb, hml, hown, hts⟩ (c_X3_empty l dC dI cI cZ cJ sh sa scap sn fs H.size) (zc_V 0 hts ggX0_decode_X3_empty rfl rfl rfl (by decide +kernel) (by decide +kernel) ⟨Nat.le_of_ble_eq_true rfl, Nat.le_of_ble_eq_true rfl⟩) ⟨zc_blindW, va_recv hK hP (ci := 4) (q0 := 3) rfl rfl, zc_payW hPc hK hDc⟩ rfl rfl hl.1 rfl (lv_room (Nat.le_of_ble_eq_true rfl)) dX0_decode_6 ⟨Nat.le_of_ble_eq_true rfl, Nat.le_of_ble_eq_true rfl⟩) hS (fun q _ h => hFc q h) hFc (fun uu t H1 locs ht hvm hw hB hz1 hk1 hS => ?_)
  obtain ⟨hP1, hK1, hD1⟩ := hB
  rw [ht] at hP1
  obtain ⟨hP, hD⟩ := va_join (wr := [(h, .inr (1, [.int (nI fm), .int (nI (zw fm)), .int 0])), (mh, .inr (4, [.ref ma, .int (nI n)])), (ma, .inl (cI, mcap, .inl f))]) (w1 := [(sh, .inr (4, [.ref sa, .int (nI 0)])), (sa, .inl (cI, scap, .inl fs))]) hP hD [3, 4] [0, 1, 2] rfl rfl (by decide) (by decide) hk1 hFc hP1 hD1
  generalize H1 = H at hP hS ⊢
  have hP := hP.sub (ws' := [(h, .inr (1, [.int (nI fm), .int (nI (zw fm)), .int 0])), (mh, .inr (4, [.ref ma, .int (nI n)])), (ma, .inl (cI, mcap, .inl f)), (sh, .inr (4, [.ref sa, .int (nI 0)])), (sa, .inl (cI, scap, .inl fs))]) [0, 1, 2, 3, 4] rfl
  have hD := hD.sub (ws' := [(h, .inr (1, [.int (nI fm), .int (nI (zw fm)), .int 0])), (mh, .inr (4, [.ref ma, .int (nI n)])), (ma, .inl (cI, mcap, .inl f)), (sh, .inr (4, [.ref sa, .int (nI 0)])), (sa, .inl (cI, scap, .inl fs))]) [0, 1, 2, 3, 4] (by decide) rfl
  refine zc_cut (g' := F0 m 32 ls [.int (nI (n / zw fm))]) ?_ (fun J32 => ?_)
  · refine lv_istore_n (lv' := [(3, .int (nI (n / zw fm))), (0, .ref h), (1, .ref mh), (2, .ref sh)]) hx hb dX0_decode_32 rfl hl (by decide) rfl (fun ls hl => ?_)
    have hle : n / zw fm * zw fm ≤ n := Nat.div_mul_le_self _ _
    have hlen : n / zw fm ≤ n := Nat.div_le_self _ _
    refine lv_iload_n hx hb dX0_decode_33 rfl (lv_at hl 0 rfl) ?_
    refine lv_aload_n hx hb dX0_decode_34 rfl (lv_at hl 1 rfl) ?_
    refine va_get (D := (dC, dI)) (ci := 1) (v := .int (nI (zw fm))) (C := RX0) (T := TX0) (N := 3) hx hb hts hinX0 hown hK hP 0 rfl rfl 1 (by decide) (hts (.fieldLink RX0 15 "ScanCodes$Coder" "width" "I") (by decide +kernel)) (fun _ h9 => h9) rfl dX0_decode_35 ?_
    refine lv_imul hx hb dX0_decode_38 ?_
    refine zc_ti (y := nI (n / zw fm * zw fm)) (pk_mul _ _) ?_
    refine lv_aload_n hx hb dX0_decode_39 rfl (lv_at hl 2 rfl) ?_
    refine zc_callR (va_runV (As := []) (rest := [.int (nI (n / zw fm * zw fm))]) ⟨hx, hb, hml, hown, hts⟩ (c_X3_size l dC dI cI cZ cJ mh ma mcap n f) (zc_V 0 hts ggX0_decode_X3_size rfl rfl rfl (by decide +kernel) (by decide +kernel) ⟨Nat.le_of_ble_eq_true rfl, Nat.le_of_ble_eq_true rfl⟩) ⟨zc_blind, va_recv hK hP (ci := 4) (q0 := 1) rfl rfl, zc_pay (hP.sub (ws' := [(mh, .inr (4, [.ref ma, .int (nI n)])), (ma, .inl (cI, mcap, .inl f))]) [1, 2] rfl) hK⟩ rfl rfl hl.1 rfl (lv_room (Nat.le_of_ble_eq_true rfl)) dX0_decode_40 ⟨Nat.le_of_ble_eq_true rfl, Nat.le_of_ble_eq_true rfl⟩) ?_
    refine lv_icmp_eq (tgt := 48) hx hb dX0_decode_43 (by decide) (fun c43 => ?_) (fun c43 => ?_)
    · have hwh := zn_eq c43 (by omega) (by omega)
      refine lv_iconst (v := 0) hx hb dX0_decode_48 (by decide) ?_
      refine lv_istore (lv' := [(4, .int 0), (3, .int (nI (n / zw fm))), (0, .ref h), (1, .ref mh), (2, .ref sh)]) hx hb dX0_decode_49 hl (by decide) rfl (fun ls hl => ?_)
      rw [← zsrow_0 fm (n / zw fm) f fs] at hP hD
      refine zc_loopH (α := Nat) (fun a H locs ls => lv_has ls 6 [(4, .int (nI a)), (3, .int (nI (n / zw fm))), (0, .ref h), (1, .ref mh), (2, .ref sh)] ∧ va_P (dC, dI) vwCl [(h, .inr (1, [.int (nI fm), .int (nI (zw fm)), .int (zsum fm (n / zw fm) f a)])), (mh, .inr (4, [.ref ma, .int (nI n)])), (ma, .inl (cI, mcap, .inl f)), (sh, .inr (4, [.ref sa, .int (nI a)])), (sa, .inl (cI, scap, .inl (zsrow fm (n / zw fm) f fs a)))] H ∧ va_D A [(h, .inr (1, [.int (nI fm), .int (nI (zw fm)), .int (zsum fm (n / zw fm) f a)])), (mh, .inr (4, [.ref ma, .int (nI n)])), (ma, .inl (cI, mcap, .inl f)), (sh, .inr (4, [.ref sa, .int (nI a)])), (sa, .inl (cI, scap, .inl (zsrow fm (n / zw fm) f fs a)))] ∧ va_S A s.heap H locs ∧ (a ≤ n / zw fm) ∧ (zstop fm (n / zw fm) f (n / zw fm - a) a = zstop fm (n / zw fm) f (n / zw fm) 0)) (fun a => n / zw fm - a) 0 ⟨lv_sub hl [0, 1, 2, 3, 4] rfl, by exact hP, by exact hD, hS, Nat.zero_le _, rfl⟩ ?_
      intro x H locs ls hI ih51
      obtain ⟨a, rfl⟩ : ∃ z, z = x := ⟨_, rfl⟩
      obtain ⟨hl, hP, hD, hS, hi1, hi2⟩ := hI
      have hl : lv_has ls 6 [(4, .int (nI a)), (3, .int (nI (n / zw fm))), (0, .ref h), (1, .ref mh), (2, .ref sh)] := hl
      have hP : va_P (dC, dI) vwCl [(h, .inr (1, [.int (nI fm), .int (nI (zw fm)), .int (zsum fm (n / zw fm) f a)])), (mh, .inr (4, [.ref ma, .int (nI n)])), (ma, .inl (cI, mcap, .inl f)), (sh, .inr (4, [.ref sa, .int (nI a)])), (sa, .inl (cI, scap, .inl (zsrow fm (n / zw fm) f fs a)))] H := hP
      have hD : va_D A [(h, .inr (1, [.int (nI fm), .int (nI (zw fm)), .int (zsum fm (n / zw fm) f a)])), (mh, .inr (4, [.ref ma, .int (nI n)])), (ma, .inl (cI, mcap, .inl f)), (sh, .inr (4, [.ref sa, .int (nI a)])), (sa, .inl (cI, scap, .inl (zsrow fm (n / zw fm) f fs a)))] := hD
      try dsimp only at ih51
      refine lv_iload hx hb dX0_decode_51 (lv_at hl 0 rfl) ?_
      refine lv_iload_n hx hb dX0_decode_53 rfl (lv_at hl 1 rfl) ?_
      refine lv_icmp_ge (tgt := 93) hx hb dX0_decode_54 (by decide) (fun c54 => ?_) (fun c54 => ?_)
      · have hge := zn_le c54 (by omega) (by omega)
        have hje : a = n / zw fm := by omega
        have ez : zdn fm n f = a := by rw [zdn, zi_t hwh, ← hi2, hje, Nat.sub_self]; rfl
        refine lv_iconst (v := 1) hx hb dX0_decode_93 (by decide) ?_
        have hP9 : va_P (dC, dI) vwCl [(h, .inr (1, [.int (nI fm), .int (nI (zw fm)), .int (zsum fm (n / zw fm) f (zdn fm n f))])), (mh, .inr (4, [.ref ma, .int (nI n)])), (ma, .inl (cI, mcap, .inl f)), (sh, .inr (4, [.ref sa, .int (nI (zdn fm n f))])), (sa, .inl (cI, scap, .inl (zsrow fm (n / zw fm) f fs (zdn fm n f))))] H := by rw [ez]; exact hP
        have hD9 : va_D A [(h, .inr (1, [.int (nI fm), .int (nI (zw fm)), .int (zsum fm (n / zw fm) f (zdn fm n f))])), (mh, .inr (4, [.ref ma, .int (nI n)])), (ma, .inl (cI, mcap, .inl f)), (sh, .inr (4, [.ref sa, .int (nI (zdn fm n f))])), (sa, .inl (cI, scap, .inl (zsrow fm (n / zw fm) f fs (zdn fm n f))))] := by rw [ez]; exact hD
        have hres : (1 : Int32) = zb (n / zw fm * zw fm = n ∧ zdn fm n f = n / zw fm) := by exact (zb_t ⟨hwh, by rw [ez, hje]⟩).symm
        exact W.zret (v := 1) hx hb hr rfl (fun t ht hW => ⟨⟨_, (), rfl, hres, by rw [ht]; exact hP9, va_K.moved hW.alike hK, hD9⟩, hS.F ht⟩) hS.2.2 dX0_decode_94
      · have hlt := zn_nle c54 (by omega) (by omega)
        obtain ⟨k2, hk2⟩ : ∃ k2, n / zw fm - a = k2 + 1 := ⟨n / zw fm - a - 1, by omega⟩
        rw [hk2, zstop] at hi2
        refine lv_aload_n hx hb dX0_decode_57 rfl (lv_at hl 2 rfl) ?_
        refine lv_aload_n hx hb dX0_decode_58 rfl (lv_at hl 3 rfl) ?_
        refine lv_iload hx hb dX0_decode_59 (lv_at hl 0 rfl) ?_
        refine lv_iload_n hx hb dX0_decode_61 rfl (lv_at hl 1 rfl) ?_
        have hPc := hP.sub (ws' := [(h, .inr (1, [.int (nI fm), .int (nI (zw fm)), .int (zsum fm (n / zw fm) f a)])), (mh, .inr (4, [.ref ma, .int (nI n)])), (ma, .inl (cI, mcap, .inl f))]) [0, 1, 2] rfl
        have hDc := hD.sub (ws' := [(h, .inr (1, [.int (nI fm), .int (nI (zw fm)), .int (zsum fm (n / zw fm) f a)])), (mh, .inr (4, [.ref ma, .int (nI n)])), (ma, .inl (cI, mcap, .inl f))]) [0, 1, 2] (by decide) rfl
        have hFc := va_free (wc := [(h, .inr (1, [.int (nI fm), .int (nI (zw fm)), .int (zsum fm (n / zw fm) f a)])), (mh, .inr (4, [.ref ma, .int (nI n)])), (ma, .inl (cI, mcap, .inl f))]) hD hS hA [0, 1, 2] rfl
        refine va_calli (va_runV (As := [.ref mh, .int (nI a), .int (nI (n / zw fm))]) (rest := []) ⟨hx, hb, hml, hown, hts⟩ (c_X0_decodeSign l dC dI cI cZ cJ h fm (zsum fm (n / zw fm) f a) mh ma mcap n f a (n / zw fm) (by first | assumption | omega) (by first | assumption | omega) (by first | assumption | omega) (by first | assumption | omega) (by first | assumption | omega) H.size) (zc_V 3 hts ggX0_decode_X0_decodeSign rfl rfl rfl (by decide +kernel) (by decide +kernel) ⟨Nat.le_of_ble_eq_true rfl, Nat.le_of_ble_eq_true rfl⟩) ⟨zc_blindW, va_recv hK hP (ci := 1) (q0 := 0) rfl rfl, zc_payW hPc hK hDc⟩ rfl rfl hl.1 rfl (lv_room (Nat.le_of_ble_eq_true rfl)) dX0_decode_62 ⟨Nat.le_of_ble_eq_true rfl, Nat.le_of_ble_eq_true rfl⟩) hS (fun q _ h => hFc q h) hFc (fun r62 uu t H1 locs ht hvm hw hB hz1 hk1 hS => ?_)
        obtain ⟨hP1, hK1, hD1⟩ := hB
        rw [ht] at hP1
        try dsimp only at hw
        subst hw
        obtain ⟨hP, hD⟩ := va_join (wr := [(sh, .inr (4, [.ref sa, .int (nI a)])), (sa, .inl (cI, scap, .inl (zsrow fm (n / zw fm) f fs a)))]) (w1 := [(h, .inr (1, [.int (nI fm), .int (nI (zw fm)), .int ((zsum fm (n / zw fm) f a) + (zsg fm (n / zw fm) f a).2)])), (mh, .inr (4, [.ref ma, .int (nI n)])), (ma, .inl (cI, mcap, .inl f))]) hP hD [0, 1, 2] [3, 4] rfl rfl (by decide) (by decide) hk1 hFc hP1 hD1
        generalize H1 = H at hP hS ⊢
        have hP := hP.sub (ws' := [(h, .inr (1, [.int (nI fm), .int (nI (zw fm)), .int ((zsum fm (n / zw fm) f a) + (zsg fm (n / zw fm) f a).2)])), (mh, .inr (4, [.ref ma, .int (nI n)])), (ma, .inl (cI, mcap, .inl f)), (sh, .inr (4, [.ref sa, .int (nI a)])), (sa, .inl (cI, scap, .inl (zsrow fm (n / zw fm) f fs a)))]) [2, 3, 4, 0, 1] rfl
        have hD := hD.sub (ws' := [(h, .inr (1, [.int (nI fm), .int (nI (zw fm)), .int ((zsum fm (n / zw fm) f a) + (zsg fm (n / zw fm) f a).2)])), (mh, .inr (4, [.ref ma, .int (nI n)])), (ma, .inl (cI, mcap, .inl f)), (sh, .inr (4, [.ref sa, .int (nI a)])), (sa, .inl (cI, scap, .inl (zsrow fm (n / zw fm) f fs a)))]) [2, 3, 4, 0, 1] (by decide) rfl
        refine lv_istore (lv' := [(5, .int ((zsg fm (n / zw fm) f a).1)), (4, .int (nI a)), (3, .int (nI (n / zw fm))), (0, .ref h), (1, .ref mh), (2, .ref sh)]) hx hb dX0_decode_65 hl (by decide) rfl (fun ls hl => ?_)
        refine lv_iload hx hb dX0_decode_67 (lv_at hl 0 rfl) ?_
        refine lv_if_lt (tgt := 79) hx hb dX0_decode_69 (by decide) (fun c69 => ?_) (fun c69 => ?_)
        · have hbad : zbad (zsg fm (n / zw fm) f a).1 := Or.inl c69
          rw [zi_t hbad] at hi2
          have ez : zdn fm n f = a := by rw [zdn, zi_t hwh, hi2]
          have e0 := zsg_bad hbad
          refine lv_iconst (v := 0) hx hb dX0_decode_79 (by decide) ?_
          rw [e0, Int32.add_zero] at hP hD
          have hP9 : va_P (dC, dI) vwCl [(h, .inr (1, [.int (nI fm), .int (nI (zw fm)), .int (zsum fm (n / zw fm) f (zdn fm n f))])), (mh, .inr (4, [.ref ma, .int (nI n)])), (ma, .inl (cI, mcap, .inl f)), (sh, .inr (4, [.ref sa, .int (nI (zdn fm n f))])), (sa, .inl (cI, scap, .inl (zsrow fm (n / zw fm) f fs (zdn fm n f))))] H := by rw [ez]; exact hP
          have hD9 : va_D A [(h, .inr (1, [.int (nI fm), .int (nI (zw fm)), .int (zsum fm (n / zw fm) f (zdn fm n f))])), (mh, .inr (4, [.ref ma, .int (nI n)])), (ma, .inl (cI, mcap, .inl f)), (sh, .inr (4, [.ref sa, .int (nI (zdn fm n f))])), (sa, .inl (cI, scap, .inl (zsrow fm (n / zw fm) f fs (zdn fm n f))))] := by rw [ez]; exact hD
          have hres : (0 : Int32) = zb (n / zw fm * zw fm = n ∧ zdn fm n f = n / zw fm) := by exact (zb_f (fun q => by rw [ez] at q; omega)).symm
          exact W.zret (v := 0) hx hb hr rfl (fun t ht hW => ⟨⟨_, (), rfl, hres, by rw [ht]; exact hP9, va_K.moved hW.alike hK, hD9⟩, hS.F ht⟩) hS.2.2 dX0_decode_80
        · refine lv_iload hx hb dX0_decode_72 (lv_at hl 0 rfl) ?_
          refine lv_bipush (v := 10) hx hb dX0_decode_74 (by decide) ?_
          refine lv_icmp_le (tgt := 81) hx hb dX0_decode_76 (by decide) (fun c76 => ?_) (fun c76 => ?_)
          · rw [zi_f (fun q => q.elim c69 (fun z => z c76))] at hi2
            refine lv_aload_n hx hb dX0_decode_81 rfl (lv_at hl 5 rfl) ?_
            refine lv_iload hx hb dX0_decode_82 (lv_at hl 0 rfl) ?_
            have hPc := hP.sub (ws' := [(sh, .inr (4, [.ref sa, .int (nI a)])), (sa, .inl (cI, scap, .inl (zsrow fm (n / zw fm) f fs a)))]) [3, 4] rfl
            have hDc := hD.sub (ws' := [(sh, .inr (4, [.ref sa, .int (nI a)])), (sa, .inl (cI, scap, .inl (zsrow fm (n / zw fm) f fs a)))]) [3, 4] (by decide) rfl
            have hFc := va_free (wc := [(sh, .inr (4, [.ref sa, .int (nI a)])), (sa, .inl (cI, scap, .inl (zsrow fm (n / zw fm) f fs a)))]) hD hS hA [3, 4] rfl
            refine va_callv (va_runV (As := [.int ((zsg fm (n / zw fm) f a).1)]) (rest := []) ⟨hx, hb, hml, hown, hts⟩ (c_X3_add l dC dI cI cZ cJ sh sa scap a (zsrow fm (n / zw fm) f fs a) ((zsg fm (n / zw fm) f a).1) (by first | assumption | omega) (by first | assumption | omega) H.size) (zc_V 1 hts ggX0_decode_X3_add rfl rfl rfl (by decide +kernel) (by decide +kernel) ⟨Nat.le_of_ble_eq_true rfl, Nat.le_of_ble_eq_true rfl⟩) ⟨zc_blindW, va_recv hK hP (ci := 4) (q0 := 3) rfl rfl, zc_payW hPc hK hDc⟩ rfl rfl hl.1 rfl (lv_room (Nat.le_of_ble_eq_true rfl)) dX0_decode_84 ⟨Nat.le_of_ble_eq_true rfl, Nat.le_of_ble_eq_true rfl⟩) hS (fun q _ h => hFc q h) hFc (fun uu t H1 locs ht hvm hw hB hz1 hk1 hS => ?_)
            obtain ⟨hP1, hK1, hD1⟩ := hB
            rw [ht] at hP1
            obtain ⟨hP, hD⟩ := va_join (wr := [(h, .inr (1, [.int (nI fm), .int (nI (zw fm)), .int ((zsum fm (n / zw fm) f a) + (zsg fm (n / zw fm) f a).2)])), (mh, .inr (4, [.ref ma, .int (nI n)])), (ma, .inl (cI, mcap, .inl f))]) (w1 := [(sh, .inr (4, [.ref sa, .int (nI (a + 1))])), (sa, .inl (cI, scap, .inl (upd (zsrow fm (n / zw fm) f fs a) a ((zsg fm (n / zw fm) f a).1))))]) hP hD [3, 4] [0, 1, 2] rfl rfl (by decide) (by decide) hk1 hFc hP1 hD1
            generalize H1 = H at hP hS ⊢
            have hP := hP.sub (ws' := [(h, .inr (1, [.int (nI fm), .int (nI (zw fm)), .int ((zsum fm (n / zw fm) f a) + (zsg fm (n / zw fm) f a).2)])), (mh, .inr (4, [.ref ma, .int (nI n)])), (ma, .inl (cI, mcap, .inl f)), (sh, .inr (4, [.ref sa, .int (nI (a + 1))])), (sa, .inl (cI, scap, .inl (upd (zsrow fm (n / zw fm) f fs a) a ((zsg fm (n / zw fm) f a).1))))]) [0, 1, 2, 3, 4] rfl
            have hD := hD.sub (ws' := [(h, .inr (1, [.int (nI fm), .int (nI (zw fm)), .int ((zsum fm (n / zw fm) f a) + (zsg fm (n / zw fm) f a).2)])), (mh, .inr (4, [.ref ma, .int (nI n)])), (ma, .inl (cI, mcap, .inl f)), (sh, .inr (4, [.ref sa, .int (nI (a + 1))])), (sa, .inl (cI, scap, .inl (upd (zsrow fm (n / zw fm) f fs a) a ((zsg fm (n / zw fm) f a).1))))]) [0, 1, 2, 3, 4] (by decide) rfl
            refine lv_iinc (v := nI (a + 1)) (lv' := [(4, .int (nI (a + 1))), (5, .int ((zsg fm (n / zw fm) f a).1)), (3, .int (nI (n / zw fm))), (0, .ref h), (1, .ref mh), (2, .ref sh)]) hx hb dX0_decode_87 hl (k := 1) rfl (nI_1 a) (by decide) rfl (fun ls hl => ?_)
            refine lv_goto (tgt := 51) hx hb dX0_decode_90 (by decide) ?_
            rw [zsrow_s] at hP hD
            exact ih51 (a + 1) _ _ _ (by omega) ⟨lv_sub hl [0, 2, 3, 4, 5] rfl, by first | exact hP | exact hP.sub [0, 1, 2, 3, 4] rfl, by first | exact hD, hS, hlt, by rw [← hi2, show n / zw fm - (a + 1) = k2 by omega]⟩
          · have hbad : zbad (zsg fm (n / zw fm) f a).1 := Or.inr c76
            rw [zi_t hbad] at hi2
            have ez : zdn fm n f = a := by rw [zdn, zi_t hwh, hi2]
            have e0 := zsg_bad hbad
            refine lv_iconst (v := 0) hx hb dX0_decode_79 (by decide) ?_
            rw [e0, Int32.add_zero] at hP hD
            have hP9 : va_P (dC, dI) vwCl [(h, .inr (1, [.int (nI fm), .int (nI (zw fm)), .int (zsum fm (n / zw fm) f (zdn fm n f))])), (mh, .inr (4, [.ref ma, .int (nI n)])), (ma, .inl (cI, mcap, .inl f)), (sh, .inr (4, [.ref sa, .int (nI (zdn fm n f))])), (sa, .inl (cI, scap, .inl (zsrow fm (n / zw fm) f fs (zdn fm n f))))] H := by rw [ez]; exact hP
            have hD9 : va_D A [(h, .inr (1, [.int (nI fm), .int (nI (zw fm)), .int (zsum fm (n / zw fm) f (zdn fm n f))])), (mh, .inr (4, [.ref ma, .int (nI n)])), (ma, .inl (cI, mcap, .inl f)), (sh, .inr (4, [.ref sa, .int (nI (zdn fm n f))])), (sa, .inl (cI, scap, .inl (zsrow fm (n / zw fm) f fs (zdn fm n f))))] := by rw [ez]; exact hD
            have hres : (0 : Int32) = zb (n / zw fm * zw fm = n ∧ zdn fm n f = n / zw fm) := by exact (zb_f (fun q => by rw [ez] at q; omega)).symm
            exact W.zret (v := 0) hx hb hr rfl (fun t ht hW => ⟨⟨_, (), rfl, hres, by rw [ht]; exact hP9, va_K.moved hW.alike hK, hD9⟩, hS.F ht⟩) hS.2.2 dX0_decode_80
    · have hwh := zn_ne c43 (by omega) (by omega)
      have ez : zdn fm n f = 0 := zi_f hwh
      refine lv_iconst (v := 0) hx hb dX0_decode_46 (by decide) ?_
      have hP9 : va_P (dC, dI) vwCl [(h, .inr (1, [.int (nI fm), .int (nI (zw fm)), .int (zsum fm (n / zw fm) f (zdn fm n f))])), (mh, .inr (4, [.ref ma, .int (nI n)])), (ma, .inl (cI, mcap, .inl f)), (sh, .inr (4, [.ref sa, .int (nI (zdn fm n f))])), (sa, .inl (cI, scap, .inl (zsrow fm (n / zw fm) f fs (zdn fm n f))))] H := by rw [ez, zsrow_0]; exact hP
      have hD9 : va_D A [(h, .inr (1, [.int (nI fm), .int (nI (zw fm)), .int (zsum fm (n / zw fm) f (zdn fm n f))])), (mh, .inr (4, [.ref ma, .int (nI n)])), (ma, .inl (cI, mcap, .inl f)), (sh, .inr (4, [.ref sa, .int (nI (zdn fm n f))])), (sa, .inl (cI, scap, .inl (zsrow fm (n / zw fm) f fs (zdn fm n f))))] := by rw [ez, zsrow_0]; exact hD
      have hres : (0 : Int32) = zb (n / zw fm * zw fm = n ∧ zdn fm n f = n / zw fm) := by exact (zb_f (fun q => hwh q.1)).symm
      exact W.zret (v := 0) hx hb hr rfl (fun t ht hW => ⟨⟨_, (), rfl, hres, by rw [ht]; exact hP9, va_K.moved hW.alike hK, hD9⟩, hS.F ht⟩) hS.2.2 dX0_decode_47
  · refine lv_aload_n hx hb dX0_decode_9 rfl (lv_at hl 0 rfl) ?_
    refine va_get (D := (dC, dI)) (ci := 1) (v := .int (nI fm)) (C := RX0) (T := TX0) (N := 3) hx hb hts hinX0 hown hK hP 0 rfl rfl 0 (by decide) (hts (.fieldLink RX0 9 "ScanCodes$Coder" "form" "I") (by decide +kernel)) (fun _ h9 => h9) rfl dX0_decode_10 ?_
    refine lv_if_ne (tgt := 25) hx hb dX0_decode_13 (by decide) (fun c13 => ?_) (fun c13 => ?_)
    · have h2 := zn_ne (b := 0) c13 (by omega) (by decide)
      refine lv_aload_n hx hb dX0_decode_25 rfl (lv_at hl 1 rfl) ?_
      refine zc_callR (va_runV (As := []) (rest := []) ⟨hx, hb, hml, hown, hts⟩ (c_X3_size l dC dI cI cZ cJ mh ma mcap n f) (zc_V 0 hts ggX0_decode_X3_size rfl rfl rfl (by decide +kernel) (by decide +kernel) ⟨Nat.le_of_ble_eq_true rfl, Nat.le_of_ble_eq_true rfl⟩) ⟨zc_blind, va_recv hK hP (ci := 4) (q0 := 1) rfl rfl, zc_pay (hP.sub (ws' := [(mh, .inr (4, [.ref ma, .int (nI n)])), (ma, .inl (cI, mcap, .inl f))]) [1, 2] rfl) hK⟩ rfl rfl hl.1 rfl (lv_room (Nat.le_of_ble_eq_true rfl)) dX0_decode_26 ⟨Nat.le_of_ble_eq_true rfl, Nat.le_of_ble_eq_true rfl⟩) ?_
      refine lv_bipush (v := 7) hx hb dX0_decode_29 (by decide) ?_
      refine lv_idiv hx hb dX0_decode_31 (by decide) ?_
      refine zc_ti (y := nI (n / zw fm)) (by rw [zw_n h2]; exact pk_div (d := 7) (by omega) (by decide) (by decide)) ?_
      exact J32
    · have h2 := zn_eq (b := 0) c13 (by omega) (by decide)
      refine lv_aload_n hx hb dX0_decode_16 rfl (lv_at hl 1 rfl) ?_
      refine zc_callR (va_runV (As := []) (rest := []) ⟨hx, hb, hml, hown, hts⟩ (c_X3_size l dC dI cI cZ cJ mh ma mcap n f) (zc_V 0 hts ggX0_decode_X3_size rfl rfl rfl (by decide +kernel) (by decide +kernel) ⟨Nat.le_of_ble_eq_true rfl, Nat.le_of_ble_eq_true rfl⟩) ⟨zc_blind, va_recv hK hP (ci := 4) (q0 := 1) rfl rfl, zc_pay (hP.sub (ws' := [(mh, .inr (4, [.ref ma, .int (nI n)])), (ma, .inl (cI, mcap, .inl f))]) [1, 2] rfl) hK⟩ rfl rfl hl.1 rfl (lv_room (Nat.le_of_ble_eq_true rfl)) dX0_decode_17 ⟨Nat.le_of_ble_eq_true rfl, Nat.le_of_ble_eq_true rfl⟩) ?_
      refine lv_iconst (v := 4) hx hb dX0_decode_20 (by decide) ?_
      refine lv_idiv hx hb dX0_decode_21 (by decide) ?_
      refine zc_ti (y := nI (n / zw fm)) (by rw [h2]; exact pk_div (d := 4) (by omega) (by decide) (by decide)) ?_
      refine lv_goto (tgt := 32) hx hb dX0_decode_22 (by decide) ?_
      exact J32
set_option maxHeartbeats 4000000 in
set_option maxRecDepth 100000 in
theorem c_X0_encode (l : Launch) (dC : Nat → ClassId) (dI : Nat → Nat → Nat) (cI cZ cJ : ClassId) (h : Nat) (fm : Nat) (md : Int32) (sh : Nat) (sa : Nat) (scap : Nat) (sn : Nat) (fs : Nat → Int32) (mh : Nat) (ma : Nat) (mcap : Nat) (n : Nat) (f : Nat → Int32) (hf : fm ≤ 2) (hsn : sn ≤ scap) (hsc : scap < 2 ^ 31) (hmc : mcap < 2 ^ 31) (hfit : sn * zw fm ≤ mcap) (sz : Nat) : Met l yX0_encode wsX0_encode ({ frames := 2, cells := 0, slots := 0, locals := 43 }) (zc_PW [.ref h, .ref sh, .ref mh] (dC, dI) (zc_T cI cZ cJ) [(h, .inr (1, [.int (nI fm), .int (nI (zw fm)), .int md])), (sh, .inr (4, [.ref sa, .int (nI sn)])), (sa, .inl (cI, scap, .inl fs)), (mh, .inr (4, [.ref ma, .int (nI n)])), (ma, .inl (cI, mcap, .inl f))] sz) (va_Qv (fun _ : Unit => True) (fun _ t => zc_B (dC, dI) (zc_T cI cZ cJ) (va_A [(h, .inr (1, [.int (nI fm), .int (nI (zw fm)), .int md])), (sh, .inr (4, [.ref sa, .int (nI sn)])), (sa, .inl (cI, scap, .inl fs)), (mh, .inr (4, [.ref ma, .int (nI n)])), (ma, .inl (cI, mcap, .inl f))] sz) [(h, .inr (1, [.int (nI fm), .int (nI (zw fm)), .int md])), (sh, .inr (4, [.ref sa, .int (nI sn)])), (sa, .inl (cI, scap, .inl fs)), (mh, .inr (4, [.ref ma, .int (nI (sn * zw fm))])), (ma, .inl (cI, mcap, .inl (zenc fm sn (zval fm fs) (zr_z f 0 (sn * zw fm)) sn 0)))] t) (va_A [(h, .inr (1, [.int (nI fm), .int (nI (zw fm)), .int md])), (sh, .inr (4, [.ref sa, .int (nI sn)])), (sa, .inl (cI, scap, .inl fs)), (mh, .inr (4, [.ref ma, .int (nI n)])), (ma, .inl (cI, mcap, .inl f))] sz)) 0 0 (va_A [(h, .inr (1, [.int (nI fm), .int (nI (zw fm)), .int md])), (sh, .inr (4, [.ref sa, .int (nI sn)])), (sa, .inl (cI, scap, .inl fs)), (mh, .inr (4, [.ref ma, .int (nI n)])), (ma, .inl (cI, mcap, .inl f))] sz) := by
  refine Met.ofW (cc := cX0_encode) (maxL := 7) (ret := none) (by decide) rfl ?_
  intro p e s m args below meth c s₁ B hml hv
  obtain ⟨rfl, hsz, hP, hK, hD0⟩ := hv
  have hx := B.exec
  have hb := B.bytes
  have hr := B.returns
  have hts := atoms_spec (ws := wsX0_encode) B.pre
  have hown : s.vm.findClass RX0 = some m.cls := findClass_of_methodNamed B.named
  have hlocks := B.notSynchronized
  subst hsz
  have hD := hD0.self (sz := s.heap.size)
  generalize hAe : va_A [(h, .inr (1, [.int (nI fm), .int (nI (zw fm)), .int md])), (sh, .inr (4, [.ref sa, .int (nI sn)])), (sa, .inl (cI, scap, .inl fs)), (mh, .inr (4, [.ref ma, .int (nI n)])), (ma, .inl (cI, mcap, .inl f))] s.heap.size = A at hD ⊢
  have hA : ∀ q : Nat, s.heap.size ≤ q → A q := fun q h => by rw [← hAe]; exact Or.inr h
  have hS : va_S A s.heap s.heap [] := va_S.rf
  have hinX0 : ∀ w ∈ wsX00, w ∈ wsX0_encode := by decide +kernel
  have hl := lv_entry ([.ref h, .ref sh, .ref mh]) (n := 7) (Nat.le_of_ble_eq_true rfl)
  rw [lg_entry_eq]
  generalize (lg_sl ([.ref h, .ref sh, .ref mh]) ++ List.replicate (7 - (lg_sl ([.ref h, .ref sh, .ref mh])).length) Slot.unset).toArray = ls at hl ⊢
  have hl : lv_has ls 7 [(0, .ref h), (1, .ref sh), (2, .ref mh)] := hl
  refine lv_aload_n hx hb dX0_encode_0 rfl (lv_at hl 1 rfl) ?_
  refine zc_callR (va_runV (As := []) (rest := []) ⟨hx, hb, hml, hown, hts⟩ (c_X3_size l dC dI cI cZ cJ sh sa scap sn fs) (zc_V 0 hts ggX0_encode_X3_size rfl rfl rfl (by decide +kernel) (by decide +kernel) ⟨Nat.le_of_ble_eq_true rfl, Nat.le_of_ble_eq_true rfl⟩) ⟨zc_blind, va_recv hK hP (ci := 4) (q0 := 1) rfl rfl, zc_pay (hP.sub (ws' := [(sh, .inr (4, [.ref sa, .int (nI sn)])), (sa, .inl (cI, scap, .inl fs))]) [1, 2] rfl) hK⟩ rfl rfl hl.1 rfl (lv_room (Nat.le_of_ble_eq_true rfl)) dX0_encode_1 ⟨Nat.le_of_ble_eq_true rfl, Nat.le_of_ble_eq_true rfl⟩) ?_
  refine lv_istore_n (lv' := [(3, .int (nI sn)), (0, .ref h), (1, .ref sh), (2, .ref mh)]) hx hb dX0_encode_4 rfl hl (by decide) rfl (fun ls hl => ?_)
  refine lv_aload_n hx hb dX0_encode_5 rfl (lv_at hl 3 rfl) ?_
  refine lv_iload_n hx hb dX0_encode_6 rfl (lv_at hl 0 rfl) ?_
  refine lv_aload_n hx hb dX0_encode_7 rfl (lv_at hl 1 rfl) ?_
  refine va_get (D := (dC, dI)) (ci := 1) (v := .int (nI (zw fm))) (C := RX0) (T := TX0) (N := 3) hx hb hts hinX0 hown hK hP 0 rfl rfl 1 (by decide) (hts (.fieldLink RX0 15 "ScanCodes$Coder" "width" "I") (by decide +kernel)) (fun _ h9 => h9) rfl dX0_encode_8 ?_
  refine lv_imul hx hb dX0_encode_11 ?_
  refine zc_ti (y := nI (sn * zw fm)) (pk_mul _ _) ?_
  have hPc := hP.sub (ws' := [(mh, .inr (4, [.ref ma, .int (nI n)])), (ma, .inl (cI, mcap, .inl f))]) [3, 4] rfl
  have hDc := hD.sub (ws' := [(mh, .inr (4, [.ref ma, .int (nI n)])), (ma, .inl (cI, mcap, .inl f))]) [3, 4] (by decide) rfl
  have hFc := va_free (wc := [(mh, .inr (4, [.ref ma, .int (nI n)])), (ma, .inl (cI, mcap, .inl f))]) hD hS hA [3, 4] rfl
  refine va_callv (va_runV (As := [.int (nI (sn * zw fm))]) (rest := []) ⟨hx, hb, hml, hown, hts⟩ (c_X3_zeros l dC dI cI cZ cJ mh ma mcap n f (sn * zw fm) (by first | assumption | omega) (by first | assumption | omega) s.heap.size) (zc_V 1 hts ggX0_encode_X3_zeros rfl rfl rfl (by decide +kernel) (by decide +kernel) ⟨Nat.le_of_ble_eq_true rfl, Nat.le_of_ble_eq_true rfl⟩) ⟨zc_blindW, va_recv hK hP (ci := 4) (q0 := 3) rfl rfl, zc_payW hPc hK hDc⟩ rfl rfl hl.1 rfl (lv_room (Nat.le_of_ble_eq_true rfl)) dX0_encode_12 ⟨Nat.le_of_ble_eq_true rfl, Nat.le_of_ble_eq_true rfl⟩) hS (fun q _ h => hFc q h) hFc (fun uu t H1 locs ht hvm hw hB hz1 hk1 hS => ?_)
  obtain ⟨hP1, hK1, hD1⟩ := hB
  rw [ht] at hP1
  obtain ⟨hP, hD⟩ := va_join (wr := [(h, .inr (1, [.int (nI fm), .int (nI (zw fm)), .int md])), (sh, .inr (4, [.ref sa, .int (nI sn)])), (sa, .inl (cI, scap, .inl fs))]) (w1 := [(mh, .inr (4, [.ref ma, .int (nI (sn * zw fm))])), (ma, .inl (cI, mcap, .inl (zr_z f 0 (sn * zw fm))))]) hP hD [3, 4] [0, 1, 2] rfl rfl (by decide) (by decide) hk1 hFc hP1 hD1
  generalize H1 = H at hP hS ⊢
  have hP := hP.sub (ws' := [(h, .inr (1, [.int (nI fm), .int (nI (zw fm)), .int md])), (sh, .inr (4, [.ref sa, .int (nI sn)])), (sa, .inl (cI, scap, .inl fs)), (mh, .inr (4, [.ref ma, .int (nI (sn * zw fm))])), (ma, .inl (cI, mcap, .inl (zr_z f 0 (sn * zw fm))))]) [0, 1, 2, 3, 4] rfl
  have hD := hD.sub (ws' := [(h, .inr (1, [.int (nI fm), .int (nI (zw fm)), .int md])), (sh, .inr (4, [.ref sa, .int (nI sn)])), (sa, .inl (cI, scap, .inl fs)), (mh, .inr (4, [.ref ma, .int (nI (sn * zw fm))])), (ma, .inl (cI, mcap, .inl (zr_z f 0 (sn * zw fm))))]) [0, 1, 2, 3, 4] (by decide) rfl
  refine lv_iconst (v := 0) hx hb dX0_encode_15 (by decide) ?_
  refine lv_istore (lv' := [(4, .int 0), (3, .int (nI sn)), (0, .ref h), (1, .ref sh), (2, .ref mh)]) hx hb dX0_encode_16 hl (by decide) rfl (fun ls hl => ?_)
  rw [← zenc_0 fm sn (zval fm fs) (zr_z f 0 (sn * zw fm))] at hP hD
  refine zc_loopH (α := Nat) (fun a H locs ls => lv_has ls 7 [(4, .int (nI a)), (3, .int (nI sn)), (0, .ref h), (1, .ref sh), (2, .ref mh)] ∧ va_P (dC, dI) vwCl [(h, .inr (1, [.int (nI fm), .int (nI (zw fm)), .int md])), (sh, .inr (4, [.ref sa, .int (nI sn)])), (sa, .inl (cI, scap, .inl fs)), (mh, .inr (4, [.ref ma, .int (nI (sn * zw fm))])), (ma, .inl (cI, mcap, .inl (zenc fm sn (zval fm fs) (zr_z f 0 (sn * zw fm)) a 0)))] H ∧ va_D A [(h, .inr (1, [.int (nI fm), .int (nI (zw fm)), .int md])), (sh, .inr (4, [.ref sa, .int (nI sn)])), (sa, .inl (cI, scap, .inl fs)), (mh, .inr (4, [.ref ma, .int (nI (sn * zw fm))])), (ma, .inl (cI, mcap, .inl (zenc fm sn (zval fm fs) (zr_z f 0 (sn * zw fm)) a 0)))] ∧ va_S A s.heap H locs ∧ (a ≤ sn)) (fun a => sn - a) 0 ⟨lv_sub hl [0, 1, 2, 3, 4] rfl, by exact hP, by exact hD, hS, Nat.zero_le _⟩ ?_
  intro x H locs ls hI ih18
  obtain ⟨a, rfl⟩ : ∃ z, z = x := ⟨_, rfl⟩
  obtain ⟨hl, hP, hD, hS, ha1⟩ := hI
  have hl : lv_has ls 7 [(4, .int (nI a)), (3, .int (nI sn)), (0, .ref h), (1, .ref sh), (2, .ref mh)] := hl
  have hP : va_P (dC, dI) vwCl [(h, .inr (1, [.int (nI fm), .int (nI (zw fm)), .int md])), (sh, .inr (4, [.ref sa, .int (nI sn)])), (sa, .inl (cI, scap, .inl fs)), (mh, .inr (4, [.ref ma, .int (nI (sn * zw fm))])), (ma, .inl (cI, mcap, .inl (zenc fm sn (zval fm fs) (zr_z f 0 (sn * zw fm)) a 0)))] H := hP
  have hD : va_D A [(h, .inr (1, [.int (nI fm), .int (nI (zw fm)), .int md])), (sh, .inr (4, [.ref sa, .int (nI sn)])), (sa, .inl (cI, scap, .inl fs)), (mh, .inr (4, [.ref ma, .int (nI (sn * zw fm))])), (ma, .inl (cI, mcap, .inl (zenc fm sn (zval fm fs) (zr_z f 0 (sn * zw fm)) a 0)))] := hD
  try dsimp only at ih18
  refine lv_iload hx hb dX0_encode_18 (lv_at hl 0 rfl) ?_
  refine lv_iload_n hx hb dX0_encode_20 rfl (lv_at hl 1 rfl) ?_
  refine lv_icmp_ge (tgt := 87) hx hb dX0_encode_21 (by decide) (fun c21 => ?_) (fun c21 => ?_)
  · have hge := zn_le c21 (by omega) (by omega)
    have hje : a = sn := by omega
    rw [hje] at hP hD
    have hP9 : va_P (dC, dI) vwCl [(h, .inr (1, [.int (nI fm), .int (nI (zw fm)), .int md])), (sh, .inr (4, [.ref sa, .int (nI sn)])), (sa, .inl (cI, scap, .inl fs)), (mh, .inr (4, [.ref ma, .int (nI (sn * zw fm))])), (ma, .inl (cI, mcap, .inl (zenc fm sn (zval fm fs) (zr_z f 0 (sn * zw fm)) sn 0)))] H := hP
    have hD9 : va_D A [(h, .inr (1, [.int (nI fm), .int (nI (zw fm)), .int md])), (sh, .inr (4, [.ref sa, .int (nI sn)])), (sa, .inl (cI, scap, .inl fs)), (mh, .inr (4, [.ref ma, .int (nI (sn * zw fm))])), (ma, .inl (cI, mcap, .inl (zenc fm sn (zval fm fs) (zr_z f 0 (sn * zw fm)) sn 0)))] := hD
    exact W.vret hx hb hr (fun t ht hW => ⟨⟨(), rfl, trivial, by rw [ht]; exact hP9, va_K.moved hW.alike hK, hD9⟩, hS.F ht⟩) hS.2.2 dX0_encode_87
  · have hlt := zn_nle c21 (by omega) (by omega)
    refine lv_aload_n hx hb dX0_encode_24 rfl (lv_at hl 2 rfl) ?_
    refine lv_aload_n hx hb dX0_encode_25 rfl (lv_at hl 3 rfl) ?_
    refine lv_iload hx hb dX0_encode_26 (lv_at hl 0 rfl) ?_
    refine zc_callR (va_runV (As := [.int (nI a)]) (rest := [.ref h]) ⟨hx, hb, hml, hown, hts⟩ (c_X3_at l dC dI cI cZ cJ sh sa scap sn fs (nI a) (by first | assumption | omega) (by first | assumption | omega)) (zc_V 1 hts ggX0_encode_X3_at rfl rfl rfl (by decide +kernel) (by decide +kernel) ⟨Nat.le_of_ble_eq_true rfl, Nat.le_of_ble_eq_true rfl⟩) ⟨zc_blind, va_recv hK hP (ci := 4) (q0 := 1) rfl rfl, zc_pay (hP.sub (ws' := [(sh, .inr (4, [.ref sa, .int (nI sn)])), (sa, .inl (cI, scap, .inl fs))]) [1, 2] rfl) hK⟩ rfl rfl hl.1 rfl (lv_room (Nat.le_of_ble_eq_true rfl)) dX0_encode_28 ⟨Nat.le_of_ble_eq_true rfl, Nat.le_of_ble_eq_true rfl⟩) ?_
    refine zc_ti (y := fs a) (zr_at_in (by omega) (by omega)) ?_
    refine zc_callR (va_runV (As := [.int (fs a)]) (rest := []) ⟨hx, hb, hml, hown, hts⟩ (c_X0_wordOf l dC dI cI cZ cJ h fm md (fs a) (by first | assumption | omega)) (zc_V 1 hts ggX0_encode_X0_wordOf rfl rfl rfl (by decide +kernel) (by decide +kernel) ⟨Nat.le_of_ble_eq_true rfl, Nat.le_of_ble_eq_true rfl⟩) ⟨zc_blind, va_recv hK hP (ci := 1) (q0 := 0) rfl rfl, zc_pay (hP.sub (ws' := [(h, .inr (1, [.int (nI fm), .int (nI (zw fm)), .int md]))]) [0] rfl) hK⟩ rfl rfl hl.1 rfl (lv_room (Nat.le_of_ble_eq_true rfl)) dX0_encode_31 ⟨Nat.le_of_ble_eq_true rfl, Nat.le_of_ble_eq_true rfl⟩) ?_
    refine lv_istore (lv' := [(5, .int (zwd fm (fs a))), (4, .int (nI a)), (3, .int (nI sn)), (0, .ref h), (1, .ref sh), (2, .ref mh)]) hx hb dX0_encode_34 hl (by decide) rfl (fun ls hl => ?_)
    refine lv_iconst (v := 0) hx hb dX0_encode_36 (by decide) ?_
    refine lv_istore (lv' := [(6, .int 0), (5, .int (zwd fm (fs a))), (4, .int (nI a)), (3, .int (nI sn)), (0, .ref h), (1, .ref sh), (2, .ref mh)]) hx hb dX0_encode_37 hl (by decide) rfl (fun ls hl => ?_)
    refine zc_loopH (α := Nat) (fun k H locs ls => lv_has ls 7 [(6, .int (nI k)), (5, .int (zwd fm (fs a))), (4, .int (nI a)), (3, .int (nI sn)), (0, .ref h), (1, .ref sh), (2, .ref mh)] ∧ va_P (dC, dI) vwCl [(h, .inr (1, [.int (nI fm), .int (nI (zw fm)), .int md])), (sh, .inr (4, [.ref sa, .int (nI sn)])), (sa, .inl (cI, scap, .inl fs)), (mh, .inr (4, [.ref ma, .int (nI (sn * zw fm))])), (ma, .inl (cI, mcap, .inl (zenc fm sn (zval fm fs) (zr_z f 0 (sn * zw fm)) a k)))] H ∧ va_D A [(h, .inr (1, [.int (nI fm), .int (nI (zw fm)), .int md])), (sh, .inr (4, [.ref sa, .int (nI sn)])), (sa, .inl (cI, scap, .inl fs)), (mh, .inr (4, [.ref ma, .int (nI (sn * zw fm))])), (ma, .inl (cI, mcap, .inl (zenc fm sn (zval fm fs) (zr_z f 0 (sn * zw fm)) a k)))] ∧ va_S A s.heap H locs ∧ (k ≤ zw fm)) (fun k => zw fm - k) 0 ⟨lv_sub hl [0, 1, 2, 3, 4, 5, 6] rfl, by exact hP, by exact hD, hS, Nat.zero_le _⟩ ?_
    intro x H locs ls hI ih39
    obtain ⟨k, rfl⟩ : ∃ z, z = x := ⟨_, rfl⟩
    obtain ⟨hl, hP, hD, hS, hk1⟩ := hI
    have hl : lv_has ls 7 [(6, .int (nI k)), (5, .int (zwd fm (fs a))), (4, .int (nI a)), (3, .int (nI sn)), (0, .ref h), (1, .ref sh), (2, .ref mh)] := hl
    have hP : va_P (dC, dI) vwCl [(h, .inr (1, [.int (nI fm), .int (nI (zw fm)), .int md])), (sh, .inr (4, [.ref sa, .int (nI sn)])), (sa, .inl (cI, scap, .inl fs)), (mh, .inr (4, [.ref ma, .int (nI (sn * zw fm))])), (ma, .inl (cI, mcap, .inl (zenc fm sn (zval fm fs) (zr_z f 0 (sn * zw fm)) a k)))] H := hP
    have hD : va_D A [(h, .inr (1, [.int (nI fm), .int (nI (zw fm)), .int md])), (sh, .inr (4, [.ref sa, .int (nI sn)])), (sa, .inl (cI, scap, .inl fs)), (mh, .inr (4, [.ref ma, .int (nI (sn * zw fm))])), (ma, .inl (cI, mcap, .inl (zenc fm sn (zval fm fs) (zr_z f 0 (sn * zw fm)) a k)))] := hD
    try dsimp only at ih39
    refine lv_iload hx hb dX0_encode_39 (lv_at hl 0 rfl) ?_
    refine lv_aload_n hx hb dX0_encode_41 rfl (lv_at hl 4 rfl) ?_
    refine va_get (D := (dC, dI)) (ci := 1) (v := .int (nI (zw fm))) (C := RX0) (T := TX0) (N := 3) hx hb hts hinX0 hown hK hP 0 rfl rfl 1 (by decide) (hts (.fieldLink RX0 15 "ScanCodes$Coder" "width" "I") (by decide +kernel)) (fun _ h9 => h9) rfl dX0_encode_42 ?_
    refine lv_icmp_ge (tgt := 81) hx hb dX0_encode_45 (by decide) (fun c45 => ?_) (fun c45 => ?_)
    · have hge := zn_le c45 (by have := zw_le fm; omega) (by have := zw_le fm; omega)
      have hkw : k = zw fm := by omega
      rw [hkw, zenc_s] at hP hD
      refine lv_iinc (v := nI (a + 1)) (lv' := [(4, .int (nI (a + 1))), (6, .int (nI k)), (5, .int (zwd fm (fs a))), (3, .int (nI sn)), (0, .ref h), (1, .ref sh), (2, .ref mh)]) hx hb dX0_encode_81 hl (k := 2) rfl (nI_1 a) (by decide) rfl (fun ls hl => ?_)
      refine lv_goto (tgt := 18) hx hb dX0_encode_84 (by decide) ?_
      exact ih18 (a + 1) _ _ _ (by omega) ⟨lv_sub hl [0, 3, 4, 5, 6] rfl, by first | exact hP | exact hP.sub [0, 1, 2, 3, 4] rfl, by first | exact hD, hS, hlt⟩
    · have hkl := zn_nle c45 (by have := zw_le fm; omega) (by have := zw_le fm; omega)
      have hpl := zpl_lt hlt hkl
      refine lv_aload_n hx hb dX0_encode_48 rfl (lv_at hl 6 rfl) ?_
      refine lv_aload_n hx hb dX0_encode_49 rfl (lv_at hl 4 rfl) ?_
      refine lv_iload hx hb dX0_encode_50 (lv_at hl 2 rfl) ?_
      refine lv_iload hx hb dX0_encode_52 (lv_at hl 0 rfl) ?_
      refine lv_iload_n hx hb dX0_encode_54 rfl (lv_at hl 3 rfl) ?_
      refine zc_callR (va_runV (As := [.int (nI a), .int (nI k), .int (nI sn)]) (rest := [.ref mh]) ⟨hx, hb, hml, hown, hts⟩ (c_X0_placeOf l dC dI cI cZ cJ h fm md a k sn (by first | assumption | omega)) (zc_V 3 hts ggX0_encode_X0_placeOf rfl rfl rfl (by decide +kernel) (by decide +kernel) ⟨Nat.le_of_ble_eq_true rfl, Nat.le_of_ble_eq_true rfl⟩) ⟨zc_blind, va_recv hK hP (ci := 1) (q0 := 0) rfl rfl, zc_pay (hP.sub (ws' := [(h, .inr (1, [.int (nI fm), .int (nI (zw fm)), .int md]))]) [0] rfl) hK⟩ rfl rfl hl.1 rfl (lv_room (Nat.le_of_ble_eq_true rfl)) dX0_encode_55 ⟨Nat.le_of_ble_eq_true rfl, Nat.le_of_ble_eq_true rfl⟩) ?_
      refine lv_iload hx hb dX0_encode_58 (lv_at hl 1 rfl) ?_
      refine lv_aload_n hx hb dX0_encode_60 rfl (lv_at hl 4 rfl) ?_
      refine va_get (D := (dC, dI)) (ci := 1) (v := .int (nI (zw fm))) (C := RX0) (T := TX0) (N := 3) hx hb hts hinX0 hown hK hP 0 rfl rfl 1 (by decide) (hts (.fieldLink RX0 15 "ScanCodes$Coder" "width" "I") (by decide +kernel)) (fun _ h9 => h9) rfl dX0_encode_61 ?_
      refine lv_iconst (v := 1) hx hb dX0_encode_64 (by decide) ?_
      refine lv_isub hx hb dX0_encode_65 ?_
      refine lv_iload hx hb dX0_encode_66 (lv_at hl 0 rfl) ?_
      refine lv_isub hx hb dX0_encode_68 ?_
      refine lv_ishr hx hb dX0_encode_69 ?_
      refine lv_iconst (v := 1) hx hb dX0_encode_70 (by decide) ?_
      refine lv_iand hx hb dX0_encode_71 ?_
      refine zc_ti (y := zval fm fs a k) rfl ?_
      have hPc := hP.sub (ws' := [(mh, .inr (4, [.ref ma, .int (nI (sn * zw fm))])), (ma, .inl (cI, mcap, .inl (zenc fm sn (zval fm fs) (zr_z f 0 (sn * zw fm)) a k)))]) [3, 4] rfl
      have hDc := hD.sub (ws' := [(mh, .inr (4, [.ref ma, .int (nI (sn * zw fm))])), (ma, .inl (cI, mcap, .inl (zenc fm sn (zval fm fs) (zr_z f 0 (sn * zw fm)) a k)))]) [3, 4] (by decide) rfl
      have hFc := va_free (wc := [(mh, .inr (4, [.ref ma, .int (nI (sn * zw fm))])), (ma, .inl (cI, mcap, .inl (zenc fm sn (zval fm fs) (zr_z f 0 (sn * zw fm)) a k)))]) hD hS hA [3, 4] rfl
      refine va_callv (va_runV (As := [.int (nI (zpl fm a k sn)), .int (zval fm fs a k)]) (rest := []) ⟨hx, hb, hml, hown, hts⟩ (c_X3_put l dC dI cI cZ cJ mh ma mcap (sn * zw fm) (zenc fm sn (zval fm fs) (zr_z f 0 (sn * zw fm)) a k) (zpl fm a k sn) (zval fm fs a k) hpl hfit hmc H.size) (zc_V 2 hts ggX0_encode_X3_put rfl rfl rfl (by decide +kernel) (by decide +kernel) ⟨Nat.le_of_ble_eq_true rfl, Nat.le_of_ble_eq_true rfl⟩) ⟨zc_blindW, va_recv hK hP (ci := 4) (q0 := 3) rfl rfl, zc_payW hPc hK hDc⟩ rfl rfl hl.1 rfl (lv_room (Nat.le_of_ble_eq_true rfl)) dX0_encode_72 ⟨Nat.le_of_ble_eq_true rfl, Nat.le_of_ble_eq_true rfl⟩) hS (fun q _ h => hFc q h) hFc (fun uu t H1 locs ht hvm hw hB hz1 hk1 hS => ?_)
      obtain ⟨hP1, hK1, hD1⟩ := hB
      rw [ht] at hP1
      obtain ⟨hP, hD⟩ := va_join (wr := [(h, .inr (1, [.int (nI fm), .int (nI (zw fm)), .int md])), (sh, .inr (4, [.ref sa, .int (nI sn)])), (sa, .inl (cI, scap, .inl fs))]) (w1 := [(mh, .inr (4, [.ref ma, .int (nI (sn * zw fm))])), (ma, .inl (cI, mcap, .inl (upd (zenc fm sn (zval fm fs) (zr_z f 0 (sn * zw fm)) a k) (zpl fm a k sn) (zval fm fs a k))))]) hP hD [3, 4] [0, 1, 2] rfl rfl (by decide) (by decide) hk1 hFc hP1 hD1
      generalize H1 = H at hP hS ⊢
      have hP := hP.sub (ws' := [(h, .inr (1, [.int (nI fm), .int (nI (zw fm)), .int md])), (sh, .inr (4, [.ref sa, .int (nI sn)])), (sa, .inl (cI, scap, .inl fs)), (mh, .inr (4, [.ref ma, .int (nI (sn * zw fm))])), (ma, .inl (cI, mcap, .inl (upd (zenc fm sn (zval fm fs) (zr_z f 0 (sn * zw fm)) a k) (zpl fm a k sn) (zval fm fs a k))))]) [0, 1, 2, 3, 4] rfl
      have hD := hD.sub (ws' := [(h, .inr (1, [.int (nI fm), .int (nI (zw fm)), .int md])), (sh, .inr (4, [.ref sa, .int (nI sn)])), (sa, .inl (cI, scap, .inl fs)), (mh, .inr (4, [.ref ma, .int (nI (sn * zw fm))])), (ma, .inl (cI, mcap, .inl (upd (zenc fm sn (zval fm fs) (zr_z f 0 (sn * zw fm)) a k) (zpl fm a k sn) (zval fm fs a k))))]) [0, 1, 2, 3, 4] (by decide) rfl
      refine lv_iinc (v := nI (k + 1)) (lv' := [(6, .int (nI (k + 1))), (5, .int (zwd fm (fs a))), (4, .int (nI a)), (3, .int (nI sn)), (0, .ref h), (1, .ref sh), (2, .ref mh)]) hx hb dX0_encode_75 hl (k := 0) rfl (nI_1 k) (by decide) rfl (fun ls hl => ?_)
      refine lv_goto (tgt := 39) hx hb dX0_encode_78 (by decide) ?_
      rw [zenc_k (zval fm fs) _ hlt hkl] at hP hD
      exact ih39 (k + 1) _ _ _ (by omega) ⟨lv_sub hl [0, 1, 2, 3, 4, 5, 6] rfl, by first | exact hP | exact hP.sub [0, 1, 2, 3, 4] rfl, by first | exact hD, hS, hkl⟩
