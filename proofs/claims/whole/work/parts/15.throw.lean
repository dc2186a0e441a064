/-! Throws: the words that are no kept ones, the texts, the two statics; the end of a method that throws. -/
def zx_ws : List Cond := [.declares (Bundle.initS "java/lang/RuntimeException"), .declares (Bundle.initS "java/lang/Exception"), .declares (Bundle.initS "java/lang/Throwable"), .declares (Bundle.initS "java/lang/IndexOutOfBoundsException"), .castable "java/lang/IllegalArgumentException" "java/lang/IllegalArgumentException", .castable "java/lang/UnsupportedOperationException" "java/lang/UnsupportedOperationException", .castable "java/util/NoSuchElementException" "java/util/NoSuchElementException", .castable "java/lang/IllegalStateException" "java/lang/IllegalStateException", .castable "java/lang/ArrayIndexOutOfBoundsException" "java/lang/ArrayIndexOutOfBoundsException", .methodLinkNest RX2 29 yX6_isPrefix "ScanCodes", .methodLinkNest RX4 41 yX6_isStation "ScanCodes", .methodLinkNest RX5 47 yX6_checkSign "ScanCodes"]
def zx_st : List (Nat × String) := [(86, "no such prefix or length"), (94, "no such station"), (105, "sixteen other prefixes are known"), (114, "the prefix is not known"), (117, "not another prefix"), (130, "the number does not have so many digits"), (136, "the prefix does not let so many digits"), (142, "the label has this prefix, or six"), (149, "the label has no fields"), (155, "the label has more than 60 signs"), (169, "no such module"), (180, "no module"), (186, "420 modules were read"), (188, "no sign"), (190, "60 signs were typed"), (192, "nothing was read"), (205, "nothing was typed"), (211, "no such field"), (213, "neither the prefix nor the digits"), (225, "hints are counted from 0"), (233, "no such station, or before the last scan"), (235, "nothing could be taken apart"), (242, "forty other labels were scanned")]
def zx_N (U : State) : Prop := ∀ w ∈ zx_ws, va_Nw w U
theorem zx_on : ∀ w ∈ zx_ws, w.onTables = true := by decide +kernel
theorem zx_N.use {U : State} (h : zx_N U) {A : Array Value} : ∀ w ∈ zx_ws, w.before A U = true := fun w hw => va_Nw.use (zx_on w hw) (h w hw)
theorem zx_N.same {u U : State} (hv : u.vm = U.vm) (h : zx_N u) : zx_N U := fun w hw => va_Nw.same (zx_on w hw) hv (h w hw)
theorem zx_N.warm {s U : State} (hW : s.WarmedH U.vm) (h : zx_N s) : zx_N U := by
  intro w hw
  have h1 := h w hw
  simp only [zx_ws, List.mem_cons, List.not_mem_nil, or_false] at hw
  rcases hw with rfl | rfl | rfl | rfl | rfl | rfl | rfl | rfl | rfl | rfl | rfl | rfl
  · exact va_Nw.warmD hW h1
  · exact va_Nw.warmD hW h1
  · exact va_Nw.warmD hW h1
  · exact va_Nw.warmD hW h1
  · exact va_Nw.warmC hW h1
  · exact va_Nw.warmC hW h1
  · exact va_Nw.warmC hW h1
  · exact va_Nw.warmC hW h1
  · exact va_Nw.warmC hW h1
  · exact va_Nw.warmM hW h1
  · exact va_Nw.warmM hW h1
  · exact va_Nw.warmM hW h1
def zx_R (sa : Nat → Nat) (U : State) : Prop := ∀ q ∈ zx_st, vk_R RX6 q.1 q.2 (sa q.1) U
theorem zx_R.same {sa : Nat → Nat} {u U : State} (hv : U.vm = u.vm) (h : zx_R sa u) : zx_R sa U := fun q hq => vk_R.same hv (h q hq)
theorem zx_R.warm {sa : Nat → Nat} {s U : State} (hW : s.WarmedH U.vm) (h : zx_R sa s) : zx_R sa U := fun q hq => vk_R.warm hW (h q hq)
def zx_Z (A : Nat → Prop) (U : State) (H : Heap) : Prop := vx_Zq Bundle.tN "UNASSIGNED_STACK" Bundle.steD A U H ∧ vx_Zq Bundle.tN "SUPPRESSED_SENTINEL" Bundle.listD A U H
theorem zx_Z.moved {A : Nat → Prop} {u U : State} {H : Heap} (hvm : u.vm.Alike U.vm) (h : zx_Z A u H) : zx_Z A U H := ⟨vx_Zq.moved hvm h.1, vx_Zq.moved hvm h.2⟩
theorem zx_Z.kept {A : Nat → Prop} {U : State} {H H1 : Heap} (h : zx_Z A U H) (hq : ∀ a : Nat, a < H.size → ¬ A a → H1[a]? = H[a]?) : zx_Z A U H1 := ⟨vx_Zq.kept h.1 hq, vx_Zq.kept h.2 hq⟩
theorem zx_Z.narrow {A B : Nat → Prop} {U : State} {H : Heap} (h : zx_Z A U H) (hAB : ∀ q, B q → A q) : zx_Z B U H := ⟨vx_Zq.narrow h.1 hAB, vx_Zq.narrow h.2 hAB⟩
/-- what a throwing method asks beside its cells -/
abbrev zx_PW (av : List Value) (D : va_G) (T : List (ClassId × FieldType)) (ws : va_W) (sz : Nat) (sa : Nat → Nat) : Array Value → State → Prop := va_Pc av (fun U => U.heap.size = sz ∧ va_P D vwCl ws U.heap ∧ va_K D vwCl T U ∧ va_D (fun _ => True) ws ∧ zx_N U ∧ zx_R sa U ∧ zx_Z (va_A ws sz) U U.heap)
theorem zx_blind {av : List Value} {D : va_G} {T : List (ClassId × FieldType)} {ws : va_W} {sz : Nat} {sa : Nat → Nat} : FrameBlind (zx_PW av D T ws sz sa) := fun a U g mk q => by
  obtain ⟨q0, q1, qP, qK, qD, qN, qR, qZ⟩ := q
  exact ⟨q0, q1, qP, va_K.moved (u := U) (U := U.calling g mk a) (Vm.Alike.refl U.vm) qK, qD, zx_N.same (u := U) (U := U.calling g mk a) rfl qN, zx_R.same (u := U) (U := U.calling g mk a) rfl qR, zx_Z.moved (u := U) (U := U.calling g mk a) (Vm.Alike.refl U.vm) qZ⟩
theorem zx_end {D : va_G} {T : List (ClassId × FieldType)} {A : Nat → Prop} {ws : va_W} {s t : State} {H : Heap} {locs : List Loc} (hP : va_P D vwCl ws H) (hK : va_K D vwCl T s) (hD : va_D A ws) (hS : va_S A s.heap H locs) (hvm : s.vm.Alike t.vm) (hz : H.size ≤ t.heap.size) (hk : ∀ q : Nat, q < H.size → t.heap[q]? = H[q]?) : zc_B D T A ws t ∧ va_F A s t :=
  ⟨⟨hP.kept (fun k q hq => hk _ (hP k q hq).lt), va_K.moved hvm hK, hD⟩, Nat.le_trans hS.1 hz, fun q h1 h2 => by rw [hk q (Nat.lt_of_lt_of_le h1 hS.1)]; exact hS.2.1 q h1 h2⟩
theorem zx_g_IAE : ∀ w ∈ Cond.classLink RX6 84 "java/lang/IllegalArgumentException" :: Cond.initialized "java/lang/IllegalArgumentException" :: vx_atS RX6 88 "java/lang/IllegalArgumentException" ["java/lang/RuntimeException", "java/lang/Exception"], vx_ot w = true := by decide +kernel
theorem zx_b_IAE : ∀ w ∈ (vx_atS RX6 88 "java/lang/IllegalArgumentException" ["java/lang/RuntimeException", "java/lang/Exception"]).filter (fun w => !goodWord w), w ∈ zx_ws := by decide +kernel
theorem zx_g_UOE : ∀ w ∈ Cond.classLink RX6 103 "java/lang/UnsupportedOperationException" :: Cond.initialized "java/lang/UnsupportedOperationException" :: vx_atS RX6 107 "java/lang/UnsupportedOperationException" ["java/lang/RuntimeException", "java/lang/Exception"], vx_ot w = true := by decide +kernel
theorem zx_b_UOE : ∀ w ∈ (vx_atS RX6 107 "java/lang/UnsupportedOperationException" ["java/lang/RuntimeException", "java/lang/Exception"]).filter (fun w => !goodWord w), w ∈ zx_ws := by decide +kernel
theorem zx_g_NSE : ∀ w ∈ Cond.classLink RX6 112 "java/util/NoSuchElementException" :: Cond.initialized "java/util/NoSuchElementException" :: zx_atX RX6 116 "java/util/NoSuchElementException" 13 zx_rx ["java/lang/RuntimeException", "java/lang/Exception"], vx_ot w = true := by decide +kernel
theorem zx_b_NSE : ∀ w ∈ (zx_atX RX6 116 "java/util/NoSuchElementException" 13 zx_rx ["java/lang/RuntimeException", "java/lang/Exception"]).filter (fun w => !goodWord w), w ∈ zx_ws := by decide +kernel
theorem zx_g_ISE : ∀ w ∈ Cond.classLink RX6 140 "java/lang/IllegalStateException" :: Cond.initialized "java/lang/IllegalStateException" :: vx_atS RX6 144 "java/lang/IllegalStateException" ["java/lang/RuntimeException", "java/lang/Exception"], vx_ot w = true := by decide +kernel
theorem zx_b_ISE : ∀ w ∈ (vx_atS RX6 144 "java/lang/IllegalStateException" ["java/lang/RuntimeException", "java/lang/Exception"]).filter (fun w => !goodWord w), w ∈ zx_ws := by decide +kernel
theorem zx_g_AIO : ∀ w ∈ Cond.classLink RX6 167 "java/lang/ArrayIndexOutOfBoundsException" :: Cond.initialized "java/lang/ArrayIndexOutOfBoundsException" :: vx_atS RX6 171 "java/lang/ArrayIndexOutOfBoundsException" ["java/lang/IndexOutOfBoundsException", "java/lang/RuntimeException", "java/lang/Exception"], vx_ot w = true := by decide +kernel
theorem zx_b_AIO : ∀ w ∈ (vx_atS RX6 171 "java/lang/ArrayIndexOutOfBoundsException" ["java/lang/IndexOutOfBoundsException", "java/lang/RuntimeException", "java/lang/Exception"]).filter (fun w => !goodWord w), w ∈ zx_ws := by decide +kernel
def wsX6_moduleX : List Cond := .code yX6_module cX6_module 2 (some .int) :: ([.fieldLink RX6 44 "ScanCodes" "made" "LScanCodes$Row;", .classLink RX6 167 "java/lang/ArrayIndexOutOfBoundsException", .initialized "java/lang/ArrayIndexOutOfBoundsException", .methodLink RX6 154 yX3_size, .instanceMethod yX3_size, .selects RX3 yX3_size yX3_size, .initialized RX3, .code yX3_size cX3_size 1 (some .int), .fieldLink RX3 21 "ScanCodes$Row" "size" "I", .methodLink RX6 172 yX3_at, .instanceMethod yX3_at, .selects RX3 yX3_at yX3_at, .code yX3_at cX3_at 2 (some .int), .fieldLink RX3 15 "ScanCodes$Row" "values" "[I"] ++ wsX60 ++ wsX30 ++ (vx_atS RX6 171 "java/lang/ArrayIndexOutOfBoundsException" ["java/lang/IndexOutOfBoundsException", "java/lang/RuntimeException", "java/lang/Exception"]).filter goodWord)
theorem ggX6_moduleX_X3_size : GoodIn wsX6_moduleX wsX3_size := goodIn_of _ (by decide +kernel)
theorem ggX6_moduleX_X3_at : GoodIn wsX6_moduleX wsX3_at := goodIn_of _ (by decide +kernel)
