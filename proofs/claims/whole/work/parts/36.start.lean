theorem lw_arr {args : Array Value} {s : State} {ty : FieldType} (h : (Cond.arrayClass ty).before args s = true) : ∃ cA : ClassId, s.vm.findClass ("[" ++ ty.toString) = some cA ∧ ArrOfT s cA ty := by
  obtain ⟨cA, kA, comp, h1, h2, h3⟩ := Cond.arrayClass_spec h
  exact ⟨cA, h1, fun n z => ⟨fun k h => (by cases h), kA, h2, comp, h3⟩⟩
theorem lw_kn {args : Array Value} {s : State} (hts0 : ∀ w ∈ lw_tbl, w.before args s = true) : ∃ (dC : Nat → ClassId) (dI : Nat → Nat → Nat) (cy cB : ClassId), va_K (dC, dI) xCl [(cy, .long), (cB, .byte)] s := by
  have hts := lw_words hts0
  obtain ⟨c0, i0, hK0⟩ := u_known (C := RJ0) (T := TJ0) (N := 4) (n := 4) hts inlJ0 (hts0 (.instantiable RJ0 4) (List.mem_of_getElem? (i := 721) (by decide +kernel)))
  obtain ⟨c1, i1, hK1⟩ := u_known (C := RJ4) (T := TJ4) (N := 4) (n := 4) hts inlJ4 (hts0 (.instantiable RJ4 4) (List.mem_of_getElem? (i := 553) (by decide +kernel)))
  obtain ⟨c2, i2, hK2⟩ := u_known (C := RX0) (T := TX0) (N := 5) (n := 5) hts inlX0 (hts0 (.instantiable RX0 5) (List.mem_of_getElem? (i := 62) (by decide +kernel)))
  obtain ⟨c3, i3, hK3⟩ := u_known (C := RX1) (T := TX1) (N := 7) (n := 7) hts inlX1 (hts0 (.instantiable RX1 7) (List.mem_of_getElem? (i := 64) (by decide +kernel)))
  obtain ⟨c4, i4, hK4⟩ := u_known (C := RX2) (T := TX2) (N := 3) (n := 3) hts inlX2 (hts0 (.instantiable RX2 3) (List.mem_of_getElem? (i := 54) (by decide +kernel)))
  obtain ⟨c5, i5, hK5⟩ := u_known (C := RX3) (T := TX3) (N := 2) (n := 2) hts inlX3 (hts0 (.instantiable RX3 2) (List.mem_of_getElem? (i := 349) (by decide +kernel)))
  obtain ⟨c6, i6, hK6⟩ := u_known (C := RX4) (T := TX4) (N := 5) (n := 5) hts inlX4 (hts0 (.instantiable RX4 5) (List.mem_of_getElem? (i := 1086) (by decide +kernel)))
  obtain ⟨c7, i7, hK7⟩ := u_known (C := RX5) (T := TX5) (N := 5) (n := 5) hts inlX5 (hts0 (.instantiable RX5 5) (List.mem_of_getElem? (i := 1080) (by decide +kernel)))
  obtain ⟨cy, hy1, hy2⟩ := lw_arr (ty := .long) (hts0 (.arrayClass .long) (List.mem_of_getElem? (i := 115) (by decide +kernel)))
  obtain ⟨cB, hB1, hB2⟩ := lw_arr (ty := .byte) (hts0 (.arrayClass .byte) (List.mem_of_getElem? (i := 273) (by decide +kernel)))
  refine ⟨fun k => if k = 0 then c0 else if k = 1 then c1 else if k = 2 then c2 else if k = 3 then c3 else if k = 4 then c4 else if k = 5 then c5 else if k = 6 then c6 else c7, fun k => if k = 0 then i0 else if k = 1 then i1 else if k = 2 then i2 else if k = 3 then i3 else if k = 4 then i4 else if k = 5 then i5 else if k = 6 then i6 else i7, cy, cB, ⟨?_, ?_⟩⟩
  · intro k q hq
    match k, hq with
    | 0, hq => cases hq; exact hK0
    | 1, hq => cases hq; exact hK1
    | 2, hq => cases hq; exact hK2
    | 3, hq => cases hq; exact hK3
    | 4, hq => cases hq; exact hK4
    | 5, hq => cases hq; exact hK5
    | 6, hq => cases hq; exact hK6
    | 7, hq => cases hq; exact hK7
    | k + 8, hq => simp [xCl] at hq
  · intro k q hq
    match k, hq with
    | 0, hq => cases hq; exact ⟨hy2, hy1⟩
    | 1, hq => cases hq; exact ⟨hB2, hB1⟩
    | k + 2, hq => simp at hq
theorem lw_gG {b : Addr} {s : State} (hts0 : ∀ w ∈ lw_tbl, w.before #[Value.ref b] s = true) (hgv : (Jvm.Cond.and given_1 narrow_1).before #[Value.ref b] s = true) : gG s.heap.size s s.heap := by
  have hs := flat_of_before _ hgv
  have hA : ∀ a : Nat, a < s.heap.size → ¬ aN s.heap.size a := fun a h z => absurd h (Nat.not_lt.mpr z)
  refine ⟨fun w hw => ?_, ?_, ?_, ?_, ?_, ?_⟩
  · simp only [gNw, List.mem_cons, List.not_mem_nil, or_false] at hw
    rcases hw with rfl | rfl | rfl | rfl | rfl | rfl | rfl | rfl | rfl | rfl | rfl | rfl | rfl
    · exact va_Nw.of rfl (hts0 (.methodLinkNest RX0 22 yX2_checkCell RX2) (List.mem_of_getElem? (i := 204) (by decide +kernel)))
    · exact va_Nw.of rfl (hts0 (.methodLinkNest RX0 55 yX2_checkChoice RX2) (List.mem_of_getElem? (i := 289) (by decide +kernel)))
    · exact va_Nw.of rfl (hts0 (.methodLinkNest RL 175 yX3_init RL) (List.mem_of_getElem? (i := 350) (by decide +kernel)))
    · exact va_Nw.of rfl (hts0 (.fieldLinkNest RX0 40 "Edgefloats$Width" "quarterBound" "I" RX2) (List.mem_of_getElem? (i := 77) (by decide +kernel)))
    · exact va_Nw.of rfl (hts0 (.fieldLinkNest RX2 142 "Edgefloats$Row" "acts" "I" RX2) (List.mem_of_getElem? (i := 101) (by decide +kernel)))
    · exact va_Nw.of rfl (hts0 (.fieldLinkNest RX2 145 "Edgefloats$Row" "refusals" "I" RX2) (List.mem_of_getElem? (i := 103) (by decide +kernel)))
    · exact va_Nw.of rfl (hts0 (.fieldLinkNest RL 13 "EdgefloatsLaw$Out" "n" "J" RL) (List.mem_of_getElem? (i := 354) (by decide +kernel)))
    · exact va_Nw.of rfl (hts0 (.fieldLinkNest RL 63 "EdgefloatsLaw$Out" "s" "Ljava/lang/String;" RL) (List.mem_of_getElem? (i := 355) (by decide +kernel)))
    · exact va_Nw.of rfl (hts0 (.declares (Bundle.initS "java/lang/RuntimeException")) (List.mem_of_getElem? (i := 211) (by decide +kernel)))
    · exact va_Nw.of rfl (hts0 (.declares (Bundle.initS "java/lang/Exception")) (List.mem_of_getElem? (i := 213) (by decide +kernel)))
    · exact va_Nw.of rfl (hts0 (.declares (Bundle.initS "java/lang/Throwable")) (List.mem_of_getElem? (i := 215) (by decide +kernel)))
    · exact va_Nw.of rfl (hts0 (.castable "java/lang/IndexOutOfBoundsException" "java/lang/IndexOutOfBoundsException") (List.mem_of_getElem? (i := 209) (by decide +kernel)))
    · exact va_Nw.of rfl (hts0 (.castable "java/lang/IllegalArgumentException" "java/lang/IllegalArgumentException") (List.mem_of_getElem? (i := 294) (by decide +kernel)))
  · obtain ⟨a, c, cA, kA, q1, -⟩ := Cond.exactly_spec (hs (.exactly (.string RX2 150) "java/lang/String") (List.mem_of_getElem? (i := 249) (by decide +kernel)))
    exact ⟨a, vk_R.of (hts0 (.stringRef RX2 150 "a cell is not 0 to 7") (List.mem_of_getElem? (i := 247) (by decide +kernel))) q1⟩
  · obtain ⟨a, c, cA, kA, q1, -⟩ := Cond.exactly_spec (hs (.exactly (.string RX2 157) "java/lang/String") (List.mem_of_getElem? (i := 273) (by decide +kernel)))
    exact ⟨a, vk_R.of (hts0 (.stringRef RX2 157 "there is no such choice") (List.mem_of_getElem? (i := 301) (by decide +kernel))) q1⟩
  · obtain ⟨a, c, cA, kA, q1, -⟩ := Cond.exactly_spec (hs (.exactly (.string RX0 46) "java/lang/String") (List.mem_of_getElem? (i := 301) (by decide +kernel)))
    exact ⟨a, vk_R.of (hts0 (.stringRef RX0 46 "there is no such QUARTER") (List.mem_of_getElem? (i := 395) (by decide +kernel))) q1⟩
  · exact vx_Zqof (hts0 (.laysStatic "java/lang/Throwable" "UNASSIGNED_STACK" "[Ljava/lang/StackTraceElement;") (List.mem_of_getElem? (i := 234) (by decide +kernel))) (hts0 (.initialized "java/lang/Throwable") (List.mem_of_getElem? (i := 36) (by decide +kernel))) (hs (.isRef (.static "java/lang/Throwable" "UNASSIGNED_STACK" "[Ljava/lang/StackTraceElement;")) (List.mem_of_getElem? (i := 4) (by decide +kernel))) hA
  · exact vx_Zqof (hts0 (.laysStatic "java/lang/Throwable" "SUPPRESSED_SENTINEL" "Ljava/util/List;") (List.mem_of_getElem? (i := 236) (by decide +kernel))) (hts0 (.initialized "java/lang/Throwable") (List.mem_of_getElem? (i := 36) (by decide +kernel))) (hs (.isRef (.static "java/lang/Throwable" "SUPPRESSED_SENTINEL" "Ljava/util/List;")) (List.mem_of_getElem? (i := 5) (by decide +kernel))) hA
theorem lw_nc {b : Addr} {s : State} (hgv : (Jvm.Cond.and given_1 narrow_1).before #[Value.ref b] s = true) : va_Nc "java/lang/IllegalArgumentException" "java/lang/IndexOutOfBoundsException" s := va_Nc.of (flat_of_before _ hgv (.not (.castable "java/lang/IllegalArgumentException" "java/lang/IndexOutOfBoundsException")) (by decide +kernel))
noncomputable def tOnes : List Int32 := [48, 49, 50, 51, 52, 53, 54, 55, 56, 57, 48, 49, 50, 51, 52, 53, 54, 55, 56, 57, 48, 49, 50, 51, 52, 53, 54, 55, 56, 57, 48, 49, 50, 51, 52, 53, 54, 55, 56, 57, 48, 49, 50, 51, 52, 53, 54, 55, 56, 57, 48, 49, 50, 51, 52, 53, 54, 55, 56, 57, 48, 49, 50, 51, 52, 53, 54, 55, 56, 57, 48, 49, 50, 51, 52, 53, 54, 55, 56, 57, 48, 49, 50, 51, 52, 53, 54, 55, 56, 57, 48, 49, 50, 51, 52, 53, 54, 55, 56, 57]
noncomputable def tTens : List Int32 := [48, 48, 48, 48, 48, 48, 48, 48, 48, 48, 49, 49, 49, 49, 49, 49, 49, 49, 49, 49, 50, 50, 50, 50, 50, 50, 50, 50, 50, 50, 51, 51, 51, 51, 51, 51, 51, 51, 51, 51, 52, 52, 52, 52, 52, 52, 52, 52, 52, 52, 53, 53, 53, 53, 53, 53, 53, 53, 53, 53, 54, 54, 54, 54, 54, 54, 54, 54, 54, 54, 55, 55, 55, 55, 55, 55, 55, 55, 55, 55, 56, 56, 56, 56, 56, 56, 56, 56, 56, 56, 57, 57, 57, 57, 57, 57, 57, 57, 57, 57]
noncomputable def lw_tm (i : Nat) : Term := match i with
  | 0 => .string RX4 84
  | 1 => .string RX4 86
  | _ => .string RX4 95
set_option maxRecDepth 100000 in
theorem lw_DigitOnes : ∀ j, j < 100 → (Cond.eq (.elem (.static "java/lang/Integer" "DigitOnes" "[B") (.int (Int32.ofNat j))) (.int (tOnes.getD j 0))) ∈ flatC (Jvm.Cond.and given_1 narrow_1) := fun j hj => List.mem_of_getElem? (i := 14 + j) ((by decide +kernel : ∀ j, j < 100 → (flatC (Jvm.Cond.and given_1 narrow_1))[14 + j]? = some (Cond.eq (.elem (.static "java/lang/Integer" "DigitOnes" "[B") (.int (Int32.ofNat j))) (.int (tOnes.getD j 0)))) j hj)
set_option maxRecDepth 100000 in
theorem lw_DigitTens : ∀ j, j < 100 → (Cond.eq (.elem (.static "java/lang/Integer" "DigitTens" "[B") (.int (Int32.ofNat j))) (.int (tTens.getD j 0))) ∈ flatC (Jvm.Cond.and given_1 narrow_1) := fun j hj => List.mem_of_getElem? (i := 117 + j) ((by decide +kernel : ∀ j, j < 100 → (flatC (Jvm.Cond.and given_1 narrow_1))[117 + j]? = some (Cond.eq (.elem (.static "java/lang/Integer" "DigitTens" "[B") (.int (Int32.ofNat j))) (.int (tTens.getD j 0)))) j hj)
theorem lw_tD : tD (fun j => tOnes.getD j 0) (fun j => tTens.getD j 0) := by
  have h : ∀ k, k < 100 → vp_nar .byte (tOnes.getD k 0) = sb_b (48 + k % 10) ∧ vp_nar .byte (tTens.getD k 0) = sb_b (48 + k / 10) := by decide +kernel
  exact h
theorem lw_fitT : sb_Fit (fun j => tOnes.getD j 0) ∧ sb_Fit (fun j => tTens.getD j 0) := by
  have h1 : ∀ j, j < 100 → fits .byte (.int (tOnes.getD j 0)) = true ∧ fits .byte (.int (tTens.getD j 0)) = true := by decide +kernel
  have e1 : ∀ j, ¬ j < 100 → tOnes.getD j 0 = 0 ∧ tTens.getD j 0 = 0 := by
    intro j h
    have l1 : tOnes.length = 100 := by decide +kernel
    have l2 : tTens.length = 100 := by decide +kernel
    rw [List.getD_eq_getElem?_getD, List.getD_eq_getElem?_getD, List.getElem?_eq_none (by omega), List.getElem?_eq_none (by omega)]
    exact ⟨rfl, rfl⟩
  refine ⟨fun j => ?_, fun j => ?_⟩
  · show fits .byte (.int (tOnes.getD j 0)) = true
    by_cases h : j < 100
    · exact (h1 j h).1
    · rw [(e1 j h).1]; decide
  · show fits .byte (.int (tTens.getD j 0)) = true
    by_cases h : j < 100
    · exact (h1 j h).2
    · rw [(e1 j h).2]; decide
theorem lw_gT {b : Addr} {s : State} (hts0 : ∀ w ∈ lw_tbl, w.before #[Value.ref b] s = true) (hgv : (Jvm.Cond.and given_1 narrow_1).before #[Value.ref b] s = true) : gT s.heap.size s s.heap := by
  have hs := flat_of_before _ hgv
  have hA : ∀ a : Nat, a < s.heap.size → ¬ aN s.heap.size a := fun a h z => absurd h (Nat.not_lt.mpr z)
  refine ⟨va_Zof (hts0 (.laysStatic "java/lang/String" "COMPACT_STRINGS" "Z") (List.mem_of_getElem? (i := 562) (by decide +kernel))) (hts0 (.initialized "java/lang/String") (List.mem_of_getElem? (i := 44) (by decide +kernel))) (va_eqt (hs (.eq (.static "java/lang/String" "COMPACT_STRINGS" "Z") (.int 1)) (List.mem_of_getElem? (i := 6) (by decide +kernel)))) hA, ?_, ?_, ?_, va_Nw.of rfl (hts0 (.castable "[B" "java/lang/Cloneable") (List.mem_of_getElem? (i := 617) (by decide +kernel)))⟩
  · have h1 : ∀ (nm : String) (tb : List Int32), (Cond.arrayOf (.static "java/lang/Integer" nm "[B") .byte).before #[Value.ref b] s = true → (Cond.eq (.length (.static "java/lang/Integer" nm "[B")) (.int 100)).before #[Value.ref b] s = true → (∀ j, j < 100 → (Cond.eq (.elem (.static "java/lang/Integer" nm "[B") (.int (Int32.ofNat j))) (.int (tb.getD j 0))).before #[Value.ref b] s = true) → ∃ q, (Term.static "java/lang/Integer" nm "[B").eval #[Value.ref b] s none [] s = some (.ref q) ∧ va_T .byte q 100 (fun j => .int (tb.getD j 0)) (aN s.heap.size) s s.heap := fun nm tb q1 q2 q3 => va_Tof (f := fun j => .int (tb.getD j 0)) (by decide) q1 (va_eqt q2) (fun j hj => va_eqt (q3 j hj)) hA
    obtain ⟨tO, etO, ktO⟩ := h1 "DigitOnes" tOnes (hs _ (by decide +kernel)) (hs _ (by decide +kernel)) (fun j hj => hs _ (lw_DigitOnes j hj))
    obtain ⟨tT, etT, ktT⟩ := h1 "DigitTens" tTens (hs _ (by decide +kernel)) (hs _ (by decide +kernel)) (fun j hj => hs _ (lw_DigitTens j hj))
    exact ⟨tO, tT, _, _, va_Zref (hts0 (.laysStatic "java/lang/Integer" "DigitOnes" "[B") (List.mem_of_getElem? (i := 690) (by decide +kernel))) (hts0 (.initialized "java/lang/Integer") (List.mem_of_getElem? (i := 51) (by decide +kernel))) etO hA, va_Zref (hts0 (.laysStatic "java/lang/Integer" "DigitTens" "[B") (List.mem_of_getElem? (i := 692) (by decide +kernel))) (hts0 (.initialized "java/lang/Integer") (List.mem_of_getElem? (i := 51) (by decide +kernel))) etT hA, ktO, ktT, lw_fitT.1, lw_fitT.2, lw_tD⟩
  · have hk : ∃ adK adV : Nat → Nat, vk_S 3 tLen tByt adK adV (aN s.heap.size) s s.heap ∧ ∀ i : Nat, i < 3 → (lw_tm i).eval #[Value.ref b] s none [] s = some (.ref (adK i)) := by
      refine vk_Sof (args := #[Value.ref b]) (s := s) (N := 3) (tm := lw_tm) (len := tLen) (byt := tByt) (A := aN s.heap.size) (by decide) (fun i hi => ?_) (fun i hi => ?_) (fun i hi => ?_) (fun i hi => ?_) (fun i hi j hj => ?_) (fun i j hi hj hij => ?_) hA
      · rcases (show i = 0 ∨ i = 1 ∨ i = 2 by omega) with rfl | rfl | rfl
        · exact hs (.exactly (.string RX4 84) "java/lang/String") (List.mem_of_getElem? (i := 349) (by decide +kernel))
        · exact hs (.exactly (.string RX4 86) "java/lang/String") (List.mem_of_getElem? (i := 360) (by decide +kernel))
        · exact hs (.exactly (.string RX4 95) "java/lang/String") (List.mem_of_getElem? (i := 372) (by decide +kernel))
      · rcases (show i = 0 ∨ i = 1 ∨ i = 2 by omega) with rfl | rfl | rfl
        · exact hs (.eq (.field (.string RX4 84) "java/lang/String" "coder" "B") (.int 0)) (List.mem_of_getElem? (i := 350) (by decide +kernel))
        · exact hs (.eq (.field (.string RX4 86) "java/lang/String" "coder" "B") (.int 0)) (List.mem_of_getElem? (i := 361) (by decide +kernel))
        · exact hs (.eq (.field (.string RX4 95) "java/lang/String" "coder" "B") (.int 0)) (List.mem_of_getElem? (i := 373) (by decide +kernel))
      · rcases (show i = 0 ∨ i = 1 ∨ i = 2 by omega) with rfl | rfl | rfl
        · exact hs (.arrayOf (.field (.string RX4 84) "java/lang/String" "value" "[B") .byte) (List.mem_of_getElem? (i := 351) (by decide +kernel))
        · exact hs (.arrayOf (.field (.string RX4 86) "java/lang/String" "value" "[B") .byte) (List.mem_of_getElem? (i := 362) (by decide +kernel))
        · exact hs (.arrayOf (.field (.string RX4 95) "java/lang/String" "value" "[B") .byte) (List.mem_of_getElem? (i := 374) (by decide +kernel))
      · rcases (show i = 0 ∨ i = 1 ∨ i = 2 by omega) with rfl | rfl | rfl
        · exact hs (.eq (.length (.field (.string RX4 84) "java/lang/String" "value" "[B")) (.int 2)) (List.mem_of_getElem? (i := 352) (by decide +kernel))
        · exact hs (.eq (.length (.field (.string RX4 86) "java/lang/String" "value" "[B")) (.int 2)) (List.mem_of_getElem? (i := 363) (by decide +kernel))
        · exact hs (.eq (.length (.field (.string RX4 95) "java/lang/String" "value" "[B")) (.int 1)) (List.mem_of_getElem? (i := 375) (by decide +kernel))
      · rcases (show i = 0 ∨ i = 1 ∨ i = 2 by omega) with rfl | rfl | rfl
        · rcases (show j = 0 ∨ j = 1 by have : j < 2 := hj; omega) with rfl | rfl
          · exact hs (.eq (.elem (.field (.string RX4 84) "java/lang/String" "value" "[B") (.int 0)) (.int 49)) (List.mem_of_getElem? (i := 353) (by decide +kernel))
          · exact hs (.eq (.elem (.field (.string RX4 84) "java/lang/String" "value" "[B") (.int 1)) (.int 32)) (List.mem_of_getElem? (i := 354) (by decide +kernel))
        · rcases (show j = 0 ∨ j = 1 by have : j < 2 := hj; omega) with rfl | rfl
          · exact hs (.eq (.elem (.field (.string RX4 86) "java/lang/String" "value" "[B") (.int 0)) (.int 48)) (List.mem_of_getElem? (i := 364) (by decide +kernel))
          · exact hs (.eq (.elem (.field (.string RX4 86) "java/lang/String" "value" "[B") (.int 1)) (.int 32)) (List.mem_of_getElem? (i := 365) (by decide +kernel))
        · obtain rfl : j = 0 := by have : j < 1 := hj; omega
          exact hs (.eq (.elem (.field (.string RX4 95) "java/lang/String" "value" "[B") (.int 0)) (.int 32)) (List.mem_of_getElem? (i := 376) (by decide +kernel))
      · rcases (show (i = 0 ∧ j = 1) ∨ (i = 0 ∧ j = 2) ∨ (i = 1 ∧ j = 2) ∨ (i = 1 ∧ j = 0) ∨ (i = 2 ∧ j = 0) ∨ (i = 2 ∧ j = 1) by omega) with ⟨rfl, rfl⟩ | ⟨rfl, rfl⟩ | ⟨rfl, rfl⟩ | ⟨rfl, rfl⟩ | ⟨rfl, rfl⟩ | ⟨rfl, rfl⟩
        · exact Or.inl (hs (.not (.eq (.string RX4 84) (.string RX4 86))) (List.mem_of_getElem? (i := 371) (by decide +kernel)))
        · exact Or.inl (hs (.not (.eq (.string RX4 84) (.string RX4 95))) (List.mem_of_getElem? (i := 382) (by decide +kernel)))
        · exact Or.inl (hs (.not (.eq (.string RX4 86) (.string RX4 95))) (List.mem_of_getElem? (i := 383) (by decide +kernel)))
        · exact Or.inr (hs (.not (.eq (.string RX4 84) (.string RX4 86))) (List.mem_of_getElem? (i := 371) (by decide +kernel)))
        · exact Or.inr (hs (.not (.eq (.string RX4 84) (.string RX4 95))) (List.mem_of_getElem? (i := 382) (by decide +kernel)))
        · exact Or.inr (hs (.not (.eq (.string RX4 86) (.string RX4 95))) (List.mem_of_getElem? (i := 383) (by decide +kernel)))
    obtain ⟨adK, adV, h1, h2⟩ := hk
    exact ⟨adK, adV, h1, vk_R.of (hts0 (.stringRef RX4 84 "1 ") (List.mem_of_getElem? (i := 1336) (by decide +kernel))) (h2 0 (by decide)), vk_R.of (hts0 (.stringRef RX4 86 "0 ") (List.mem_of_getElem? (i := 1337) (by decide +kernel))) (h2 1 (by decide)), vk_R.of (hts0 (.stringRef RX4 95 " ") (List.mem_of_getElem? (i := 1366) (by decide +kernel))) (h2 2 (by decide))⟩
  · obtain ⟨a, c, cA, kA, q1, -⟩ := Cond.exactly_spec (hs (.exactly (.string RX5 101) "java/lang/String") (List.mem_of_getElem? (i := 341) (by decide +kernel)))
    exact ⟨a, vk_R.of (hts0 (.stringRef RX5 101 "") (List.mem_of_getElem? (i := 1329) (by decide +kernel))) q1⟩
