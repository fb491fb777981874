theorem jl_negL {m : Nat} (h : m < 9223372036854775808) : (-(lN m)).toInt = -(m : Int) := by
  rw [Int64.toInt_neg, pk_lT h]
  exact Int.bmod_eq_of_le (by omega) (by omega)
theorem jl_neg32 (m : Nat) : (-(lN m)).toInt32 = -(nI m) := by
  rw [Int64.toInt32_neg, lN_i]
theorem jl_nle {a b : Nat} (ha : a < 9223372036854775808) (hb : b < 9223372036854775808) : -(lN a) ≤ -(lN b) ↔ b ≤ a := by
  rw [Int64.le_iff_toInt_le, jl_negL ha, jl_negL hb]
  omega
theorem jl_nlt {a b : Nat} (ha : a < 9223372036854775808) (hb : b < 9223372036854775808) : -(lN a) < -(lN b) ↔ b < a := by
  rw [Int64.lt_iff_toInt_lt, jl_negL ha, jl_negL hb]
  omega
theorem jl_ndiv {w : Nat} (hw : w < 9223372036854775808) : (-(lN w)) / 100 = -(lN (w / 100)) := by
  apply Int64.toInt_inj.mp
  have h100 : (100 : Int64).toInt = 100 := by decide
  rw [Int64.toInt_div, jl_negL hw, h100, jl_negL (by omega), Int.neg_tdiv, Int.tdiv_eq_ediv_of_nonneg (by omega), Int.bmod_eq_of_le (by omega) (by omega)]
  omega
theorem jl_nrem {w : Nat} (hw : w < 9223372036854775808) : (((-(lN (w / 100))) * 100) - (-(lN w))).toInt32 = nI (w % 100) := by
  have h100 : (100 : Int64).toInt = 100 := by decide
  have e : ((-(lN (w / 100))) * 100) - (-(lN w)) = lN (w % 100) := by
    apply Int64.toInt_inj.mp
    rw [Int64.toInt_sub, Int64.toInt_mul, jl_negL hw, jl_negL (by omega), h100, pk_lT (by omega), Int.bmod_eq_of_le (n := -((w / 100 : Nat) : Int) * 100) (by omega) (by omega), Int.bmod_eq_of_le (by omega) (by omega)]
    omega
  rw [e, lN_i]
theorem jl_div {a d : Nat} (ha : a < 9223372036854775808) (h0 : 0 < d) (hd : d < 9223372036854775808) : lN a / lN d = lN (a / d) := by
  apply Int64.toInt_inj.mp
  have h1 : a / d ≤ a := Nat.div_le_self a d
  rw [Int64.toInt_div, pk_lT ha, pk_lT hd, pk_lT (by omega), Int.tdiv_eq_ediv_of_nonneg (by omega)]
  rw [show ((a : Int) / (d : Int)) = ((a / d : Nat) : Int) from rfl]
  generalize a / d = z at h1 ⊢
  exact Int.bmod_eq_of_le (by omega) (by omega)
theorem jl_rem {a d : Nat} (ha : a < 9223372036854775808) (h0 : 0 < d) (hd : d < 9223372036854775808) : (lN a) - (lN a) / lN d * lN d = lN (a % d) := by
  rw [jl_div ha h0 hd, lN_mul]
  have h1 : a / d * d ≤ a := Nat.div_mul_le_self a d
  apply Int64.toInt_inj.mp
  have h2 : a % d = a - a / d * d := by have := Nat.div_add_mod a d; rw [Nat.mul_comm] at this; omega
  rw [Int64.toInt_sub, pk_lT ha, pk_lT (by omega), pk_lT (by omega), Int.bmod_eq_of_le (by omega) (by omega), h2]
  omega
theorem jl_pos {w : Nat} (h : w < 9223372036854775808) : ¬ (lN w) < 0 := by
  rw [Int64.lt_iff_toInt_lt, pk_lT h, show (0 : Int64).toInt = 0 by decide]
  omega
theorem jl_nonneg {w : Nat} (h : w < 9223372036854775808) : 0 ≤ (lN w) := by
  rw [Int64.le_iff_toInt_le, pk_lT h, show (0 : Int64).toInt = 0 by decide]
  omega
/-- how many digits, of a natural under 10^16 -/
noncomputable def dgL (w : Nat) : Nat := if w < 1000000000 then sb_dg w else 9 + sb_dg (w / 1000000000)
theorem dgL_pos (w : Nat) : 1 ≤ dgL w := by
  have h1 := (sb_dg_in w).1
  rw [dgL]
  split <;> omega
theorem dg_le7' {w : Nat} (h : w < 10000000) : sb_dg w ≤ 7 := by
  unfold sb_dg
  (repeat' split) <;> omega
theorem dgL_16 {w : Nat} (h : w < 10000000000000000) : dgL w ≤ 16 := by
  have h1 := (sb_dg_in w).2
  have h2 := dg_le7' (w := w / 1000000000) (by omega)
  rw [dgL]
  split <;> omega
theorem dgL_100 {w : Nat} (h : 100 ≤ w) (hw : w < 10000000000000000) : dgL w = dgL (w / 100) + 2 := by
  by_cases c : w < 1000000000
  · rw [dgL, if_pos c, dgL, if_pos (show w / 100 < 1000000000 by omega)]
    exact sb_dg100 h (by omega)
  · rw [dgL, if_neg c]
    by_cases d : w / 100 < 1000000000
    · rw [dgL, if_pos d]
      by_cases e : w < 10000000000
      · have h1 : sb_dg (w / 1000000000) = 1 := by rw [sb_dg, if_pos (show w / 1000000000 < 10 by omega)]
        have h2 : sb_dg (w / 100) = 8 := by rw [sb_dg, if_neg (show ¬ w / 100 < 10 by omega), if_neg (show ¬ w / 100 < 100 by omega), if_neg (show ¬ w / 100 < 1000 by omega), if_neg (show ¬ w / 100 < 10000 by omega), if_neg (show ¬ w / 100 < 100000 by omega), if_neg (show ¬ w / 100 < 1000000 by omega), if_neg (show ¬ w / 100 < 10000000 by omega), if_pos (show w / 100 < 100000000 by omega)]
        omega
      · have h1 : sb_dg (w / 1000000000) = 2 := by rw [sb_dg, if_neg (show ¬ w / 1000000000 < 10 by omega), if_pos (show w / 1000000000 < 100 by omega)]
        have h2 : sb_dg (w / 100) = 9 := by rw [sb_dg, if_neg (show ¬ w / 100 < 10 by omega), if_neg (show ¬ w / 100 < 100 by omega), if_neg (show ¬ w / 100 < 1000 by omega), if_neg (show ¬ w / 100 < 10000 by omega), if_neg (show ¬ w / 100 < 100000 by omega), if_neg (show ¬ w / 100 < 1000000 by omega), if_neg (show ¬ w / 100 < 10000000 by omega), if_neg (show ¬ w / 100 < 100000000 by omega), if_pos (show w / 100 < 1000000000 by omega)]
        omega
    · rw [dgL, if_neg d, show w / 100 / 1000000000 = w / 1000000000 / 100 by omega]
      have h3 := sb_dg100 (w := w / 1000000000) (by omega) (by omega)
      omega
theorem dgL_10 {w : Nat} (h : 10 ≤ w) : 2 ≤ dgL w := by
  by_cases c : w < 1000000000
  · rw [dgL, if_pos c]
    unfold sb_dg
    (repeat' split) <;> omega
  · rw [dgL, if_neg c]
    omega
theorem dg_10 {w : Nat} (h : 10 ≤ w) : 2 ≤ sb_dg w := by
  unfold sb_dg
  (repeat' split) <;> omega
theorem dg_le9 {w : Nat} (h : w < 1000000000) : sb_dg w ≤ 9 := by
  unfold sb_dg
  (repeat' split) <;> omega
theorem dg_le7 {w : Nat} (h : w < 10000000) : sb_dg w ≤ 7 := by
  unfold sb_dg
  (repeat' split) <;> omega
theorem dg_le4 {w : Nat} (h : w < 10000) : sb_dg w ≤ 4 := by
  unfold sb_dg
  (repeat' split) <;> omega
theorem dgL_le4 {w : Nat} (h : w < 10000) : dgL w ≤ 4 := by
  rw [dgL, if_pos (by omega)]
  exact dg_le4 h
theorem jl_chr {q : Nat} (hq : q < 65536) : ((nI q).toUInt32 % 65536).toInt32 = nI q := by
  have h := (pk_charN hq).1
  have h2 : vp_nar .char (nI q) = nI q := by unfold vp_nar; rw [h]
  rw [vp_nar_char] at h2
  rw [← h2]
  apply Int32.toBitVec_inj.mp
  simp only [UInt32.toBitVec_toInt32, UInt32.toBitVec_mod, UInt16.toBitVec_toUInt32, UInt32.toBitVec_toUInt16]
  apply BitVec.eq_of_toNat_eq
  simp
  omega

noncomputable def dz_p04c_1 : List (Nat × Instr × Nat) := [(0, (.iconst 1, 1)), (1, (.istore_n 1, 1)), (2, (.iload_n 0, 1)), (3, (.ifCond .lt 8, 3)), (6, (.iconst 0, 1)), (7, (.istore_n 1, 1)), (8, (.iload_n 0, 1)), (9, (.ineg, 1)), (10, (.istore_n 0, 1)), (11, (.bipush (-10), 2)), (13, (.istore_n 2, 1)), (14, (.iconst 1, 1)), (15, (.istore_n 3, 1)), (16, (.iload_n 3, 1)), (17, (.bipush 10, 2)), (19, (.if_icmp .ge 23, 3)), (22, (.iload_n 0, 1)), (23, (.iload_n 2, 1)), (24, (.if_icmp .le 7, 3)), (27, (.iload_n 3, 1)), (28, (.iload_n 1, 1)), (29, (.iadd, 1)), (30, (.ireturn, 1)), (31, (.bipush 10, 2)), (33, (.iload_n 2, 1)), (34, (.imul, 1)), (35, (.istore_n 2, 1)), (36, (.iinc 3 1, 3)), (39, (.goto (-23), 3)), (42, (.bipush 10, 2)), (44, (.iload_n 1, 1)), (45, (.iadd, 1)), (46, (.ireturn, 1))]
theorem dy_p04c_1 : dz_ok cJ6_stringSize_0f7a4 dz_p04c_1 = true := by decide +kernel
theorem dJ6_stringSize_0f7a4_0 : decode cJ6_stringSize_0f7a4 0 = .ok (.iconst 1, 1) := dz_at (i := 0) dy_p04c_1 rfl
theorem dJ6_stringSize_0f7a4_1 : decode cJ6_stringSize_0f7a4 1 = .ok (.istore_n 1, 1) := dz_at (i := 1) dy_p04c_1 rfl
theorem dJ6_stringSize_0f7a4_2 : decode cJ6_stringSize_0f7a4 2 = .ok (.iload_n 0, 1) := dz_at (i := 2) dy_p04c_1 rfl
theorem dJ6_stringSize_0f7a4_3 : decode cJ6_stringSize_0f7a4 3 = .ok (.ifCond .lt 8, 3) := dz_at (i := 3) dy_p04c_1 rfl
theorem dJ6_stringSize_0f7a4_6 : decode cJ6_stringSize_0f7a4 6 = .ok (.iconst 0, 1) := dz_at (i := 4) dy_p04c_1 rfl
theorem dJ6_stringSize_0f7a4_7 : decode cJ6_stringSize_0f7a4 7 = .ok (.istore_n 1, 1) := dz_at (i := 5) dy_p04c_1 rfl
theorem dJ6_stringSize_0f7a4_8 : decode cJ6_stringSize_0f7a4 8 = .ok (.iload_n 0, 1) := dz_at (i := 6) dy_p04c_1 rfl
theorem dJ6_stringSize_0f7a4_9 : decode cJ6_stringSize_0f7a4 9 = .ok (.ineg, 1) := dz_at (i := 7) dy_p04c_1 rfl
theorem dJ6_stringSize_0f7a4_10 : decode cJ6_stringSize_0f7a4 10 = .ok (.istore_n 0, 1) := dz_at (i := 8) dy_p04c_1 rfl
theorem dJ6_stringSize_0f7a4_11 : decode cJ6_stringSize_0f7a4 11 = .ok (.bipush (-10), 2) := dz_at (i := 9) dy_p04c_1 rfl
theorem dJ6_stringSize_0f7a4_13 : decode cJ6_stringSize_0f7a4 13 = .ok (.istore_n 2, 1) := dz_at (i := 10) dy_p04c_1 rfl
theorem dJ6_stringSize_0f7a4_14 : decode cJ6_stringSize_0f7a4 14 = .ok (.iconst 1, 1) := dz_at (i := 11) dy_p04c_1 rfl
theorem dJ6_stringSize_0f7a4_15 : decode cJ6_stringSize_0f7a4 15 = .ok (.istore_n 3, 1) := dz_at (i := 12) dy_p04c_1 rfl
theorem dJ6_stringSize_0f7a4_16 : decode cJ6_stringSize_0f7a4 16 = .ok (.iload_n 3, 1) := dz_at (i := 13) dy_p04c_1 rfl
theorem dJ6_stringSize_0f7a4_17 : decode cJ6_stringSize_0f7a4 17 = .ok (.bipush 10, 2) := dz_at (i := 14) dy_p04c_1 rfl
theorem dJ6_stringSize_0f7a4_19 : decode cJ6_stringSize_0f7a4 19 = .ok (.if_icmp .ge 23, 3) := dz_at (i := 15) dy_p04c_1 rfl
theorem dJ6_stringSize_0f7a4_22 : decode cJ6_stringSize_0f7a4 22 = .ok (.iload_n 0, 1) := dz_at (i := 16) dy_p04c_1 rfl
theorem dJ6_stringSize_0f7a4_23 : decode cJ6_stringSize_0f7a4 23 = .ok (.iload_n 2, 1) := dz_at (i := 17) dy_p04c_1 rfl
theorem dJ6_stringSize_0f7a4_24 : decode cJ6_stringSize_0f7a4 24 = .ok (.if_icmp .le 7, 3) := dz_at (i := 18) dy_p04c_1 rfl
theorem dJ6_stringSize_0f7a4_27 : decode cJ6_stringSize_0f7a4 27 = .ok (.iload_n 3, 1) := dz_at (i := 19) dy_p04c_1 rfl
theorem dJ6_stringSize_0f7a4_28 : decode cJ6_stringSize_0f7a4 28 = .ok (.iload_n 1, 1) := dz_at (i := 20) dy_p04c_1 rfl
theorem dJ6_stringSize_0f7a4_29 : decode cJ6_stringSize_0f7a4 29 = .ok (.iadd, 1) := dz_at (i := 21) dy_p04c_1 rfl
theorem dJ6_stringSize_0f7a4_30 : decode cJ6_stringSize_0f7a4 30 = .ok (.ireturn, 1) := dz_at (i := 22) dy_p04c_1 rfl
theorem dJ6_stringSize_0f7a4_31 : decode cJ6_stringSize_0f7a4 31 = .ok (.bipush 10, 2) := dz_at (i := 23) dy_p04c_1 rfl
theorem dJ6_stringSize_0f7a4_33 : decode cJ6_stringSize_0f7a4 33 = .ok (.iload_n 2, 1) := dz_at (i := 24) dy_p04c_1 rfl
theorem dJ6_stringSize_0f7a4_34 : decode cJ6_stringSize_0f7a4 34 = .ok (.imul, 1) := dz_at (i := 25) dy_p04c_1 rfl
theorem dJ6_stringSize_0f7a4_35 : decode cJ6_stringSize_0f7a4 35 = .ok (.istore_n 2, 1) := dz_at (i := 26) dy_p04c_1 rfl
theorem dJ6_stringSize_0f7a4_36 : decode cJ6_stringSize_0f7a4 36 = .ok (.iinc 3 1, 3) := dz_at (i := 27) dy_p04c_1 rfl
theorem dJ6_stringSize_0f7a4_39 : decode cJ6_stringSize_0f7a4 39 = .ok (.goto (-23), 3) := dz_at (i := 28) dy_p04c_1 rfl
theorem dJ6_stringSize_0f7a4_42 : decode cJ6_stringSize_0f7a4 42 = .ok (.bipush 10, 2) := dz_at (i := 29) dy_p04c_1 rfl
theorem dJ6_stringSize_0f7a4_44 : decode cJ6_stringSize_0f7a4 44 = .ok (.iload_n 1, 1) := dz_at (i := 30) dy_p04c_1 rfl
theorem dJ6_stringSize_0f7a4_45 : decode cJ6_stringSize_0f7a4 45 = .ok (.iadd, 1) := dz_at (i := 31) dy_p04c_1 rfl
theorem dJ6_stringSize_0f7a4_46 : decode cJ6_stringSize_0f7a4 46 = .ok (.ireturn, 1) := dz_at (i := 32) dy_p04c_1 rfl
set_option maxHeartbeats 4000000 in
set_option maxRecDepth 100000 in
theorem k_J6_stringSize_0f7a4 (l : Launch) (dC : Nat → ClassId) (dI : Nat → Nat → Nat) (cB : ClassId) (w : Nat) (sz N : Nat) (hwb : w < 2 ^ 31) : Met l yJ6_stringSize_0f7a4 wsJ6_stringSize_0f7a4 ({ frames := 0, cells := 0, slots := 0, locals := 0 }) (va_Pc [.int (nI w)] (xT (dC, dI) xCl [] [(cB, .byte)] sz N)) (va_Qi (fun (r : Int32) (u : Unit) => r = nI (sb_dg w)) (fun (u : Unit) t => xW (dC, dI) xCl [] (va_A [] sz) t) (va_A [] sz)) 0 0 (va_A [] sz) := by
  refine Met.ofW (cc := cJ6_stringSize_0f7a4) (maxL := 4) (ret := (some .int)) (by decide +kernel) rfl ?_
  intro p e s m args below meth c s₁ B hml hv
  obtain ⟨rfl, ⟨hsz, hP, hK, hD0, hN, hG⟩, hT⟩ := hv
  have hx := B.exec
  have hb := B.bytes
  have hr := B.returns
  have hts := atoms_spec (ws := wsJ6_stringSize_0f7a4) B.pre
  have hown : s.vm.findClass RJ6 = some m.cls := findClass_of_methodNamed B.named
  have hlocks := B.notSynchronized
  subst hsz
  have hAN : ∀ q, va_A [] s.heap.size q → N ≤ q := xA_N hD0 hN
  have hD := hD0.self (sz := s.heap.size)
  generalize hAe : va_A [] s.heap.size = A at hD hAN ⊢
  have hA : ∀ q : Nat, s.heap.size ≤ q → A q := fun q h => by rw [← hAe]; exact Or.inr h
  have hS : va_S A s.heap s.heap [] := va_S.rf
  have hP : va_P (dC, dI) xCl [] s.heap := hP
  obtain ⟨hTc, ⟨tO, tT, fO, fT, hTo, hTt, hTa, hTb, hTf, hTg⟩, ⟨adK, adV, hTs, hTr0, hTr1, hTr2⟩, ⟨aE, hTe⟩, hTn⟩ := id hT
  have hl := lv_entry ([.int (nI w)]) (n := 4) (Nat.le_of_ble_eq_true rfl)
  rw [lg_entry_eq]
  generalize (lg_sl ([.int (nI w)]) ++ List.replicate (4 - (lg_sl ([.int (nI w)])).length) Slot.unset).toArray = ls at hl ⊢
  have hl : lv_has ls 4 [(0, .int (nI w))] := hl
  refine lv_iconst (v := 1) hx hb dJ6_stringSize_0f7a4_0 (by decide +kernel) ?_
  refine lv_istore_n (lv' := [(1, .int 1), (0, .int (nI w))]) hx hb dJ6_stringSize_0f7a4_1 rfl hl (by decide +kernel) rfl (fun ls hl => ?_)
  refine lv_iload_n hx hb dJ6_stringSize_0f7a4_2 rfl (lv_at hl 1 rfl) ?_
  refine lv_if_lt (tgt := 11) hx hb dJ6_stringSize_0f7a4_3 (by decide +kernel) (fun c9 => absurd c9 (nI_pos (by omega))) (fun c9 => ?_)
  refine lv_iconst (v := 0) hx hb dJ6_stringSize_0f7a4_6 (by decide +kernel) ?_
  refine lv_istore_n (lv' := [(1, .int 0), (0, .int (nI w))]) hx hb dJ6_stringSize_0f7a4_7 rfl hl (by decide +kernel) rfl (fun ls hl => ?_)
  refine lv_iload_n hx hb dJ6_stringSize_0f7a4_8 rfl (lv_at hl 1 rfl) ?_
  refine lv_ineg hx hb dJ6_stringSize_0f7a4_9 ?_
  refine lv_istore_n (lv' := [(0, .int (-(nI w))), (1, .int 0)]) hx hb dJ6_stringSize_0f7a4_10 rfl hl (by decide +kernel) rfl (fun ls hl => ?_)
  refine lv_bipush (v := (-10)) hx hb dJ6_stringSize_0f7a4_11 (by decide +kernel) ?_
  refine lv_istore_n (lv' := [(2, .int (-10)), (0, .int (-(nI w))), (1, .int 0)]) hx hb dJ6_stringSize_0f7a4_13 rfl hl (by decide +kernel) rfl (fun ls hl => ?_)
  refine lv_iconst (v := 1) hx hb dJ6_stringSize_0f7a4_14 (by decide +kernel) ?_
  refine lv_istore_n (lv' := [(3, .int 1), (2, .int (-10)), (0, .int (-(nI w))), (1, .int 0)]) hx hb dJ6_stringSize_0f7a4_15 rfl hl (by decide +kernel) rfl (fun ls hl => ?_)
  refine lv_iload_n hx hb dJ6_stringSize_0f7a4_16 rfl (lv_at hl 0 rfl) ?_
  refine lv_bipush (v := 10) hx hb dJ6_stringSize_0f7a4_17 (by decide +kernel) ?_
  refine lv_icmp_ge (tgt := 42) hx hb dJ6_stringSize_0f7a4_19 (by decide +kernel) (fun c9 => absurd c9 (by decide +kernel)) (fun _ => ?_)
  refine lv_iload_n hx hb dJ6_stringSize_0f7a4_22 rfl (lv_at hl 2 rfl) ?_
  refine lv_iload_n hx hb dJ6_stringSize_0f7a4_23 rfl (lv_at hl 1 rfl) ?_
  refine lv_icmp_le (tgt := 31) hx hb dJ6_stringSize_0f7a4_24 (by decide +kernel) (fun c_1 => ?_) (fun c_1 => ?_)
  · skip
    refine lv_bipush (v := 10) hx hb dJ6_stringSize_0f7a4_31 (by decide +kernel) ?_
    refine lv_iload_n hx hb dJ6_stringSize_0f7a4_33 rfl (lv_at hl 1 rfl) ?_
    refine lv_imul hx hb dJ6_stringSize_0f7a4_34 ?_
    rw [show ((10 : Int32) * (-10)) = (-100) from by decide]
    refine lv_istore_n (lv' := [(2, .int (-100)), (3, .int 1), (0, .int (-(nI w))), (1, .int 0)]) hx hb dJ6_stringSize_0f7a4_35 rfl hl (by decide +kernel) rfl (fun ls hl => ?_)
    refine lv_iinc (v := 2) (lv' := [(3, .int 2), (2, .int (-100)), (0, .int (-(nI w))), (1, .int 0)]) hx hb dJ6_stringSize_0f7a4_36 hl (k := 1) rfl (by decide +kernel) (by decide +kernel) rfl (fun ls hl => ?_)
    refine lv_goto (tgt := 16) hx hb dJ6_stringSize_0f7a4_39 (by decide +kernel) ?_
    refine lv_iload_n hx hb dJ6_stringSize_0f7a4_16 rfl (lv_at hl 0 rfl) ?_
    refine lv_bipush (v := 10) hx hb dJ6_stringSize_0f7a4_17 (by decide +kernel) ?_
    refine lv_icmp_ge (tgt := 42) hx hb dJ6_stringSize_0f7a4_19 (by decide +kernel) (fun c9 => absurd c9 (by decide +kernel)) (fun _ => ?_)
    refine lv_iload_n hx hb dJ6_stringSize_0f7a4_22 rfl (lv_at hl 2 rfl) ?_
    refine lv_iload_n hx hb dJ6_stringSize_0f7a4_23 rfl (lv_at hl 1 rfl) ?_
    refine lv_icmp_le (tgt := 31) hx hb dJ6_stringSize_0f7a4_24 (by decide +kernel) (fun c_2 => ?_) (fun c_2 => ?_)
    · skip
      refine lv_bipush (v := 10) hx hb dJ6_stringSize_0f7a4_31 (by decide +kernel) ?_
      refine lv_iload_n hx hb dJ6_stringSize_0f7a4_33 rfl (lv_at hl 1 rfl) ?_
      refine lv_imul hx hb dJ6_stringSize_0f7a4_34 ?_
      rw [show ((10 : Int32) * (-100)) = (-1000) from by decide]
      refine lv_istore_n (lv' := [(2, .int (-1000)), (3, .int 2), (0, .int (-(nI w))), (1, .int 0)]) hx hb dJ6_stringSize_0f7a4_35 rfl hl (by decide +kernel) rfl (fun ls hl => ?_)
      refine lv_iinc (v := 3) (lv' := [(3, .int 3), (2, .int (-1000)), (0, .int (-(nI w))), (1, .int 0)]) hx hb dJ6_stringSize_0f7a4_36 hl (k := 1) rfl (by decide +kernel) (by decide +kernel) rfl (fun ls hl => ?_)
      refine lv_goto (tgt := 16) hx hb dJ6_stringSize_0f7a4_39 (by decide +kernel) ?_
      refine lv_iload_n hx hb dJ6_stringSize_0f7a4_16 rfl (lv_at hl 0 rfl) ?_
      refine lv_bipush (v := 10) hx hb dJ6_stringSize_0f7a4_17 (by decide +kernel) ?_
      refine lv_icmp_ge (tgt := 42) hx hb dJ6_stringSize_0f7a4_19 (by decide +kernel) (fun c9 => absurd c9 (by decide +kernel)) (fun _ => ?_)
      refine lv_iload_n hx hb dJ6_stringSize_0f7a4_22 rfl (lv_at hl 2 rfl) ?_
      refine lv_iload_n hx hb dJ6_stringSize_0f7a4_23 rfl (lv_at hl 1 rfl) ?_
      refine lv_icmp_le (tgt := 31) hx hb dJ6_stringSize_0f7a4_24 (by decide +kernel) (fun c_3 => ?_) (fun c_3 => ?_)
      · skip
        refine lv_bipush (v := 10) hx hb dJ6_stringSize_0f7a4_31 (by decide +kernel) ?_
        refine lv_iload_n hx hb dJ6_stringSize_0f7a4_33 rfl (lv_at hl 1 rfl) ?_
        refine lv_imul hx hb dJ6_stringSize_0f7a4_34 ?_
        rw [show ((10 : Int32) * (-1000)) = (-10000) from by decide]
        refine lv_istore_n (lv' := [(2, .int (-10000)), (3, .int 3), (0, .int (-(nI w))), (1, .int 0)]) hx hb dJ6_stringSize_0f7a4_35 rfl hl (by decide +kernel) rfl (fun ls hl => ?_)
        refine lv_iinc (v := 4) (lv' := [(3, .int 4), (2, .int (-10000)), (0, .int (-(nI w))), (1, .int 0)]) hx hb dJ6_stringSize_0f7a4_36 hl (k := 1) rfl (by decide +kernel) (by decide +kernel) rfl (fun ls hl => ?_)
        refine lv_goto (tgt := 16) hx hb dJ6_stringSize_0f7a4_39 (by decide +kernel) ?_
        refine lv_iload_n hx hb dJ6_stringSize_0f7a4_16 rfl (lv_at hl 0 rfl) ?_
        refine lv_bipush (v := 10) hx hb dJ6_stringSize_0f7a4_17 (by decide +kernel) ?_
        refine lv_icmp_ge (tgt := 42) hx hb dJ6_stringSize_0f7a4_19 (by decide +kernel) (fun c9 => absurd c9 (by decide +kernel)) (fun _ => ?_)
        refine lv_iload_n hx hb dJ6_stringSize_0f7a4_22 rfl (lv_at hl 2 rfl) ?_
        refine lv_iload_n hx hb dJ6_stringSize_0f7a4_23 rfl (lv_at hl 1 rfl) ?_
        refine lv_icmp_le (tgt := 31) hx hb dJ6_stringSize_0f7a4_24 (by decide +kernel) (fun c_4 => ?_) (fun c_4 => ?_)
        · skip
          refine lv_bipush (v := 10) hx hb dJ6_stringSize_0f7a4_31 (by decide +kernel) ?_
          refine lv_iload_n hx hb dJ6_stringSize_0f7a4_33 rfl (lv_at hl 1 rfl) ?_
          refine lv_imul hx hb dJ6_stringSize_0f7a4_34 ?_
          rw [show ((10 : Int32) * (-10000)) = (-100000) from by decide]
          refine lv_istore_n (lv' := [(2, .int (-100000)), (3, .int 4), (0, .int (-(nI w))), (1, .int 0)]) hx hb dJ6_stringSize_0f7a4_35 rfl hl (by decide +kernel) rfl (fun ls hl => ?_)
          refine lv_iinc (v := 5) (lv' := [(3, .int 5), (2, .int (-100000)), (0, .int (-(nI w))), (1, .int 0)]) hx hb dJ6_stringSize_0f7a4_36 hl (k := 1) rfl (by decide +kernel) (by decide +kernel) rfl (fun ls hl => ?_)
          refine lv_goto (tgt := 16) hx hb dJ6_stringSize_0f7a4_39 (by decide +kernel) ?_
          refine lv_iload_n hx hb dJ6_stringSize_0f7a4_16 rfl (lv_at hl 0 rfl) ?_
          refine lv_bipush (v := 10) hx hb dJ6_stringSize_0f7a4_17 (by decide +kernel) ?_
          refine lv_icmp_ge (tgt := 42) hx hb dJ6_stringSize_0f7a4_19 (by decide +kernel) (fun c9 => absurd c9 (by decide +kernel)) (fun _ => ?_)
          refine lv_iload_n hx hb dJ6_stringSize_0f7a4_22 rfl (lv_at hl 2 rfl) ?_
          refine lv_iload_n hx hb dJ6_stringSize_0f7a4_23 rfl (lv_at hl 1 rfl) ?_
          refine lv_icmp_le (tgt := 31) hx hb dJ6_stringSize_0f7a4_24 (by decide +kernel) (fun c_5 => ?_) (fun c_5 => ?_)
          · skip
            refine lv_bipush (v := 10) hx hb dJ6_stringSize_0f7a4_31 (by decide +kernel) ?_
            refine lv_iload_n hx hb dJ6_stringSize_0f7a4_33 rfl (lv_at hl 1 rfl) ?_
            refine lv_imul hx hb dJ6_stringSize_0f7a4_34 ?_
            rw [show ((10 : Int32) * (-100000)) = (-1000000) from by decide]
            refine lv_istore_n (lv' := [(2, .int (-1000000)), (3, .int 5), (0, .int (-(nI w))), (1, .int 0)]) hx hb dJ6_stringSize_0f7a4_35 rfl hl (by decide +kernel) rfl (fun ls hl => ?_)
            refine lv_iinc (v := 6) (lv' := [(3, .int 6), (2, .int (-1000000)), (0, .int (-(nI w))), (1, .int 0)]) hx hb dJ6_stringSize_0f7a4_36 hl (k := 1) rfl (by decide +kernel) (by decide +kernel) rfl (fun ls hl => ?_)
            refine lv_goto (tgt := 16) hx hb dJ6_stringSize_0f7a4_39 (by decide +kernel) ?_
            refine lv_iload_n hx hb dJ6_stringSize_0f7a4_16 rfl (lv_at hl 0 rfl) ?_
            refine lv_bipush (v := 10) hx hb dJ6_stringSize_0f7a4_17 (by decide +kernel) ?_
            refine lv_icmp_ge (tgt := 42) hx hb dJ6_stringSize_0f7a4_19 (by decide +kernel) (fun c9 => absurd c9 (by decide +kernel)) (fun _ => ?_)
            refine lv_iload_n hx hb dJ6_stringSize_0f7a4_22 rfl (lv_at hl 2 rfl) ?_
            refine lv_iload_n hx hb dJ6_stringSize_0f7a4_23 rfl (lv_at hl 1 rfl) ?_
            refine lv_icmp_le (tgt := 31) hx hb dJ6_stringSize_0f7a4_24 (by decide +kernel) (fun c_6 => ?_) (fun c_6 => ?_)
            · skip
              refine lv_bipush (v := 10) hx hb dJ6_stringSize_0f7a4_31 (by decide +kernel) ?_
              refine lv_iload_n hx hb dJ6_stringSize_0f7a4_33 rfl (lv_at hl 1 rfl) ?_
              refine lv_imul hx hb dJ6_stringSize_0f7a4_34 ?_
              rw [show ((10 : Int32) * (-1000000)) = (-10000000) from by decide]
              refine lv_istore_n (lv' := [(2, .int (-10000000)), (3, .int 6), (0, .int (-(nI w))), (1, .int 0)]) hx hb dJ6_stringSize_0f7a4_35 rfl hl (by decide +kernel) rfl (fun ls hl => ?_)
              refine lv_iinc (v := 7) (lv' := [(3, .int 7), (2, .int (-10000000)), (0, .int (-(nI w))), (1, .int 0)]) hx hb dJ6_stringSize_0f7a4_36 hl (k := 1) rfl (by decide +kernel) (by decide +kernel) rfl (fun ls hl => ?_)
              refine lv_goto (tgt := 16) hx hb dJ6_stringSize_0f7a4_39 (by decide +kernel) ?_
              refine lv_iload_n hx hb dJ6_stringSize_0f7a4_16 rfl (lv_at hl 0 rfl) ?_
              refine lv_bipush (v := 10) hx hb dJ6_stringSize_0f7a4_17 (by decide +kernel) ?_
              refine lv_icmp_ge (tgt := 42) hx hb dJ6_stringSize_0f7a4_19 (by decide +kernel) (fun c9 => absurd c9 (by decide +kernel)) (fun _ => ?_)
              refine lv_iload_n hx hb dJ6_stringSize_0f7a4_22 rfl (lv_at hl 2 rfl) ?_
              refine lv_iload_n hx hb dJ6_stringSize_0f7a4_23 rfl (lv_at hl 1 rfl) ?_
              refine lv_icmp_le (tgt := 31) hx hb dJ6_stringSize_0f7a4_24 (by decide +kernel) (fun c_7 => ?_) (fun c_7 => ?_)
              · skip
                refine lv_bipush (v := 10) hx hb dJ6_stringSize_0f7a4_31 (by decide +kernel) ?_
                refine lv_iload_n hx hb dJ6_stringSize_0f7a4_33 rfl (lv_at hl 1 rfl) ?_
                refine lv_imul hx hb dJ6_stringSize_0f7a4_34 ?_
                rw [show ((10 : Int32) * (-10000000)) = (-100000000) from by decide]
                refine lv_istore_n (lv' := [(2, .int (-100000000)), (3, .int 7), (0, .int (-(nI w))), (1, .int 0)]) hx hb dJ6_stringSize_0f7a4_35 rfl hl (by decide +kernel) rfl (fun ls hl => ?_)
                refine lv_iinc (v := 8) (lv' := [(3, .int 8), (2, .int (-100000000)), (0, .int (-(nI w))), (1, .int 0)]) hx hb dJ6_stringSize_0f7a4_36 hl (k := 1) rfl (by decide +kernel) (by decide +kernel) rfl (fun ls hl => ?_)
                refine lv_goto (tgt := 16) hx hb dJ6_stringSize_0f7a4_39 (by decide +kernel) ?_
                refine lv_iload_n hx hb dJ6_stringSize_0f7a4_16 rfl (lv_at hl 0 rfl) ?_
                refine lv_bipush (v := 10) hx hb dJ6_stringSize_0f7a4_17 (by decide +kernel) ?_
                refine lv_icmp_ge (tgt := 42) hx hb dJ6_stringSize_0f7a4_19 (by decide +kernel) (fun c9 => absurd c9 (by decide +kernel)) (fun _ => ?_)
                refine lv_iload_n hx hb dJ6_stringSize_0f7a4_22 rfl (lv_at hl 2 rfl) ?_
                refine lv_iload_n hx hb dJ6_stringSize_0f7a4_23 rfl (lv_at hl 1 rfl) ?_
                refine lv_icmp_le (tgt := 31) hx hb dJ6_stringSize_0f7a4_24 (by decide +kernel) (fun c_8 => ?_) (fun c_8 => ?_)
                · skip
                  refine lv_bipush (v := 10) hx hb dJ6_stringSize_0f7a4_31 (by decide +kernel) ?_
                  refine lv_iload_n hx hb dJ6_stringSize_0f7a4_33 rfl (lv_at hl 1 rfl) ?_
                  refine lv_imul hx hb dJ6_stringSize_0f7a4_34 ?_
                  rw [show ((10 : Int32) * (-100000000)) = (-1000000000) from by decide]
                  refine lv_istore_n (lv' := [(2, .int (-1000000000)), (3, .int 8), (0, .int (-(nI w))), (1, .int 0)]) hx hb dJ6_stringSize_0f7a4_35 rfl hl (by decide +kernel) rfl (fun ls hl => ?_)
                  refine lv_iinc (v := 9) (lv' := [(3, .int 9), (2, .int (-1000000000)), (0, .int (-(nI w))), (1, .int 0)]) hx hb dJ6_stringSize_0f7a4_36 hl (k := 1) rfl (by decide +kernel) (by decide +kernel) rfl (fun ls hl => ?_)
                  refine lv_goto (tgt := 16) hx hb dJ6_stringSize_0f7a4_39 (by decide +kernel) ?_
                  refine lv_iload_n hx hb dJ6_stringSize_0f7a4_16 rfl (lv_at hl 0 rfl) ?_
                  refine lv_bipush (v := 10) hx hb dJ6_stringSize_0f7a4_17 (by decide +kernel) ?_
                  refine lv_icmp_ge (tgt := 42) hx hb dJ6_stringSize_0f7a4_19 (by decide +kernel) (fun c9 => absurd c9 (by decide +kernel)) (fun _ => ?_)
                  refine lv_iload_n hx hb dJ6_stringSize_0f7a4_22 rfl (lv_at hl 2 rfl) ?_
                  refine lv_iload_n hx hb dJ6_stringSize_0f7a4_23 rfl (lv_at hl 1 rfl) ?_
                  refine lv_icmp_le (tgt := 31) hx hb dJ6_stringSize_0f7a4_24 (by decide +kernel) (fun c_9 => ?_) (fun c_9 => ?_)
                  · skip
                    refine lv_bipush (v := 10) hx hb dJ6_stringSize_0f7a4_31 (by decide +kernel) ?_
                    refine lv_iload_n hx hb dJ6_stringSize_0f7a4_33 rfl (lv_at hl 1 rfl) ?_
                    refine lv_imul hx hb dJ6_stringSize_0f7a4_34 ?_
                    rw [show ((10 : Int32) * (-1000000000)) = (-10000000000) from by decide]
                    refine lv_istore_n (lv' := [(2, .int (-10000000000)), (3, .int 9), (0, .int (-(nI w))), (1, .int 0)]) hx hb dJ6_stringSize_0f7a4_35 rfl hl (by decide +kernel) rfl (fun ls hl => ?_)
                    refine lv_iinc (v := 10) (lv' := [(3, .int 10), (2, .int (-10000000000)), (0, .int (-(nI w))), (1, .int 0)]) hx hb dJ6_stringSize_0f7a4_36 hl (k := 1) rfl (by decide +kernel) (by decide +kernel) rfl (fun ls hl => ?_)
                    refine lv_goto (tgt := 16) hx hb dJ6_stringSize_0f7a4_39 (by decide +kernel) ?_
                    refine lv_iload_n hx hb dJ6_stringSize_0f7a4_16 rfl (lv_at hl 0 rfl) ?_
                    refine lv_bipush (v := 10) hx hb dJ6_stringSize_0f7a4_17 (by decide +kernel) ?_
                    refine lv_icmp_ge (tgt := 42) hx hb dJ6_stringSize_0f7a4_19 (by decide +kernel) (fun _ => ?_) (fun c9 => absurd c9 (by decide +kernel))
                    refine lv_bipush (v := 10) hx hb dJ6_stringSize_0f7a4_42 (by decide +kernel) ?_
                    refine lv_iload_n hx hb dJ6_stringSize_0f7a4_44 rfl (lv_at hl 3 rfl) ?_
                    refine lv_iadd hx hb dJ6_stringSize_0f7a4_45 ?_
                    rw [show ((10 : Int32) + 0) = 10 from by decide]
                    have z10 : 10 ≤ w := (sb_nle (a := w) (b := 10) (by omega) (by decide +kernel)).mp c_1
                    have z100 : 100 ≤ w := (sb_nle (a := w) (b := 100) (by omega) (by decide +kernel)).mp c_2
                    have z1000 : 1000 ≤ w := (sb_nle (a := w) (b := 1000) (by omega) (by decide +kernel)).mp c_3
                    have z10000 : 10000 ≤ w := (sb_nle (a := w) (b := 10000) (by omega) (by decide +kernel)).mp c_4
                    have z100000 : 100000 ≤ w := (sb_nle (a := w) (b := 100000) (by omega) (by decide +kernel)).mp c_5
                    have z1000000 : 1000000 ≤ w := (sb_nle (a := w) (b := 1000000) (by omega) (by decide +kernel)).mp c_6
                    have z10000000 : 10000000 ≤ w := (sb_nle (a := w) (b := 10000000) (by omega) (by decide +kernel)).mp c_7
                    have z100000000 : 100000000 ≤ w := (sb_nle (a := w) (b := 100000000) (by omega) (by decide +kernel)).mp c_8
                    have z1000000000 : 1000000000 ≤ w := (sb_nle (a := w) (b := 1000000000) (by omega) (by decide +kernel)).mp c_9
                    have he : sb_dg w = 10 := by rw [sb_dg, if_neg (show ¬ w < 10 by omega), if_neg (show ¬ w < 100 by omega), if_neg (show ¬ w < 1000 by omega), if_neg (show ¬ w < 10000 by omega), if_neg (show ¬ w < 100000 by omega), if_neg (show ¬ w < 1000000 by omega), if_neg (show ¬ w < 10000000 by omega), if_neg (show ¬ w < 100000000 by omega), if_neg (show ¬ w < 1000000000 by omega)]
                    have hP := xP_nil (D := (dC, dI)) (cl := xCl) (H := s.heap)
                    have hD := xD_nil (A := A)
                    refine W.widen (k := 0) (n := 0) (by omega) (by omega) ?_
                    exact W.iret (v := 10) hx hb hr (fun t ht hW => ⟨⟨_, (), rfl, (by rw [he]; rfl), by rw [ht]; exact hP, hD⟩, hS.F ht⟩) hS.2.2 dJ6_stringSize_0f7a4_46
                  · skip
                    refine lv_iload_n hx hb dJ6_stringSize_0f7a4_27 rfl (lv_at hl 0 rfl) ?_
                    refine lv_iload_n hx hb dJ6_stringSize_0f7a4_28 rfl (lv_at hl 3 rfl) ?_
                    refine lv_iadd hx hb dJ6_stringSize_0f7a4_29 ?_
                    rw [show ((9 : Int32) + 0) = 9 from by decide]
                    have z10 : 10 ≤ w := (sb_nle (a := w) (b := 10) (by omega) (by decide +kernel)).mp c_1
                    have z100 : 100 ≤ w := (sb_nle (a := w) (b := 100) (by omega) (by decide +kernel)).mp c_2
                    have z1000 : 1000 ≤ w := (sb_nle (a := w) (b := 1000) (by omega) (by decide +kernel)).mp c_3
                    have z10000 : 10000 ≤ w := (sb_nle (a := w) (b := 10000) (by omega) (by decide +kernel)).mp c_4
                    have z100000 : 100000 ≤ w := (sb_nle (a := w) (b := 100000) (by omega) (by decide +kernel)).mp c_5
                    have z1000000 : 1000000 ≤ w := (sb_nle (a := w) (b := 1000000) (by omega) (by decide +kernel)).mp c_6
                    have z10000000 : 10000000 ≤ w := (sb_nle (a := w) (b := 10000000) (by omega) (by decide +kernel)).mp c_7
                    have z100000000 : 100000000 ≤ w := (sb_nle (a := w) (b := 100000000) (by omega) (by decide +kernel)).mp c_8
                    have z1000000000 : w < 1000000000 := Nat.lt_of_not_le (fun z => c_9 ((sb_nle (a := w) (b := 1000000000) (by omega) (by decide +kernel)).mpr z))
                    have he : sb_dg w = 9 := by rw [sb_dg, if_neg (show ¬ w < 10 by omega), if_neg (show ¬ w < 100 by omega), if_neg (show ¬ w < 1000 by omega), if_neg (show ¬ w < 10000 by omega), if_neg (show ¬ w < 100000 by omega), if_neg (show ¬ w < 1000000 by omega), if_neg (show ¬ w < 10000000 by omega), if_neg (show ¬ w < 100000000 by omega), if_pos (show w < 1000000000 by omega)]
                    have hP := xP_nil (D := (dC, dI)) (cl := xCl) (H := s.heap)
                    have hD := xD_nil (A := A)
                    refine W.widen (k := 0) (n := 0) (by omega) (by omega) ?_
                    exact W.iret (v := 9) hx hb hr (fun t ht hW => ⟨⟨_, (), rfl, (by rw [he]; rfl), by rw [ht]; exact hP, hD⟩, hS.F ht⟩) hS.2.2 dJ6_stringSize_0f7a4_30
                · skip
                  refine lv_iload_n hx hb dJ6_stringSize_0f7a4_27 rfl (lv_at hl 0 rfl) ?_
                  refine lv_iload_n hx hb dJ6_stringSize_0f7a4_28 rfl (lv_at hl 3 rfl) ?_
                  refine lv_iadd hx hb dJ6_stringSize_0f7a4_29 ?_
                  rw [show ((8 : Int32) + 0) = 8 from by decide]
                  have z10 : 10 ≤ w := (sb_nle (a := w) (b := 10) (by omega) (by decide +kernel)).mp c_1
                  have z100 : 100 ≤ w := (sb_nle (a := w) (b := 100) (by omega) (by decide +kernel)).mp c_2
                  have z1000 : 1000 ≤ w := (sb_nle (a := w) (b := 1000) (by omega) (by decide +kernel)).mp c_3
                  have z10000 : 10000 ≤ w := (sb_nle (a := w) (b := 10000) (by omega) (by decide +kernel)).mp c_4
                  have z100000 : 100000 ≤ w := (sb_nle (a := w) (b := 100000) (by omega) (by decide +kernel)).mp c_5
                  have z1000000 : 1000000 ≤ w := (sb_nle (a := w) (b := 1000000) (by omega) (by decide +kernel)).mp c_6
                  have z10000000 : 10000000 ≤ w := (sb_nle (a := w) (b := 10000000) (by omega) (by decide +kernel)).mp c_7
                  have z100000000 : w < 100000000 := Nat.lt_of_not_le (fun z => c_8 ((sb_nle (a := w) (b := 100000000) (by omega) (by decide +kernel)).mpr z))
                  have he : sb_dg w = 8 := by rw [sb_dg, if_neg (show ¬ w < 10 by omega), if_neg (show ¬ w < 100 by omega), if_neg (show ¬ w < 1000 by omega), if_neg (show ¬ w < 10000 by omega), if_neg (show ¬ w < 100000 by omega), if_neg (show ¬ w < 1000000 by omega), if_neg (show ¬ w < 10000000 by omega), if_pos (show w < 100000000 by omega)]
                  have hP := xP_nil (D := (dC, dI)) (cl := xCl) (H := s.heap)
                  have hD := xD_nil (A := A)
                  refine W.widen (k := 0) (n := 0) (by omega) (by omega) ?_
                  exact W.iret (v := 8) hx hb hr (fun t ht hW => ⟨⟨_, (), rfl, (by rw [he]; rfl), by rw [ht]; exact hP, hD⟩, hS.F ht⟩) hS.2.2 dJ6_stringSize_0f7a4_30
              · skip
                refine lv_iload_n hx hb dJ6_stringSize_0f7a4_27 rfl (lv_at hl 0 rfl) ?_
                refine lv_iload_n hx hb dJ6_stringSize_0f7a4_28 rfl (lv_at hl 3 rfl) ?_
                refine lv_iadd hx hb dJ6_stringSize_0f7a4_29 ?_
                rw [show ((7 : Int32) + 0) = 7 from by decide]
                have z10 : 10 ≤ w := (sb_nle (a := w) (b := 10) (by omega) (by decide +kernel)).mp c_1
                have z100 : 100 ≤ w := (sb_nle (a := w) (b := 100) (by omega) (by decide +kernel)).mp c_2
                have z1000 : 1000 ≤ w := (sb_nle (a := w) (b := 1000) (by omega) (by decide +kernel)).mp c_3
                have z10000 : 10000 ≤ w := (sb_nle (a := w) (b := 10000) (by omega) (by decide +kernel)).mp c_4
                have z100000 : 100000 ≤ w := (sb_nle (a := w) (b := 100000) (by omega) (by decide +kernel)).mp c_5
                have z1000000 : 1000000 ≤ w := (sb_nle (a := w) (b := 1000000) (by omega) (by decide +kernel)).mp c_6
                have z10000000 : w < 10000000 := Nat.lt_of_not_le (fun z => c_7 ((sb_nle (a := w) (b := 10000000) (by omega) (by decide +kernel)).mpr z))
                have he : sb_dg w = 7 := by rw [sb_dg, if_neg (show ¬ w < 10 by omega), if_neg (show ¬ w < 100 by omega), if_neg (show ¬ w < 1000 by omega), if_neg (show ¬ w < 10000 by omega), if_neg (show ¬ w < 100000 by omega), if_neg (show ¬ w < 1000000 by omega), if_pos (show w < 10000000 by omega)]
                have hP := xP_nil (D := (dC, dI)) (cl := xCl) (H := s.heap)
                have hD := xD_nil (A := A)
                refine W.widen (k := 0) (n := 0) (by omega) (by omega) ?_
                exact W.iret (v := 7) hx hb hr (fun t ht hW => ⟨⟨_, (), rfl, (by rw [he]; rfl), by rw [ht]; exact hP, hD⟩, hS.F ht⟩) hS.2.2 dJ6_stringSize_0f7a4_30
            · skip
              refine lv_iload_n hx hb dJ6_stringSize_0f7a4_27 rfl (lv_at hl 0 rfl) ?_
              refine lv_iload_n hx hb dJ6_stringSize_0f7a4_28 rfl (lv_at hl 3 rfl) ?_
              refine lv_iadd hx hb dJ6_stringSize_0f7a4_29 ?_
              rw [show ((6 : Int32) + 0) = 6 from by decide]
              have z10 : 10 ≤ w := (sb_nle (a := w) (b := 10) (by omega) (by decide +kernel)).mp c_1
              have z100 : 100 ≤ w := (sb_nle (a := w) (b := 100) (by omega) (by decide +kernel)).mp c_2
              have z1000 : 1000 ≤ w := (sb_nle (a := w) (b := 1000) (by omega) (by decide +kernel)).mp c_3
              have z10000 : 10000 ≤ w := (sb_nle (a := w) (b := 10000) (by omega) (by decide +kernel)).mp c_4
              have z100000 : 100000 ≤ w := (sb_nle (a := w) (b := 100000) (by omega) (by decide +kernel)).mp c_5
              have z1000000 : w < 1000000 := Nat.lt_of_not_le (fun z => c_6 ((sb_nle (a := w) (b := 1000000) (by omega) (by decide +kernel)).mpr z))
              have he : sb_dg w = 6 := by rw [sb_dg, if_neg (show ¬ w < 10 by omega), if_neg (show ¬ w < 100 by omega), if_neg (show ¬ w < 1000 by omega), if_neg (show ¬ w < 10000 by omega), if_neg (show ¬ w < 100000 by omega), if_pos (show w < 1000000 by omega)]
              have hP := xP_nil (D := (dC, dI)) (cl := xCl) (H := s.heap)
              have hD := xD_nil (A := A)
              refine W.widen (k := 0) (n := 0) (by omega) (by omega) ?_
              exact W.iret (v := 6) hx hb hr (fun t ht hW => ⟨⟨_, (), rfl, (by rw [he]; rfl), by rw [ht]; exact hP, hD⟩, hS.F ht⟩) hS.2.2 dJ6_stringSize_0f7a4_30
          · skip
            refine lv_iload_n hx hb dJ6_stringSize_0f7a4_27 rfl (lv_at hl 0 rfl) ?_
            refine lv_iload_n hx hb dJ6_stringSize_0f7a4_28 rfl (lv_at hl 3 rfl) ?_
            refine lv_iadd hx hb dJ6_stringSize_0f7a4_29 ?_
            rw [show ((5 : Int32) + 0) = 5 from by decide]
            have z10 : 10 ≤ w := (sb_nle (a := w) (b := 10) (by omega) (by decide +kernel)).mp c_1
            have z100 : 100 ≤ w := (sb_nle (a := w) (b := 100) (by omega) (by decide +kernel)).mp c_2
            have z1000 : 1000 ≤ w := (sb_nle (a := w) (b := 1000) (by omega) (by decide +kernel)).mp c_3
            have z10000 : 10000 ≤ w := (sb_nle (a := w) (b := 10000) (by omega) (by decide +kernel)).mp c_4
            have z100000 : w < 100000 := Nat.lt_of_not_le (fun z => c_5 ((sb_nle (a := w) (b := 100000) (by omega) (by decide +kernel)).mpr z))
            have he : sb_dg w = 5 := by rw [sb_dg, if_neg (show ¬ w < 10 by omega), if_neg (show ¬ w < 100 by omega), if_neg (show ¬ w < 1000 by omega), if_neg (show ¬ w < 10000 by omega), if_pos (show w < 100000 by omega)]
            have hP := xP_nil (D := (dC, dI)) (cl := xCl) (H := s.heap)
            have hD := xD_nil (A := A)
            refine W.widen (k := 0) (n := 0) (by omega) (by omega) ?_
            exact W.iret (v := 5) hx hb hr (fun t ht hW => ⟨⟨_, (), rfl, (by rw [he]; rfl), by rw [ht]; exact hP, hD⟩, hS.F ht⟩) hS.2.2 dJ6_stringSize_0f7a4_30
        · skip
          refine lv_iload_n hx hb dJ6_stringSize_0f7a4_27 rfl (lv_at hl 0 rfl) ?_
          refine lv_iload_n hx hb dJ6_stringSize_0f7a4_28 rfl (lv_at hl 3 rfl) ?_
          refine lv_iadd hx hb dJ6_stringSize_0f7a4_29 ?_
          rw [show ((4 : Int32) + 0) = 4 from by decide]
          have z10 : 10 ≤ w := (sb_nle (a := w) (b := 10) (by omega) (by decide +kernel)).mp c_1
          have z100 : 100 ≤ w := (sb_nle (a := w) (b := 100) (by omega) (by decide +kernel)).mp c_2
          have z1000 : 1000 ≤ w := (sb_nle (a := w) (b := 1000) (by omega) (by decide +kernel)).mp c_3
          have z10000 : w < 10000 := Nat.lt_of_not_le (fun z => c_4 ((sb_nle (a := w) (b := 10000) (by omega) (by decide +kernel)).mpr z))
          have he : sb_dg w = 4 := by rw [sb_dg, if_neg (show ¬ w < 10 by omega), if_neg (show ¬ w < 100 by omega), if_neg (show ¬ w < 1000 by omega), if_pos (show w < 10000 by omega)]
          have hP := xP_nil (D := (dC, dI)) (cl := xCl) (H := s.heap)
          have hD := xD_nil (A := A)
          refine W.widen (k := 0) (n := 0) (by omega) (by omega) ?_
          exact W.iret (v := 4) hx hb hr (fun t ht hW => ⟨⟨_, (), rfl, (by rw [he]; rfl), by rw [ht]; exact hP, hD⟩, hS.F ht⟩) hS.2.2 dJ6_stringSize_0f7a4_30
      · skip
        refine lv_iload_n hx hb dJ6_stringSize_0f7a4_27 rfl (lv_at hl 0 rfl) ?_
        refine lv_iload_n hx hb dJ6_stringSize_0f7a4_28 rfl (lv_at hl 3 rfl) ?_
        refine lv_iadd hx hb dJ6_stringSize_0f7a4_29 ?_
        rw [show ((3 : Int32) + 0) = 3 from by decide]
        have z10 : 10 ≤ w := (sb_nle (a := w) (b := 10) (by omega) (by decide +kernel)).mp c_1
        have z100 : 100 ≤ w := (sb_nle (a := w) (b := 100) (by omega) (by decide +kernel)).mp c_2
        have z1000 : w < 1000 := Nat.lt_of_not_le (fun z => c_3 ((sb_nle (a := w) (b := 1000) (by omega) (by decide +kernel)).mpr z))
        have he : sb_dg w = 3 := by rw [sb_dg, if_neg (show ¬ w < 10 by omega), if_neg (show ¬ w < 100 by omega), if_pos (show w < 1000 by omega)]
        have hP := xP_nil (D := (dC, dI)) (cl := xCl) (H := s.heap)
        have hD := xD_nil (A := A)
        refine W.widen (k := 0) (n := 0) (by omega) (by omega) ?_
        exact W.iret (v := 3) hx hb hr (fun t ht hW => ⟨⟨_, (), rfl, (by rw [he]; rfl), by rw [ht]; exact hP, hD⟩, hS.F ht⟩) hS.2.2 dJ6_stringSize_0f7a4_30
    · skip
      refine lv_iload_n hx hb dJ6_stringSize_0f7a4_27 rfl (lv_at hl 0 rfl) ?_
      refine lv_iload_n hx hb dJ6_stringSize_0f7a4_28 rfl (lv_at hl 3 rfl) ?_
      refine lv_iadd hx hb dJ6_stringSize_0f7a4_29 ?_
      rw [show ((2 : Int32) + 0) = 2 from by decide]
      have z10 : 10 ≤ w := (sb_nle (a := w) (b := 10) (by omega) (by decide +kernel)).mp c_1
      have z100 : w < 100 := Nat.lt_of_not_le (fun z => c_2 ((sb_nle (a := w) (b := 100) (by omega) (by decide +kernel)).mpr z))
      have he : sb_dg w = 2 := by rw [sb_dg, if_neg (show ¬ w < 10 by omega), if_pos (show w < 100 by omega)]
      have hP := xP_nil (D := (dC, dI)) (cl := xCl) (H := s.heap)
      have hD := xD_nil (A := A)
      refine W.widen (k := 0) (n := 0) (by omega) (by omega) ?_
      exact W.iret (v := 2) hx hb hr (fun t ht hW => ⟨⟨_, (), rfl, (by rw [he]; rfl), by rw [ht]; exact hP, hD⟩, hS.F ht⟩) hS.2.2 dJ6_stringSize_0f7a4_30
  · skip
    refine lv_iload_n hx hb dJ6_stringSize_0f7a4_27 rfl (lv_at hl 0 rfl) ?_
    refine lv_iload_n hx hb dJ6_stringSize_0f7a4_28 rfl (lv_at hl 3 rfl) ?_
    refine lv_iadd hx hb dJ6_stringSize_0f7a4_29 ?_
    rw [show ((1 : Int32) + 0) = 1 from by decide]
    have z10 : w < 10 := Nat.lt_of_not_le (fun z => c_1 ((sb_nle (a := w) (b := 10) (by omega) (by decide +kernel)).mpr z))
    have he : sb_dg w = 1 := by rw [sb_dg, if_pos (show w < 10 by omega)]
    have hP := xP_nil (D := (dC, dI)) (cl := xCl) (H := s.heap)
    have hD := xD_nil (A := A)
    refine W.widen (k := 0) (n := 0) (by omega) (by omega) ?_
    exact W.iret (v := 1) hx hb hr (fun t ht hW => ⟨⟨_, (), rfl, (by rw [he]; rfl), by rw [ht]; exact hP, hD⟩, hS.F ht⟩) hS.2.2 dJ6_stringSize_0f7a4_30
noncomputable def dz_p04c_2 : List (Nat × Instr × Nat) := [(0, (.iload_n 1, 1)), (1, (.istore 5, 2)), (3, (.iload_n 0, 1)), (4, (.ifCond .ge 7, 3)), (7, (.iconst 1, 1)), (8, (.goto 4, 3)), (11, (.iconst 0, 1)), (12, (.istore 6, 2)), (14, (.iload 6, 2)), (16, (.ifCond .ne 6, 3)), (19, (.iload_n 0, 1)), (20, (.ineg, 1)), (21, (.istore_n 0, 1)), (22, (.iload_n 0, 1)), (23, (.bipush (-100), 2)), (25, (.if_icmp .gt 47, 3)), (28, (.iload_n 0, 1)), (29, (.bipush 100, 2)), (31, (.idiv, 1)), (32, (.istore_n 3, 1)), (33, (.iload_n 3, 1)), (34, (.bipush 100, 2)), (36, (.imul, 1)), (37, (.iload_n 0, 1)), (38, (.isub, 1)), (39, (.istore 4, 2)), (41, (.iload_n 3, 1)), (42, (.istore_n 0, 1)), (43, (.aload_n 2, 1)), (44, (.iinc 5 (-1), 3)), (47, (.iload 5, 2)), (49, (.getstatic 83, 3)), (52, (.iload 4, 2)), (54, (.baload, 1)), (55, (.bastore, 1)), (56, (.aload_n 2, 1)), (57, (.iinc 5 (-1), 3)), (60, (.iload 5, 2)), (62, (.getstatic 87, 3)), (65, (.iload 4, 2))]
theorem dy_p04c_2 : dz_ok cJ6_getChars_ba4f3 dz_p04c_2 = true := by decide +kernel
theorem dJ6_getChars_ba4f3_0 : decode cJ6_getChars_ba4f3 0 = .ok (.iload_n 1, 1) := dz_at (i := 0) dy_p04c_2 rfl
theorem dJ6_getChars_ba4f3_1 : decode cJ6_getChars_ba4f3 1 = .ok (.istore 5, 2) := dz_at (i := 1) dy_p04c_2 rfl
theorem dJ6_getChars_ba4f3_3 : decode cJ6_getChars_ba4f3 3 = .ok (.iload_n 0, 1) := dz_at (i := 2) dy_p04c_2 rfl
theorem dJ6_getChars_ba4f3_4 : decode cJ6_getChars_ba4f3 4 = .ok (.ifCond .ge 7, 3) := dz_at (i := 3) dy_p04c_2 rfl
theorem dJ6_getChars_ba4f3_7 : decode cJ6_getChars_ba4f3 7 = .ok (.iconst 1, 1) := dz_at (i := 4) dy_p04c_2 rfl
theorem dJ6_getChars_ba4f3_8 : decode cJ6_getChars_ba4f3 8 = .ok (.goto 4, 3) := dz_at (i := 5) dy_p04c_2 rfl
theorem dJ6_getChars_ba4f3_11 : decode cJ6_getChars_ba4f3 11 = .ok (.iconst 0, 1) := dz_at (i := 6) dy_p04c_2 rfl
theorem dJ6_getChars_ba4f3_12 : decode cJ6_getChars_ba4f3 12 = .ok (.istore 6, 2) := dz_at (i := 7) dy_p04c_2 rfl
theorem dJ6_getChars_ba4f3_14 : decode cJ6_getChars_ba4f3 14 = .ok (.iload 6, 2) := dz_at (i := 8) dy_p04c_2 rfl
theorem dJ6_getChars_ba4f3_16 : decode cJ6_getChars_ba4f3 16 = .ok (.ifCond .ne 6, 3) := dz_at (i := 9) dy_p04c_2 rfl
theorem dJ6_getChars_ba4f3_19 : decode cJ6_getChars_ba4f3 19 = .ok (.iload_n 0, 1) := dz_at (i := 10) dy_p04c_2 rfl
theorem dJ6_getChars_ba4f3_20 : decode cJ6_getChars_ba4f3 20 = .ok (.ineg, 1) := dz_at (i := 11) dy_p04c_2 rfl
theorem dJ6_getChars_ba4f3_21 : decode cJ6_getChars_ba4f3 21 = .ok (.istore_n 0, 1) := dz_at (i := 12) dy_p04c_2 rfl
theorem dJ6_getChars_ba4f3_22 : decode cJ6_getChars_ba4f3 22 = .ok (.iload_n 0, 1) := dz_at (i := 13) dy_p04c_2 rfl
theorem dJ6_getChars_ba4f3_23 : decode cJ6_getChars_ba4f3 23 = .ok (.bipush (-100), 2) := dz_at (i := 14) dy_p04c_2 rfl
theorem dJ6_getChars_ba4f3_25 : decode cJ6_getChars_ba4f3 25 = .ok (.if_icmp .gt 47, 3) := dz_at (i := 15) dy_p04c_2 rfl
theorem dJ6_getChars_ba4f3_28 : decode cJ6_getChars_ba4f3 28 = .ok (.iload_n 0, 1) := dz_at (i := 16) dy_p04c_2 rfl
theorem dJ6_getChars_ba4f3_29 : decode cJ6_getChars_ba4f3 29 = .ok (.bipush 100, 2) := dz_at (i := 17) dy_p04c_2 rfl
theorem dJ6_getChars_ba4f3_31 : decode cJ6_getChars_ba4f3 31 = .ok (.idiv, 1) := dz_at (i := 18) dy_p04c_2 rfl
theorem dJ6_getChars_ba4f3_32 : decode cJ6_getChars_ba4f3 32 = .ok (.istore_n 3, 1) := dz_at (i := 19) dy_p04c_2 rfl
theorem dJ6_getChars_ba4f3_33 : decode cJ6_getChars_ba4f3 33 = .ok (.iload_n 3, 1) := dz_at (i := 20) dy_p04c_2 rfl
theorem dJ6_getChars_ba4f3_34 : decode cJ6_getChars_ba4f3 34 = .ok (.bipush 100, 2) := dz_at (i := 21) dy_p04c_2 rfl
theorem dJ6_getChars_ba4f3_36 : decode cJ6_getChars_ba4f3 36 = .ok (.imul, 1) := dz_at (i := 22) dy_p04c_2 rfl
theorem dJ6_getChars_ba4f3_37 : decode cJ6_getChars_ba4f3 37 = .ok (.iload_n 0, 1) := dz_at (i := 23) dy_p04c_2 rfl
theorem dJ6_getChars_ba4f3_38 : decode cJ6_getChars_ba4f3 38 = .ok (.isub, 1) := dz_at (i := 24) dy_p04c_2 rfl
theorem dJ6_getChars_ba4f3_39 : decode cJ6_getChars_ba4f3 39 = .ok (.istore 4, 2) := dz_at (i := 25) dy_p04c_2 rfl
theorem dJ6_getChars_ba4f3_41 : decode cJ6_getChars_ba4f3 41 = .ok (.iload_n 3, 1) := dz_at (i := 26) dy_p04c_2 rfl
theorem dJ6_getChars_ba4f3_42 : decode cJ6_getChars_ba4f3 42 = .ok (.istore_n 0, 1) := dz_at (i := 27) dy_p04c_2 rfl
theorem dJ6_getChars_ba4f3_43 : decode cJ6_getChars_ba4f3 43 = .ok (.aload_n 2, 1) := dz_at (i := 28) dy_p04c_2 rfl
theorem dJ6_getChars_ba4f3_44 : decode cJ6_getChars_ba4f3 44 = .ok (.iinc 5 (-1), 3) := dz_at (i := 29) dy_p04c_2 rfl
theorem dJ6_getChars_ba4f3_47 : decode cJ6_getChars_ba4f3 47 = .ok (.iload 5, 2) := dz_at (i := 30) dy_p04c_2 rfl
theorem dJ6_getChars_ba4f3_49 : decode cJ6_getChars_ba4f3 49 = .ok (.getstatic 83, 3) := dz_at (i := 31) dy_p04c_2 rfl
theorem dJ6_getChars_ba4f3_52 : decode cJ6_getChars_ba4f3 52 = .ok (.iload 4, 2) := dz_at (i := 32) dy_p04c_2 rfl
theorem dJ6_getChars_ba4f3_54 : decode cJ6_getChars_ba4f3 54 = .ok (.baload, 1) := dz_at (i := 33) dy_p04c_2 rfl
theorem dJ6_getChars_ba4f3_55 : decode cJ6_getChars_ba4f3 55 = .ok (.bastore, 1) := dz_at (i := 34) dy_p04c_2 rfl
theorem dJ6_getChars_ba4f3_56 : decode cJ6_getChars_ba4f3 56 = .ok (.aload_n 2, 1) := dz_at (i := 35) dy_p04c_2 rfl
theorem dJ6_getChars_ba4f3_57 : decode cJ6_getChars_ba4f3 57 = .ok (.iinc 5 (-1), 3) := dz_at (i := 36) dy_p04c_2 rfl
theorem dJ6_getChars_ba4f3_60 : decode cJ6_getChars_ba4f3 60 = .ok (.iload 5, 2) := dz_at (i := 37) dy_p04c_2 rfl
theorem dJ6_getChars_ba4f3_62 : decode cJ6_getChars_ba4f3 62 = .ok (.getstatic 87, 3) := dz_at (i := 38) dy_p04c_2 rfl
theorem dJ6_getChars_ba4f3_65 : decode cJ6_getChars_ba4f3 65 = .ok (.iload 4, 2) := dz_at (i := 39) dy_p04c_2 rfl
noncomputable def dz_p04c_3 : List (Nat × Instr × Nat) := [(67, (.baload, 1)), (68, (.bastore, 1)), (69, (.goto (-47), 3)), (72, (.aload_n 2, 1)), (73, (.iinc 5 (-1), 3)), (76, (.iload 5, 2)), (78, (.getstatic 83, 3)), (81, (.iload_n 0, 1)), (82, (.ineg, 1)), (83, (.baload, 1)), (84, (.bastore, 1)), (85, (.iload_n 0, 1)), (86, (.bipush (-9), 2)), (88, (.if_icmp .ge 16, 3)), (91, (.aload_n 2, 1)), (92, (.iinc 5 (-1), 3)), (95, (.iload 5, 2)), (97, (.getstatic 87, 3)), (100, (.iload_n 0, 1)), (101, (.ineg, 1)), (102, (.baload, 1)), (103, (.bastore, 1)), (104, (.iload 6, 2)), (106, (.ifCond .eq 12, 3)), (109, (.aload_n 2, 1)), (110, (.iinc 5 (-1), 3)), (113, (.iload 5, 2)), (115, (.bipush 45, 2)), (117, (.bastore, 1)), (118, (.iload 5, 2)), (120, (.ireturn, 1))]
theorem dy_p04c_3 : dz_ok cJ6_getChars_ba4f3 dz_p04c_3 = true := by decide +kernel
theorem dJ6_getChars_ba4f3_67 : decode cJ6_getChars_ba4f3 67 = .ok (.baload, 1) := dz_at (i := 0) dy_p04c_3 rfl
theorem dJ6_getChars_ba4f3_68 : decode cJ6_getChars_ba4f3 68 = .ok (.bastore, 1) := dz_at (i := 1) dy_p04c_3 rfl
theorem dJ6_getChars_ba4f3_69 : decode cJ6_getChars_ba4f3 69 = .ok (.goto (-47), 3) := dz_at (i := 2) dy_p04c_3 rfl
theorem dJ6_getChars_ba4f3_72 : decode cJ6_getChars_ba4f3 72 = .ok (.aload_n 2, 1) := dz_at (i := 3) dy_p04c_3 rfl
theorem dJ6_getChars_ba4f3_73 : decode cJ6_getChars_ba4f3 73 = .ok (.iinc 5 (-1), 3) := dz_at (i := 4) dy_p04c_3 rfl
theorem dJ6_getChars_ba4f3_76 : decode cJ6_getChars_ba4f3 76 = .ok (.iload 5, 2) := dz_at (i := 5) dy_p04c_3 rfl
theorem dJ6_getChars_ba4f3_78 : decode cJ6_getChars_ba4f3 78 = .ok (.getstatic 83, 3) := dz_at (i := 6) dy_p04c_3 rfl
theorem dJ6_getChars_ba4f3_81 : decode cJ6_getChars_ba4f3 81 = .ok (.iload_n 0, 1) := dz_at (i := 7) dy_p04c_3 rfl
theorem dJ6_getChars_ba4f3_82 : decode cJ6_getChars_ba4f3 82 = .ok (.ineg, 1) := dz_at (i := 8) dy_p04c_3 rfl
theorem dJ6_getChars_ba4f3_83 : decode cJ6_getChars_ba4f3 83 = .ok (.baload, 1) := dz_at (i := 9) dy_p04c_3 rfl
theorem dJ6_getChars_ba4f3_84 : decode cJ6_getChars_ba4f3 84 = .ok (.bastore, 1) := dz_at (i := 10) dy_p04c_3 rfl
theorem dJ6_getChars_ba4f3_85 : decode cJ6_getChars_ba4f3 85 = .ok (.iload_n 0, 1) := dz_at (i := 11) dy_p04c_3 rfl
theorem dJ6_getChars_ba4f3_86 : decode cJ6_getChars_ba4f3 86 = .ok (.bipush (-9), 2) := dz_at (i := 12) dy_p04c_3 rfl
theorem dJ6_getChars_ba4f3_88 : decode cJ6_getChars_ba4f3 88 = .ok (.if_icmp .ge 16, 3) := dz_at (i := 13) dy_p04c_3 rfl
theorem dJ6_getChars_ba4f3_91 : decode cJ6_getChars_ba4f3 91 = .ok (.aload_n 2, 1) := dz_at (i := 14) dy_p04c_3 rfl
theorem dJ6_getChars_ba4f3_92 : decode cJ6_getChars_ba4f3 92 = .ok (.iinc 5 (-1), 3) := dz_at (i := 15) dy_p04c_3 rfl
theorem dJ6_getChars_ba4f3_95 : decode cJ6_getChars_ba4f3 95 = .ok (.iload 5, 2) := dz_at (i := 16) dy_p04c_3 rfl
theorem dJ6_getChars_ba4f3_97 : decode cJ6_getChars_ba4f3 97 = .ok (.getstatic 87, 3) := dz_at (i := 17) dy_p04c_3 rfl
theorem dJ6_getChars_ba4f3_100 : decode cJ6_getChars_ba4f3 100 = .ok (.iload_n 0, 1) := dz_at (i := 18) dy_p04c_3 rfl
theorem dJ6_getChars_ba4f3_101 : decode cJ6_getChars_ba4f3 101 = .ok (.ineg, 1) := dz_at (i := 19) dy_p04c_3 rfl
theorem dJ6_getChars_ba4f3_102 : decode cJ6_getChars_ba4f3 102 = .ok (.baload, 1) := dz_at (i := 20) dy_p04c_3 rfl
theorem dJ6_getChars_ba4f3_103 : decode cJ6_getChars_ba4f3 103 = .ok (.bastore, 1) := dz_at (i := 21) dy_p04c_3 rfl
theorem dJ6_getChars_ba4f3_104 : decode cJ6_getChars_ba4f3 104 = .ok (.iload 6, 2) := dz_at (i := 22) dy_p04c_3 rfl
theorem dJ6_getChars_ba4f3_106 : decode cJ6_getChars_ba4f3 106 = .ok (.ifCond .eq 12, 3) := dz_at (i := 23) dy_p04c_3 rfl
theorem dJ6_getChars_ba4f3_109 : decode cJ6_getChars_ba4f3 109 = .ok (.aload_n 2, 1) := dz_at (i := 24) dy_p04c_3 rfl
theorem dJ6_getChars_ba4f3_110 : decode cJ6_getChars_ba4f3 110 = .ok (.iinc 5 (-1), 3) := dz_at (i := 25) dy_p04c_3 rfl
theorem dJ6_getChars_ba4f3_113 : decode cJ6_getChars_ba4f3 113 = .ok (.iload 5, 2) := dz_at (i := 26) dy_p04c_3 rfl
theorem dJ6_getChars_ba4f3_115 : decode cJ6_getChars_ba4f3 115 = .ok (.bipush 45, 2) := dz_at (i := 27) dy_p04c_3 rfl
theorem dJ6_getChars_ba4f3_117 : decode cJ6_getChars_ba4f3 117 = .ok (.bastore, 1) := dz_at (i := 28) dy_p04c_3 rfl
theorem dJ6_getChars_ba4f3_118 : decode cJ6_getChars_ba4f3 118 = .ok (.iload 5, 2) := dz_at (i := 29) dy_p04c_3 rfl
theorem dJ6_getChars_ba4f3_120 : decode cJ6_getChars_ba4f3 120 = .ok (.ireturn, 1) := dz_at (i := 30) dy_p04c_3 rfl
set_option maxHeartbeats 4000000 in
set_option maxRecDepth 100000 in
theorem k_J6_getChars_ba4f3 (l : Launch) (dC : Nat → ClassId) (dI : Nat → Nat → Nat) (cB : ClassId) (w0 : Nat) (q0 : Nat) (v : Nat) (mm : Nat) (f : Nat → Int32) (sz N : Nat) (hwb : w0 < 2 ^ 31) (hq : sb_dg w0 ≤ q0) (hqm : q0 ≤ mm) (hmb : mm ≤ 34) (hf : sb_Fit f) : Met l yJ6_getChars_ba4f3 wsJ6_getChars_ba4f3 ({ frames := 0, cells := 0, slots := 0, locals := 0 }) (va_Pc [.int (nI w0), .int (nI q0), .ref v] (xT (dC, dI) xCl [(v, eY cB mm f)] [(cB, .byte)] sz N)) (va_Qi (fun (r : Int32) (u : (Nat → Int32)) => sb_Fit u) (fun (u : (Nat → Int32)) t => xW (dC, dI) xCl [(v, eY cB mm u)] (va_A [(v, eY cB mm f)] sz) t) (va_A [(v, eY cB mm f)] sz)) 0 0 (va_A [(v, eY cB mm f)] sz) := by
  refine Met.ofW (cc := cJ6_getChars_ba4f3) (maxL := 7) (ret := (some .int)) (by decide +kernel) rfl ?_
  intro p e s m args below meth c s₁ B hml hv
  obtain ⟨rfl, ⟨hsz, hP, hK, hD0, hN, hG⟩, hT⟩ := hv
  have hx := B.exec
  have hb := B.bytes
  have hr := B.returns
  have hts := atoms_spec (ws := wsJ6_getChars_ba4f3) B.pre
  have hown : s.vm.findClass RJ6 = some m.cls := findClass_of_methodNamed B.named
  have hlocks := B.notSynchronized
  subst hsz
  have hAN : ∀ q, va_A [(v, eY cB mm f)] s.heap.size q → N ≤ q := xA_N hD0 hN
  have hD := hD0.self (sz := s.heap.size)
  generalize hAe : va_A [(v, eY cB mm f)] s.heap.size = A at hD hAN ⊢
  have hA : ∀ q : Nat, s.heap.size ≤ q → A q := fun q h => by rw [← hAe]; exact Or.inr h
  have hS : va_S A s.heap s.heap [] := va_S.rf
  have hP : va_P (dC, dI) xCl [(v, eY cB mm f)] s.heap := hP
  obtain ⟨hTc, ⟨tO, tT, fO, fT, hTo, hTt, hTa, hTb, hTf, hTg⟩, ⟨adK, adV, hTs, hTr0, hTr1, hTr2⟩, ⟨aE, hTe⟩, hTn⟩ := id hT
  have hl := lv_entry ([.int (nI w0), .int (nI q0), .ref v]) (n := 7) (Nat.le_of_ble_eq_true rfl)
  rw [lg_entry_eq]
  generalize (lg_sl ([.int (nI w0), .int (nI q0), .ref v]) ++ List.replicate (7 - (lg_sl ([.int (nI w0), .int (nI q0), .ref v])).length) Slot.unset).toArray = ls at hl ⊢
  have hl : lv_has ls 7 [(0, .int (nI w0)), (1, .int (nI q0)), (2, .ref v)] := hl
  refine lv_iload_n hx hb dJ6_getChars_ba4f3_0 rfl (lv_at hl 1 rfl) ?_
  refine lv_istore (lv' := [(5, .int (nI q0)), (0, .int (nI w0)), (1, .int (nI q0)), (2, .ref v)]) hx hb dJ6_getChars_ba4f3_1 hl (by decide +kernel) rfl (fun ls hl => ?_)
  refine lv_iload_n hx hb dJ6_getChars_ba4f3_3 rfl (lv_at hl 1 rfl) ?_
  refine lv_if_ge (tgt := 11) hx hb dJ6_getChars_ba4f3_4 (by decide +kernel) (fun c9 => ?_) (fun c9 => absurd (nI_pos' (by omega)) c9)
  refine lv_iconst (v := 0) hx hb dJ6_getChars_ba4f3_11 (by decide +kernel) ?_
  refine lv_istore (lv' := [(6, .int 0), (5, .int (nI q0)), (0, .int (nI w0)), (1, .int (nI q0)), (2, .ref v)]) hx hb dJ6_getChars_ba4f3_12 hl (by decide +kernel) rfl (fun ls hl => ?_)
  refine lv_iload hx hb dJ6_getChars_ba4f3_14 (lv_at hl 0 rfl) ?_
  refine lv_if_ne (tgt := 22) hx hb dJ6_getChars_ba4f3_16 (by decide +kernel) (fun c9 => absurd c9 (by decide +kernel)) (fun _ => ?_)
  refine lv_iload_n hx hb dJ6_getChars_ba4f3_19 rfl (lv_at hl 2 rfl) ?_
  refine lv_ineg hx hb dJ6_getChars_ba4f3_20 ?_
  refine lv_istore_n (lv' := [(0, .int (-(nI w0))), (6, .int 0), (5, .int (nI q0)), (1, .int (nI q0)), (2, .ref v)]) hx hb dJ6_getChars_ba4f3_21 rfl hl (by decide +kernel) rfl (fun ls hl => ?_)
  have loop_a : ∀ (k w q : Nat) (f : Nat → Int32) (H : Heap) (locs : List Loc) (ls : Array Slot), w < k → w < 2 ^ 31 → sb_dg w ≤ q → q ≤ mm → sb_Fit f → va_P (dC, dI) xCl [(v, eY cB mm f)] H → va_D A [(v, eY cB mm f)] → va_S A s.heap H locs → lv_has ls 7 [(0, .int (-(nI w))), (2, .ref v), (5, .int (nI q)), (6, .int 0)] → W p l e (headSpec wsJ6_getChars_ba4f3 ({ frames := 0, cells := 0, slots := 0, locals := 0 } : Room)).room s m ([.int (nI w0), .int (nI q0), .ref v]).toArray below meth c H locs 0 0 (MQ below (va_Qi (fun (r : Int32) (u : (Nat → Int32)) => sb_Fit u) (fun (u : (Nat → Int32)) t => xW (dC, dI) xCl [(v, eY cB mm u)] A t) A) ([.int (nI w0), .int (nI q0), .ref v]).toArray s 0 0 A) (F0 m 22 ls []) := by
    intro k
    induction k with
    | zero => intro w q f H locs ls hk; exact absurd hk (Nat.not_lt_zero _)
    | succ k ih_a =>
      intro w q f H locs ls hk hwb hq hqm hf hP hD hS hl
      have hd0 := (sb_dg_in w).1
      have hd1 := (sb_dg_in (w / 100)).1
      refine lv_iload_n hx hb dJ6_getChars_ba4f3_22 rfl (lv_at hl 0 rfl) ?_
      refine lv_bipush (v := (-100)) hx hb dJ6_getChars_ba4f3_23 (by decide +kernel) ?_
      refine lv_icmp_gt (tgt := 72) hx hb dJ6_getChars_ba4f3_25 (by decide +kernel) (fun c_1 => ?_) (fun c_1 => ?_)
      · skip
        have z_c_1 : w < 100 := (sb_nlt (a := 100) (b := w) (by decide +kernel) (by omega)).mp c_1
        refine lv_aload_n hx hb dJ6_getChars_ba4f3_72 rfl (lv_at hl 1 rfl) ?_
        refine lv_iinc (v := (nI (q - 1))) (lv' := [(5, .int (nI (q - 1))), (0, .int (-(nI w))), (2, .ref v), (6, .int 0)]) hx hb dJ6_getChars_ba4f3_73 hl (k := 2) rfl (sb_m1 (by omega)) (by decide +kernel) rfl (fun ls hl => ?_)
        refine lv_iload hx hb dJ6_getChars_ba4f3_76 (lv_at hl 0 rfl) ?_
        refine va_gets hx hb (va_Z.narrow hTo hAN) hS hown (hts (.fieldLink RJ6 83 "java/lang/Integer" "DigitOnes" "[B") (by decide +kernel)) (fun _ h9 => h9) dJ6_getChars_ba4f3_78 ?_
        refine lv_iload_n hx hb dJ6_getChars_ba4f3_81 rfl (lv_at hl 1 rfl) ?_
        refine lv_ineg hx hb dJ6_getChars_ba4f3_82 ?_
        rw [show ((-(-(nI w))) : Int32) = (nI w) from Int32.neg_neg]
        refine va_tb hx hb (va_T.narrow hTa hAN) hS (vp_in_nI (n := w) (N := 100) (by omega) (by decide +kernel)) rfl dJ6_getChars_ba4f3_83 ?_
        refine va_bast hx hb hK hP hD hS 0 0 rfl rfl (vp_in_nI (n := (q - 1)) (N := mm) (by omega) (by omega)) dJ6_getChars_ba4f3_84 (fun H locs hP hD hS => ?_)
        have hP : va_P (dC, dI) xCl [(v, eY cB mm (upd f (nI (q - 1)).toNatClampNeg (vp_nar .byte (fO (nI w).toNatClampNeg))))] H := hP
        have hD : va_D A [(v, eY cB mm (upd f (nI (q - 1)).toNatClampNeg (vp_nar .byte (fO (nI w).toNatClampNeg))))] := hD
        obtain ⟨f_2, hf_2⟩ : ∃ z : Nat → Int32, z = (upd f (nI (q - 1)).toNatClampNeg (vp_nar .byte (fO (nI w).toNatClampNeg))) := ⟨_, rfl⟩
        have hf_3 : sb_Fit f_2 := by rw [hf_2]; exact sb_fitU hf (sb_nar _)
        rw [← hf_2] at hP hD
        have hP : va_P (dC, dI) xCl [(v, eY cB mm f_2)] H := hP
        have hD : va_D A [(v, eY cB mm f_2)] := hD
        refine lv_iload_n hx hb dJ6_getChars_ba4f3_85 rfl (lv_at hl 1 rfl) ?_
        refine lv_bipush (v := (-9)) hx hb dJ6_getChars_ba4f3_86 (by decide +kernel) ?_
        refine lv_icmp_ge (tgt := 104) hx hb dJ6_getChars_ba4f3_88 (by decide +kernel) (fun c_4 => ?_) (fun c_4 => ?_)
        · skip
          have z_c_4 : w ≤ 9 := (sb_nle (a := 9) (b := w) (by decide +kernel) (by omega)).mp c_4
          refine lv_iload hx hb dJ6_getChars_ba4f3_104 (lv_at hl 3 rfl) ?_
          refine lv_if_eq (tgt := 118) hx hb dJ6_getChars_ba4f3_106 (by decide +kernel) (fun _ => ?_) (fun c9 => absurd c9 (by decide +kernel))
          refine lv_iload hx hb dJ6_getChars_ba4f3_118 (lv_at hl 0 rfl) ?_
          have hP := hP.sub (ws' := [(v, eY cB mm f_2)]) [0] rfl
          have hD := hD.sub (ws' := [(v, eY cB mm f_2)]) [0] (by decide +kernel) rfl
          refine W.widen (k := 0) (n := 0) (by omega) (by omega) ?_
          exact W.iret (v := (nI (q - 1))) hx hb hr (fun t ht hW => ⟨⟨_, f_2, rfl, hf_3, by rw [ht]; exact hP, hD⟩, hS.F ht⟩) hS.2.2 dJ6_getChars_ba4f3_120
        · skip
          have z_c_4 : ¬ w ≤ 9 := fun z => c_4 ((sb_nle (a := 9) (b := w) (by decide +kernel) (by omega)).mpr z)
          have hd3 := dg_10 (w := w) (by omega)
          refine lv_aload_n hx hb dJ6_getChars_ba4f3_91 rfl (lv_at hl 2 rfl) ?_
          refine lv_iinc (v := (nI ((q - 1) - 1))) (lv' := [(5, .int (nI ((q - 1) - 1))), (0, .int (-(nI w))), (2, .ref v), (6, .int 0)]) hx hb dJ6_getChars_ba4f3_92 hl (k := 0) rfl (sb_m1 (by omega)) (by decide +kernel) rfl (fun ls hl => ?_)
          refine lv_iload hx hb dJ6_getChars_ba4f3_95 (lv_at hl 0 rfl) ?_
          refine va_gets hx hb (va_Z.narrow hTt hAN) hS hown (hts (.fieldLink RJ6 87 "java/lang/Integer" "DigitTens" "[B") (by decide +kernel)) (fun _ h9 => h9) dJ6_getChars_ba4f3_97 ?_
          refine lv_iload_n hx hb dJ6_getChars_ba4f3_100 rfl (lv_at hl 1 rfl) ?_
          refine lv_ineg hx hb dJ6_getChars_ba4f3_101 ?_
          rw [show ((-(-(nI w))) : Int32) = (nI w) from Int32.neg_neg]
          refine va_tb hx hb (va_T.narrow hTb hAN) hS (vp_in_nI (n := w) (N := 100) (by omega) (by decide +kernel)) rfl dJ6_getChars_ba4f3_102 ?_
          refine va_bast hx hb hK hP hD hS 0 0 rfl rfl (vp_in_nI (n := ((q - 1) - 1)) (N := mm) (by omega) (by omega)) dJ6_getChars_ba4f3_103 (fun H locs hP hD hS => ?_)
          have hP : va_P (dC, dI) xCl [(v, eY cB mm (upd f_2 (nI ((q - 1) - 1)).toNatClampNeg (vp_nar .byte (fT (nI w).toNatClampNeg))))] H := hP
          have hD : va_D A [(v, eY cB mm (upd f_2 (nI ((q - 1) - 1)).toNatClampNeg (vp_nar .byte (fT (nI w).toNatClampNeg))))] := hD
          obtain ⟨f_5, hf_5⟩ : ∃ z : Nat → Int32, z = (upd f_2 (nI ((q - 1) - 1)).toNatClampNeg (vp_nar .byte (fT (nI w).toNatClampNeg))) := ⟨_, rfl⟩
          have hf_6 : sb_Fit f_5 := by rw [hf_5]; exact sb_fitU hf_3 (sb_nar _)
          rw [← hf_5] at hP hD
          have hP : va_P (dC, dI) xCl [(v, eY cB mm f_5)] H := hP
          have hD : va_D A [(v, eY cB mm f_5)] := hD
          refine lv_iload hx hb dJ6_getChars_ba4f3_104 (lv_at hl 3 rfl) ?_
          refine lv_if_eq (tgt := 118) hx hb dJ6_getChars_ba4f3_106 (by decide +kernel) (fun _ => ?_) (fun c9 => absurd c9 (by decide +kernel))
          refine lv_iload hx hb dJ6_getChars_ba4f3_118 (lv_at hl 0 rfl) ?_
          have hP := hP.sub (ws' := [(v, eY cB mm f_5)]) [0] rfl
          have hD := hD.sub (ws' := [(v, eY cB mm f_5)]) [0] (by decide +kernel) rfl
          refine W.widen (k := 0) (n := 0) (by omega) (by omega) ?_
          exact W.iret (v := (nI ((q - 1) - 1))) hx hb hr (fun t ht hW => ⟨⟨_, f_5, rfl, hf_6, by rw [ht]; exact hP, hD⟩, hS.F ht⟩) hS.2.2 dJ6_getChars_ba4f3_120
      · skip
        have z_c_1 : ¬ w < 100 := fun z => c_1 ((sb_nlt (a := 100) (b := w) (by decide +kernel) (by omega)).mpr z)
        have hd2 := sb_dg100 (w := w) (by omega) (by omega)
        refine lv_iload_n hx hb dJ6_getChars_ba4f3_28 rfl (lv_at hl 0 rfl) ?_
        refine lv_bipush (v := 100) hx hb dJ6_getChars_ba4f3_29 (by decide +kernel) ?_
        refine lv_idiv hx hb dJ6_getChars_ba4f3_31 (by decide +kernel) ?_
        rw [show (((-(nI w)) / 100) : Int32) = (-(nI (w / 100))) from sb_ndiv (by omega)]
        refine lv_istore_n (lv' := [(3, .int (-(nI (w / 100)))), (0, .int (-(nI w))), (2, .ref v), (5, .int (nI q)), (6, .int 0)]) hx hb dJ6_getChars_ba4f3_32 rfl hl (by decide +kernel) rfl (fun ls hl => ?_)
        refine lv_iload_n hx hb dJ6_getChars_ba4f3_33 rfl (lv_at hl 0 rfl) ?_
        refine lv_bipush (v := 100) hx hb dJ6_getChars_ba4f3_34 (by decide +kernel) ?_
        refine lv_imul hx hb dJ6_getChars_ba4f3_36 ?_
        refine lv_iload_n hx hb dJ6_getChars_ba4f3_37 rfl (lv_at hl 1 rfl) ?_
        refine lv_isub hx hb dJ6_getChars_ba4f3_38 ?_
        rw [show ((((-(nI (w / 100))) * 100) - (-(nI w))) : Int32) = (nI (w % 100)) from sb_nrem (by omega)]
        refine lv_istore (lv' := [(4, .int (nI (w % 100))), (3, .int (-(nI (w / 100)))), (0, .int (-(nI w))), (2, .ref v), (5, .int (nI q)), (6, .int 0)]) hx hb dJ6_getChars_ba4f3_39 hl (by decide +kernel) rfl (fun ls hl => ?_)
        refine lv_iload_n hx hb dJ6_getChars_ba4f3_41 rfl (lv_at hl 1 rfl) ?_
        refine lv_istore_n (lv' := [(0, .int (-(nI (w / 100)))), (4, .int (nI (w % 100))), (3, .int (-(nI (w / 100)))), (2, .ref v), (5, .int (nI q)), (6, .int 0)]) hx hb dJ6_getChars_ba4f3_42 rfl hl (by decide +kernel) rfl (fun ls hl => ?_)
        refine lv_aload_n hx hb dJ6_getChars_ba4f3_43 rfl (lv_at hl 3 rfl) ?_
        refine lv_iinc (v := (nI (q - 1))) (lv' := [(5, .int (nI (q - 1))), (0, .int (-(nI (w / 100)))), (4, .int (nI (w % 100))), (3, .int (-(nI (w / 100)))), (2, .ref v), (6, .int 0)]) hx hb dJ6_getChars_ba4f3_44 hl (k := 4) rfl (sb_m1 (by omega)) (by decide +kernel) rfl (fun ls hl => ?_)
        refine lv_iload hx hb dJ6_getChars_ba4f3_47 (lv_at hl 0 rfl) ?_
        refine va_gets hx hb (va_Z.narrow hTo hAN) hS hown (hts (.fieldLink RJ6 83 "java/lang/Integer" "DigitOnes" "[B") (by decide +kernel)) (fun _ h9 => h9) dJ6_getChars_ba4f3_49 ?_
        refine lv_iload hx hb dJ6_getChars_ba4f3_52 (lv_at hl 2 rfl) ?_
        refine va_tb hx hb (va_T.narrow hTa hAN) hS (vp_in_nI (n := (w % 100)) (N := 100) (by omega) (by decide +kernel)) rfl dJ6_getChars_ba4f3_54 ?_
        refine va_bast hx hb hK hP hD hS 0 0 rfl rfl (vp_in_nI (n := (q - 1)) (N := mm) (by omega) (by omega)) dJ6_getChars_ba4f3_55 (fun H locs hP hD hS => ?_)
        have hP : va_P (dC, dI) xCl [(v, eY cB mm (upd f (nI (q - 1)).toNatClampNeg (vp_nar .byte (fO (nI (w % 100)).toNatClampNeg))))] H := hP
        have hD : va_D A [(v, eY cB mm (upd f (nI (q - 1)).toNatClampNeg (vp_nar .byte (fO (nI (w % 100)).toNatClampNeg))))] := hD
        obtain ⟨f_7, hf_7⟩ : ∃ z : Nat → Int32, z = (upd f (nI (q - 1)).toNatClampNeg (vp_nar .byte (fO (nI (w % 100)).toNatClampNeg))) := ⟨_, rfl⟩
        have hf_8 : sb_Fit f_7 := by rw [hf_7]; exact sb_fitU hf (sb_nar _)
        rw [← hf_7] at hP hD
        have hP : va_P (dC, dI) xCl [(v, eY cB mm f_7)] H := hP
        have hD : va_D A [(v, eY cB mm f_7)] := hD
        refine lv_aload_n hx hb dJ6_getChars_ba4f3_56 rfl (lv_at hl 4 rfl) ?_
        refine lv_iinc (v := (nI ((q - 1) - 1))) (lv' := [(5, .int (nI ((q - 1) - 1))), (0, .int (-(nI (w / 100)))), (4, .int (nI (w % 100))), (3, .int (-(nI (w / 100)))), (2, .ref v), (6, .int 0)]) hx hb dJ6_getChars_ba4f3_57 hl (k := 0) rfl (sb_m1 (by omega)) (by decide +kernel) rfl (fun ls hl => ?_)
        refine lv_iload hx hb dJ6_getChars_ba4f3_60 (lv_at hl 0 rfl) ?_
        refine va_gets hx hb (va_Z.narrow hTt hAN) hS hown (hts (.fieldLink RJ6 87 "java/lang/Integer" "DigitTens" "[B") (by decide +kernel)) (fun _ h9 => h9) dJ6_getChars_ba4f3_62 ?_
        refine lv_iload hx hb dJ6_getChars_ba4f3_65 (lv_at hl 2 rfl) ?_
        refine va_tb hx hb (va_T.narrow hTb hAN) hS (vp_in_nI (n := (w % 100)) (N := 100) (by omega) (by decide +kernel)) rfl dJ6_getChars_ba4f3_67 ?_
        refine va_bast hx hb hK hP hD hS 0 0 rfl rfl (vp_in_nI (n := ((q - 1) - 1)) (N := mm) (by omega) (by omega)) dJ6_getChars_ba4f3_68 (fun H locs hP hD hS => ?_)
        have hP : va_P (dC, dI) xCl [(v, eY cB mm (upd f_7 (nI ((q - 1) - 1)).toNatClampNeg (vp_nar .byte (fT (nI (w % 100)).toNatClampNeg))))] H := hP
        have hD : va_D A [(v, eY cB mm (upd f_7 (nI ((q - 1) - 1)).toNatClampNeg (vp_nar .byte (fT (nI (w % 100)).toNatClampNeg))))] := hD
        obtain ⟨f_9, hf_9⟩ : ∃ z : Nat → Int32, z = (upd f_7 (nI ((q - 1) - 1)).toNatClampNeg (vp_nar .byte (fT (nI (w % 100)).toNatClampNeg))) := ⟨_, rfl⟩
        have hf_10 : sb_Fit f_9 := by rw [hf_9]; exact sb_fitU hf_8 (sb_nar _)
        rw [← hf_9] at hP hD
        have hP : va_P (dC, dI) xCl [(v, eY cB mm f_9)] H := hP
        have hD : va_D A [(v, eY cB mm f_9)] := hD
        refine lv_goto (tgt := 22) hx hb dJ6_getChars_ba4f3_69 (by decide +kernel) ?_
        exact ih_a (w / 100) ((q - 1) - 1) f_9 _ _ _ (by omega) (by omega) (by omega) (by omega) hf_10 hP hD hS (lv_sub hl [1, 4, 0, 5] rfl)
  exact loop_a (w0 + 1) w0 q0 f _ _ _ (by omega) (by omega) (by omega) (by omega) hf hP hD hS (lv_sub hl [0, 4, 2, 1] rfl)
set_option maxRecDepth 20000 in
theorem ggJ5_append_c97b9_J6_stringSize_0f7a4 : GoodIn wsJ5_append_c97b9 wsJ6_stringSize_0f7a4 := goodIn_r _ [6] (by decide +kernel) (by decide +kernel)
theorem cl_J5_append_c97b9_1 : ∀ w ∈ wsJ5_append_c97b9_r1, w ∈ wsJ5_append_c97b9 := fun _ h => (List.mem_cons_of_mem _ (List.mem_append_left _ (List.mem_append_left _ h)))
theorem cl_J5_append_c97b9_2 : ∀ w ∈ wsJ5_append_c97b9_r2, w ∈ wsJ5_append_c97b9 := fun _ h => (List.mem_cons_of_mem _ (List.mem_append_left _ (List.mem_append_right _ (List.mem_append_left _ h))))
theorem cl_J5_append_c97b9_3 : ∀ w ∈ wsJ5_append_c97b9_r3, w ∈ wsJ5_append_c97b9 := fun _ h => (List.mem_cons_of_mem _ (List.mem_append_left _ (List.mem_append_right _ (List.mem_append_right _ (List.mem_append_left _ h)))))
theorem cl_J5_append_c97b9_4 : ∀ w ∈ wsJ5_append_c97b9_r4, w ∈ wsJ5_append_c97b9 := fun _ h => (List.mem_cons_of_mem _ (List.mem_append_left _ (List.mem_append_right _ (List.mem_append_right _ (List.mem_append_right _ h)))))
theorem cl_J5_append_c97b9_5 : ∀ w ∈ wsJ40, w ∈ wsJ5_append_c97b9 := fun _ h => (List.mem_cons_of_mem _ (List.mem_append_right _ h))
set_option maxRecDepth 20000 in
theorem gJ5_append_c97b9_J6_stringSize_0f7a4 : GoodIn wsJ5_append_c97b9 (va_wsS RJ5 245 yJ6_stringSize_0f7a4 wsJ6_stringSize_0f7a4) := goodIn_app (goodIn_sub (List.forall_mem_cons.mpr ⟨(cl_J5_append_c97b9_1 _ (List.mem_of_getElem? (i := 2) rfl)), List.forall_mem_cons.mpr ⟨(cl_J5_append_c97b9_1 _ (List.mem_of_getElem? (i := 3) rfl)), List.forall_mem_cons.mpr ⟨(cl_J5_append_c97b9_1 _ (List.mem_of_getElem? (i := 4) rfl)), fun _ h => absurd h List.not_mem_nil⟩⟩⟩) (by decide +kernel)) ggJ5_append_c97b9_J6_stringSize_0f7a4
set_option maxRecDepth 20000 in
theorem ggJ5_append_c97b9_J5_ensureCapacityInternal_d00df : GoodIn wsJ5_append_c97b9 wsJ5_ensureCapacityInternal_d00df := goodIn_sub (List.forall_mem_cons.mpr ⟨(cl_J5_append_c97b9_1 _ (List.mem_of_getElem? (i := 11) rfl)), fun w h => (List.mem_append.mp h).elim ((fun w h => (List.mem_append.mp h).elim ((List.forall_mem_cons.mpr ⟨(cl_J5_append_c97b9_1 _ (List.mem_of_getElem? (i := 1) rfl)), List.forall_mem_cons.mpr ⟨(cl_J5_append_c97b9_1 _ (List.mem_of_getElem? (i := 12) rfl)), List.forall_mem_cons.mpr ⟨(cl_J5_append_c97b9_1 _ (List.mem_of_getElem? (i := 13) rfl)), List.forall_mem_cons.mpr ⟨(cl_J5_append_c97b9_1 _ (List.mem_of_getElem? (i := 14) rfl)), List.forall_mem_cons.mpr ⟨(cl_J5_append_c97b9_1 _ (List.mem_of_getElem? (i := 15) rfl)), List.forall_mem_cons.mpr ⟨(cl_J5_append_c97b9_1 _ (List.mem_of_getElem? (i := 16) rfl)), List.forall_mem_cons.mpr ⟨(cl_J5_append_c97b9_1 _ (List.mem_of_getElem? (i := 10) rfl)), List.forall_mem_cons.mpr ⟨(cl_J5_append_c97b9_1 _ (List.mem_of_getElem? (i := 17) rfl)), List.forall_mem_cons.mpr ⟨(cl_J5_append_c97b9_1 _ (List.mem_of_getElem? (i := 18) rfl)), List.forall_mem_cons.mpr ⟨(cl_J5_append_c97b9_1 _ (List.mem_of_getElem? (i := 19) rfl)), List.forall_mem_cons.mpr ⟨(cl_J5_append_c97b9_1 _ (List.mem_of_getElem? (i := 20) rfl)), List.forall_mem_cons.mpr ⟨(cl_J5_append_c97b9_1 _ (List.mem_of_getElem? (i := 21) rfl)), List.forall_mem_cons.mpr ⟨(cl_J5_append_c97b9_1 _ (List.mem_of_getElem? (i := 22) rfl)), List.forall_mem_cons.mpr ⟨(cl_J5_append_c97b9_1 _ (List.mem_of_getElem? (i := 23) rfl)), List.forall_mem_cons.mpr ⟨(cl_J5_append_c97b9_2 _ (List.mem_of_getElem? (i := 0) rfl)), List.forall_mem_cons.mpr ⟨(cl_J5_append_c97b9_2 _ (List.mem_of_getElem? (i := 1) rfl)), List.forall_mem_cons.mpr ⟨(cl_J5_append_c97b9_2 _ (List.mem_of_getElem? (i := 2) rfl)), List.forall_mem_cons.mpr ⟨(cl_J5_append_c97b9_2 _ (List.mem_of_getElem? (i := 3) rfl)), List.forall_mem_cons.mpr ⟨(cl_J5_append_c97b9_2 _ (List.mem_of_getElem? (i := 4) rfl)), List.forall_mem_cons.mpr ⟨(cl_J5_append_c97b9_2 _ (List.mem_of_getElem? (i := 5) rfl)), List.forall_mem_cons.mpr ⟨(cl_J5_append_c97b9_2 _ (List.mem_of_getElem? (i := 6) rfl)), List.forall_mem_cons.mpr ⟨(cl_J5_append_c97b9_2 _ (List.mem_of_getElem? (i := 7) rfl)), List.forall_mem_cons.mpr ⟨(cl_J5_append_c97b9_2 _ (List.mem_of_getElem? (i := 8) rfl)), List.forall_mem_cons.mpr ⟨(cl_J5_append_c97b9_2 _ (List.mem_of_getElem? (i := 9) rfl)), fun _ h => absurd h List.not_mem_nil⟩⟩⟩⟩⟩⟩⟩⟩⟩⟩⟩⟩⟩⟩⟩⟩⟩⟩⟩⟩⟩⟩⟩⟩) w) ((List.forall_mem_cons.mpr ⟨(cl_J5_append_c97b9_2 _ (List.mem_of_getElem? (i := 10) rfl)), List.forall_mem_cons.mpr ⟨(cl_J5_append_c97b9_2 _ (List.mem_of_getElem? (i := 11) rfl)), List.forall_mem_cons.mpr ⟨(cl_J5_append_c97b9_2 _ (List.mem_of_getElem? (i := 12) rfl)), List.forall_mem_cons.mpr ⟨(cl_J5_append_c97b9_2 _ (List.mem_of_getElem? (i := 13) rfl)), List.forall_mem_cons.mpr ⟨(cl_J5_append_c97b9_2 _ (List.mem_of_getElem? (i := 14) rfl)), List.forall_mem_cons.mpr ⟨(cl_J5_append_c97b9_2 _ (List.mem_of_getElem? (i := 15) rfl)), List.forall_mem_cons.mpr ⟨(cl_J5_append_c97b9_2 _ (List.mem_of_getElem? (i := 16) rfl)), List.forall_mem_cons.mpr ⟨(cl_J5_append_c97b9_2 _ (List.mem_of_getElem? (i := 17) rfl)), List.forall_mem_cons.mpr ⟨(cl_J5_append_c97b9_2 _ (List.mem_of_getElem? (i := 18) rfl)), List.forall_mem_cons.mpr ⟨(cl_J5_append_c97b9_2 _ (List.mem_of_getElem? (i := 19) rfl)), List.forall_mem_cons.mpr ⟨(cl_J5_append_c97b9_2 _ (List.mem_of_getElem? (i := 20) rfl)), List.forall_mem_cons.mpr ⟨(cl_J5_append_c97b9_2 _ (List.mem_of_getElem? (i := 21) rfl)), List.forall_mem_cons.mpr ⟨(cl_J5_append_c97b9_2 _ (List.mem_of_getElem? (i := 22) rfl)), List.forall_mem_cons.mpr ⟨(cl_J5_append_c97b9_2 _ (List.mem_of_getElem? (i := 23) rfl)), List.forall_mem_cons.mpr ⟨(cl_J5_append_c97b9_3 _ (List.mem_of_getElem? (i := 0) rfl)), fun _ h => absurd h List.not_mem_nil⟩⟩⟩⟩⟩⟩⟩⟩⟩⟩⟩⟩⟩⟩⟩) w)) w) ((cl_J5_append_c97b9_5) w)⟩) (by decide +kernel)
set_option maxRecDepth 20000 in
theorem gJ5_append_c97b9_J5_ensureCapacityInternal_d00df_u100J4 : GoodIn wsJ5_append_c97b9 (va_wsU RJ5 100 RJ4 "java/lang/AbstractStringBuilder" ⟨"java/lang/AbstractStringBuilder", "ensureCapacityInternal", "(I)V"⟩ yJ5_ensureCapacityInternal_d00df wsJ5_ensureCapacityInternal_d00df) := goodIn_app (goodIn_of _ (by decide +kernel)) ggJ5_append_c97b9_J5_ensureCapacityInternal_d00df
set_option maxRecDepth 20000 in
theorem ggJ5_append_c97b9_J5_isLatin1_aae02 : GoodIn wsJ5_append_c97b9 wsJ5_isLatin1_aae02 := goodIn_sub (List.forall_mem_cons.mpr ⟨(cl_J5_append_c97b9_3 _ (List.mem_of_getElem? (i := 5) rfl)), fun w h => (List.mem_append.mp h).elim ((List.forall_mem_cons.mpr ⟨(cl_J5_append_c97b9_3 _ (List.mem_of_getElem? (i := 6) rfl)), List.forall_mem_cons.mpr ⟨(cl_J5_append_c97b9_1 _ (List.mem_of_getElem? (i := 12) rfl)), fun _ h => absurd h List.not_mem_nil⟩⟩) w) ((cl_J5_append_c97b9_5) w)⟩) (by decide +kernel)
set_option maxRecDepth 20000 in
theorem gJ5_append_c97b9_J5_isLatin1_aae02_u83J4 : GoodIn wsJ5_append_c97b9 (va_wsU RJ5 83 RJ4 "java/lang/AbstractStringBuilder" ⟨"java/lang/AbstractStringBuilder", "isLatin1", "()Z"⟩ yJ5_isLatin1_aae02 wsJ5_isLatin1_aae02) := goodIn_app (goodIn_of _ (by decide +kernel)) ggJ5_append_c97b9_J5_isLatin1_aae02
set_option maxRecDepth 20000 in
theorem ggJ5_append_c97b9_J6_getChars_ba4f3 : GoodIn wsJ5_append_c97b9 wsJ6_getChars_ba4f3 := goodIn_sub (List.forall_mem_cons.mpr ⟨(cl_J5_append_c97b9_3 _ (List.mem_of_getElem? (i := 9) rfl)), List.forall_mem_cons.mpr ⟨(cl_J5_append_c97b9_3 _ (List.mem_of_getElem? (i := 10) rfl)), List.forall_mem_cons.mpr ⟨(cl_J5_append_c97b9_3 _ (List.mem_of_getElem? (i := 11) rfl)), fun _ h => absurd h List.not_mem_nil⟩⟩⟩) (by decide +kernel)
set_option maxRecDepth 20000 in
theorem gJ5_append_c97b9_J6_getChars_ba4f3 : GoodIn wsJ5_append_c97b9 (va_wsS RJ5 248 yJ6_getChars_ba4f3 wsJ6_getChars_ba4f3) := goodIn_app (goodIn_sub (List.forall_mem_cons.mpr ⟨(cl_J5_append_c97b9_3 _ (List.mem_of_getElem? (i := 7) rfl)), List.forall_mem_cons.mpr ⟨(cl_J5_append_c97b9_3 _ (List.mem_of_getElem? (i := 8) rfl)), List.forall_mem_cons.mpr ⟨(cl_J5_append_c97b9_1 _ (List.mem_of_getElem? (i := 4) rfl)), fun _ h => absurd h List.not_mem_nil⟩⟩⟩) (by decide +kernel)) ggJ5_append_c97b9_J6_getChars_ba4f3
set_option maxRecDepth 20000 in
theorem ggJ5_append_c97b9_J2_getChars_46870 : GoodIn wsJ5_append_c97b9 wsJ2_getChars_46870 := goodIn_sub (List.forall_mem_cons.mpr ⟨(cl_J5_append_c97b9_3 _ (List.mem_of_getElem? (i := 15) rfl)), fun w h => (List.mem_append.mp h).elim ((List.forall_mem_cons.mpr ⟨(cl_J5_append_c97b9_3 _ (List.mem_of_getElem? (i := 16) rfl)), List.forall_mem_cons.mpr ⟨(cl_J5_append_c97b9_3 _ (List.mem_of_getElem? (i := 17) rfl)), List.forall_mem_cons.mpr ⟨(cl_J5_append_c97b9_3 _ (List.mem_of_getElem? (i := 18) rfl)), List.forall_mem_cons.mpr ⟨(cl_J5_append_c97b9_3 _ (List.mem_of_getElem? (i := 14) rfl)), List.forall_mem_cons.mpr ⟨(cl_J5_append_c97b9_3 _ (List.mem_of_getElem? (i := 19) rfl)), List.forall_mem_cons.mpr ⟨(cl_J5_append_c97b9_3 _ (List.mem_of_getElem? (i := 20) rfl)), List.forall_mem_cons.mpr ⟨(cl_J5_append_c97b9_3 _ (List.mem_of_getElem? (i := 21) rfl)), List.forall_mem_cons.mpr ⟨(cl_J5_append_c97b9_3 _ (List.mem_of_getElem? (i := 22) rfl)), List.forall_mem_cons.mpr ⟨(cl_J5_append_c97b9_3 _ (List.mem_of_getElem? (i := 23) rfl)), List.forall_mem_cons.mpr ⟨(cl_J5_append_c97b9_4 _ (List.mem_of_getElem? (i := 0) rfl)), List.forall_mem_cons.mpr ⟨(cl_J5_append_c97b9_4 _ (List.mem_of_getElem? (i := 1) rfl)), List.forall_mem_cons.mpr ⟨(cl_J5_append_c97b9_4 _ (List.mem_of_getElem? (i := 2) rfl)), List.forall_mem_cons.mpr ⟨(cl_J5_append_c97b9_4 _ (List.mem_of_getElem? (i := 3) rfl)), List.forall_mem_cons.mpr ⟨(cl_J5_append_c97b9_4 _ (List.mem_of_getElem? (i := 4) rfl)), List.forall_mem_cons.mpr ⟨(cl_J5_append_c97b9_4 _ (List.mem_of_getElem? (i := 5) rfl)), List.forall_mem_cons.mpr ⟨(cl_J5_append_c97b9_4 _ (List.mem_of_getElem? (i := 6) rfl)), List.forall_mem_cons.mpr ⟨(cl_J5_append_c97b9_4 _ (List.mem_of_getElem? (i := 7) rfl)), List.forall_mem_cons.mpr ⟨(cl_J5_append_c97b9_4 _ (List.mem_of_getElem? (i := 8) rfl)), List.forall_mem_cons.mpr ⟨(cl_J5_append_c97b9_4 _ (List.mem_of_getElem? (i := 9) rfl)), List.forall_mem_cons.mpr ⟨(cl_J5_append_c97b9_4 _ (List.mem_of_getElem? (i := 10) rfl)), List.forall_mem_cons.mpr ⟨(cl_J5_append_c97b9_4 _ (List.mem_of_getElem? (i := 11) rfl)), List.forall_mem_cons.mpr ⟨(cl_J5_append_c97b9_4 _ (List.mem_of_getElem? (i := 12) rfl)), List.forall_mem_cons.mpr ⟨(cl_J5_append_c97b9_4 _ (List.mem_of_getElem? (i := 13) rfl)), List.forall_mem_cons.mpr ⟨(cl_J5_append_c97b9_4 _ (List.mem_of_getElem? (i := 14) rfl)), fun _ h => absurd h List.not_mem_nil⟩⟩⟩⟩⟩⟩⟩⟩⟩⟩⟩⟩⟩⟩⟩⟩⟩⟩⟩⟩⟩⟩⟩⟩) w) ((List.forall_mem_cons.mpr ⟨(cl_J5_append_c97b9_4 _ (List.mem_of_getElem? (i := 15) rfl)), List.forall_mem_cons.mpr ⟨(cl_J5_append_c97b9_4 _ (List.mem_of_getElem? (i := 16) rfl)), List.forall_mem_cons.mpr ⟨(cl_J5_append_c97b9_4 _ (List.mem_of_getElem? (i := 17) rfl)), fun _ h => absurd h List.not_mem_nil⟩⟩⟩) w)⟩) (by decide +kernel)
set_option maxRecDepth 20000 in
theorem gJ5_append_c97b9_J2_getChars_46870 : GoodIn wsJ5_append_c97b9 (va_wsS RJ5 251 yJ2_getChars_46870 wsJ2_getChars_46870) := goodIn_app (goodIn_sub (List.forall_mem_cons.mpr ⟨(cl_J5_append_c97b9_3 _ (List.mem_of_getElem? (i := 12) rfl)), List.forall_mem_cons.mpr ⟨(cl_J5_append_c97b9_3 _ (List.mem_of_getElem? (i := 13) rfl)), List.forall_mem_cons.mpr ⟨(cl_J5_append_c97b9_3 _ (List.mem_of_getElem? (i := 14) rfl)), fun _ h => absurd h List.not_mem_nil⟩⟩⟩) (by decide +kernel)) ggJ5_append_c97b9_J2_getChars_46870
noncomputable def dz_p04c_4 : List (Nat × Instr × Nat) := [(0, (.aload_n 0, 1)), (1, (.getfield 79, 3)), (4, (.istore_n 2, 1)), (5, (.iload_n 2, 1)), (6, (.iload_n 1, 1)), (7, (.invokestatic 245, 3)), (10, (.iadd, 1)), (11, (.istore_n 3, 1)), (12, (.aload_n 0, 1)), (13, (.iload_n 3, 1)), (14, (.invokevirtual 100, 3)), (17, (.aload_n 0, 1)), (18, (.invokevirtual 83, 3)), (21, (.ifCond .eq 16, 3)), (24, (.iload_n 1, 1)), (25, (.iload_n 3, 1)), (26, (.aload_n 0, 1)), (27, (.getfield 15, 3)), (30, (.invokestatic 248, 3)), (33, (.pop, 1)), (34, (.goto 14, 3)), (37, (.iload_n 1, 1)), (38, (.iload_n 2, 1)), (39, (.iload_n 3, 1)), (40, (.aload_n 0, 1)), (41, (.getfield 15, 3)), (44, (.invokestatic 251, 3)), (47, (.pop, 1)), (48, (.aload_n 0, 1)), (49, (.iload_n 3, 1)), (50, (.putfield 79, 3)), (53, (.aload_n 0, 1)), (54, (.areturn, 1))]
theorem dy_p04c_4 : dz_ok cJ5_append_c97b9 dz_p04c_4 = true := by decide +kernel
theorem dJ5_append_c97b9_0 : decode cJ5_append_c97b9 0 = .ok (.aload_n 0, 1) := dz_at (i := 0) dy_p04c_4 rfl
theorem dJ5_append_c97b9_1 : decode cJ5_append_c97b9 1 = .ok (.getfield 79, 3) := dz_at (i := 1) dy_p04c_4 rfl
theorem dJ5_append_c97b9_4 : decode cJ5_append_c97b9 4 = .ok (.istore_n 2, 1) := dz_at (i := 2) dy_p04c_4 rfl
theorem dJ5_append_c97b9_5 : decode cJ5_append_c97b9 5 = .ok (.iload_n 2, 1) := dz_at (i := 3) dy_p04c_4 rfl
theorem dJ5_append_c97b9_6 : decode cJ5_append_c97b9 6 = .ok (.iload_n 1, 1) := dz_at (i := 4) dy_p04c_4 rfl
theorem dJ5_append_c97b9_7 : decode cJ5_append_c97b9 7 = .ok (.invokestatic 245, 3) := dz_at (i := 5) dy_p04c_4 rfl
theorem dJ5_append_c97b9_10 : decode cJ5_append_c97b9 10 = .ok (.iadd, 1) := dz_at (i := 6) dy_p04c_4 rfl
theorem dJ5_append_c97b9_11 : decode cJ5_append_c97b9 11 = .ok (.istore_n 3, 1) := dz_at (i := 7) dy_p04c_4 rfl
theorem dJ5_append_c97b9_12 : decode cJ5_append_c97b9 12 = .ok (.aload_n 0, 1) := dz_at (i := 8) dy_p04c_4 rfl
theorem dJ5_append_c97b9_13 : decode cJ5_append_c97b9 13 = .ok (.iload_n 3, 1) := dz_at (i := 9) dy_p04c_4 rfl
theorem dJ5_append_c97b9_14 : decode cJ5_append_c97b9 14 = .ok (.invokevirtual 100, 3) := dz_at (i := 10) dy_p04c_4 rfl
theorem dJ5_append_c97b9_17 : decode cJ5_append_c97b9 17 = .ok (.aload_n 0, 1) := dz_at (i := 11) dy_p04c_4 rfl
theorem dJ5_append_c97b9_18 : decode cJ5_append_c97b9 18 = .ok (.invokevirtual 83, 3) := dz_at (i := 12) dy_p04c_4 rfl
theorem dJ5_append_c97b9_21 : decode cJ5_append_c97b9 21 = .ok (.ifCond .eq 16, 3) := dz_at (i := 13) dy_p04c_4 rfl
theorem dJ5_append_c97b9_24 : decode cJ5_append_c97b9 24 = .ok (.iload_n 1, 1) := dz_at (i := 14) dy_p04c_4 rfl
theorem dJ5_append_c97b9_25 : decode cJ5_append_c97b9 25 = .ok (.iload_n 3, 1) := dz_at (i := 15) dy_p04c_4 rfl
theorem dJ5_append_c97b9_26 : decode cJ5_append_c97b9 26 = .ok (.aload_n 0, 1) := dz_at (i := 16) dy_p04c_4 rfl
theorem dJ5_append_c97b9_27 : decode cJ5_append_c97b9 27 = .ok (.getfield 15, 3) := dz_at (i := 17) dy_p04c_4 rfl
theorem dJ5_append_c97b9_30 : decode cJ5_append_c97b9 30 = .ok (.invokestatic 248, 3) := dz_at (i := 18) dy_p04c_4 rfl
theorem dJ5_append_c97b9_33 : decode cJ5_append_c97b9 33 = .ok (.pop, 1) := dz_at (i := 19) dy_p04c_4 rfl
theorem dJ5_append_c97b9_34 : decode cJ5_append_c97b9 34 = .ok (.goto 14, 3) := dz_at (i := 20) dy_p04c_4 rfl
theorem dJ5_append_c97b9_37 : decode cJ5_append_c97b9 37 = .ok (.iload_n 1, 1) := dz_at (i := 21) dy_p04c_4 rfl
theorem dJ5_append_c97b9_38 : decode cJ5_append_c97b9 38 = .ok (.iload_n 2, 1) := dz_at (i := 22) dy_p04c_4 rfl
theorem dJ5_append_c97b9_39 : decode cJ5_append_c97b9 39 = .ok (.iload_n 3, 1) := dz_at (i := 23) dy_p04c_4 rfl
theorem dJ5_append_c97b9_40 : decode cJ5_append_c97b9 40 = .ok (.aload_n 0, 1) := dz_at (i := 24) dy_p04c_4 rfl
theorem dJ5_append_c97b9_41 : decode cJ5_append_c97b9 41 = .ok (.getfield 15, 3) := dz_at (i := 25) dy_p04c_4 rfl
theorem dJ5_append_c97b9_44 : decode cJ5_append_c97b9 44 = .ok (.invokestatic 251, 3) := dz_at (i := 26) dy_p04c_4 rfl
theorem dJ5_append_c97b9_47 : decode cJ5_append_c97b9 47 = .ok (.pop, 1) := dz_at (i := 27) dy_p04c_4 rfl
theorem dJ5_append_c97b9_48 : decode cJ5_append_c97b9 48 = .ok (.aload_n 0, 1) := dz_at (i := 28) dy_p04c_4 rfl
theorem dJ5_append_c97b9_49 : decode cJ5_append_c97b9 49 = .ok (.iload_n 3, 1) := dz_at (i := 29) dy_p04c_4 rfl
theorem dJ5_append_c97b9_50 : decode cJ5_append_c97b9 50 = .ok (.putfield 79, 3) := dz_at (i := 30) dy_p04c_4 rfl
theorem dJ5_append_c97b9_53 : decode cJ5_append_c97b9 53 = .ok (.aload_n 0, 1) := dz_at (i := 31) dy_p04c_4 rfl
theorem dJ5_append_c97b9_54 : decode cJ5_append_c97b9 54 = .ok (.areturn, 1) := dz_at (i := 32) dy_p04c_4 rfl
set_option maxHeartbeats 4000000 in
set_option maxRecDepth 100000 in
theorem k_J5_append_c97b9 (l : Launch) (dC : Nat → ClassId) (dI : Nat → Nat → Nat) (cB : ClassId) (h : Nat) (v : Nat) (n : Nat) (mm : Nat) (f : Nat → Int32) (w : Nat) (sz N : Nat) (hm : mm = 16 ∨ mm = 34) (hf : sb_Fit f) (hwb : w < 2 ^ 31) (hn : n + sb_dg w ≤ 34) : Met l yJ5_append_c97b9 wsJ5_append_c97b9 ({ frames := 4, cells := 1, slots := 34, locals := 144 }) (va_Pc [.ref h, .int (nI w)] (xT (dC, dI) xCl [(h, eB v (nI n)), (v, eY cB mm f)] [(cB, .byte)] sz N)) (va_Qr (fun (u : Nat × Nat × (Nat → Int32)) => (u.2.1 = 16 ∨ u.2.1 = 34) ∧ n + sb_dg w ≤ u.2.1 ∧ sb_Fit u.2.2) (fun (u : Nat × Nat × (Nat → Int32)) a t => a = h ∧ xW (dC, dI) xCl [(h, eB u.1 (nI (n + sb_dg w))), (u.1, eY cB u.2.1 u.2.2)] (va_A [(h, eB v (nI n)), (v, eY cB mm f)] sz) t) (va_A [(h, eB v (nI n)), (v, eY cB mm f)] sz)) 1 34 (va_A [(h, eB v (nI n)), (v, eY cB mm f)] sz) := by
  refine Met.ofW (cc := cJ5_append_c97b9) (maxL := 4) (ret := (some (.object "java/lang/AbstractStringBuilder"))) (by decide +kernel) rfl ?_
  intro p e s m args below meth c s₁ B hml hv
  obtain ⟨rfl, ⟨hsz, hP, hK, hD0, hN, hG⟩, hT⟩ := hv
  have hx := B.exec
  have hb := B.bytes
  have hr := B.returns
  have hts := atoms_spec (ws := wsJ5_append_c97b9) B.pre
  have hown : s.vm.findClass RJ5 = some m.cls := findClass_of_methodNamed B.named
  have hlocks := B.notSynchronized
  subst hsz
  have hAN : ∀ q, va_A [(h, eB v (nI n)), (v, eY cB mm f)] s.heap.size q → N ≤ q := xA_N hD0 hN
  have hD := hD0.self (sz := s.heap.size)
  generalize hAe : va_A [(h, eB v (nI n)), (v, eY cB mm f)] s.heap.size = A at hD hAN ⊢
  have hA : ∀ q : Nat, s.heap.size ≤ q → A q := fun q h => by rw [← hAe]; exact Or.inr h
  have hS : va_S A s.heap s.heap [] := va_S.rf
  have hP : va_P (dC, dI) xCl [(h, eB v (nI n)), (v, eY cB mm f)] s.heap := hP
  obtain ⟨hTc, ⟨tO, tT, fO, fT, hTo, hTt, hTa, hTb, hTf, hTg⟩, ⟨adK, adV, hTs, hTr0, hTr1, hTr2⟩, ⟨aE, hTe⟩, hTn⟩ := id hT
  have hl := lv_entry ([.ref h, .int (nI w)]) (n := 4) (Nat.le_of_ble_eq_true rfl)
  rw [lg_entry_eq]
  generalize (lg_sl ([.ref h, .int (nI w)]) ++ List.replicate (4 - (lg_sl ([.ref h, .int (nI w)])).length) Slot.unset).toArray = ls at hl ⊢
  have hl : lv_has ls 4 [(0, .ref h), (1, .int (nI w))] := hl
  refine lv_aload_n hx hb dJ5_append_c97b9_0 rfl (lv_at hl 0 rfl) ?_
  refine va_get (D := (dC, dI)) (ci := 1) (v := .int (nI n)) (C := RJ4) (T := TJ4) (N := 4) hx hb hts (by decide +kernel) hown hK hP 0 rfl rfl 3 (by decide +kernel) (hts (.fieldLink RJ5 79 "java/lang/AbstractStringBuilder" "count" "I") (by decide +kernel)) (fun _ h9 => h9) rfl dJ5_append_c97b9_1 ?_
  refine lv_istore_n (lv' := [(2, .int (nI n)), (0, .ref h), (1, .int (nI w))]) hx hb dJ5_append_c97b9_4 rfl hl (by decide +kernel) rfl (fun ls hl => ?_)
  refine lv_iload_n hx hb dJ5_append_c97b9_5 rfl (lv_at hl 0 rfl) ?_
  refine lv_iload_n hx hb dJ5_append_c97b9_6 rfl (lv_at hl 2 rfl) ?_
  have hPc := xP_nil (D := (dC, dI)) (cl := xCl) (H := s.heap)
  have hDc := xD_nil (A := A)
  have hKc := hK.sub (tys' := [(cB, .byte)]) [0] rfl
  have hFc := va_free (wc := []) hD hS hA [] rfl
  refine va_calli (va_runS (As := [.int (nI w)]) (rest := [.int (nI n)]) ⟨hx, hb, hml, hown, hts⟩ (k_J6_stringSize_0f7a4 l dC dI cB w s.heap.size N (by omega)) (va_cwS 1 hts gJ5_append_c97b9_J6_stringSize_0f7a4 rfl rfl rfl (by decide +kernel) ⟨Nat.le_of_ble_eq_true rfl, Nat.le_of_ble_eq_true rfl⟩) (xT.preS hKc hPc hDc hAN (Nat.le_trans hN hS.1) (hG.kept hS hAN) (hT.kept hS hAN)) rfl rfl hl.1 rfl (lv_room (Nat.le_of_ble_eq_true rfl)) dJ5_append_c97b9_7 ⟨(show _ ≤ 1 by omega), (show _ ≤ 34 by omega)⟩) hS (fun q _ h => hFc q h) hFc (fun r_1 u_2 t H locs ht hvm hw hB hz hk hS => ?_)
  obtain ⟨hP1, hD1⟩ := hB
  rw [ht] at hP1
  obtain ⟨hP, hD⟩ := va_join (wr := [(h, eB v (nI n)), (v, eY cB mm f)]) (w1 := []) hP hD [] [0, 1] rfl rfl (by decide +kernel) (by decide +kernel) hk hFc hP1 hD1
  have hP : va_P (dC, dI) xCl [(h, eB v (nI n)), (v, eY cB mm f)] H := hP
  have hD : va_D A [(h, eB v (nI n)), (v, eY cB mm f)] := hD
  have hw : r_1 = (nI (sb_dg w)) := hw
  rw [hw]
  refine lv_iadd hx hb dJ5_append_c97b9_10 ?_
  rw [show (((nI n) + (nI (sb_dg w))) : Int32) = (nI (n + sb_dg w)) from nI_add _ _]
  refine lv_istore_n (lv' := [(3, .int (nI (n + sb_dg w))), (2, .int (nI n)), (0, .ref h), (1, .int (nI w))]) hx hb dJ5_append_c97b9_11 rfl hl (by decide +kernel) rfl (fun ls hl => ?_)
  refine lv_aload_n hx hb dJ5_append_c97b9_12 rfl (lv_at hl 2 rfl) ?_
  refine lv_iload_n hx hb dJ5_append_c97b9_13 rfl (lv_at hl 0 rfl) ?_
  have hPc := hP.sub (ws' := [(h, eB v (nI n)), (v, eY cB mm f)]) [0, 1] rfl
  have hDc := hD.sub (ws' := [(h, eB v (nI n)), (v, eY cB mm f)]) [0, 1] (by decide +kernel) rfl
  have hKc := hK.sub (tys' := [(cB, .byte)]) [0] rfl
  have hFc := va_free (wc := [(h, eB v (nI n)), (v, eY cB mm f)]) hD hS hA [0, 1] rfl
  refine va_callv (va_runU (As := [.int (nI (n + sb_dg w))]) (rest := []) ⟨hx, hb, hml, hown, hts⟩ (k_J5_ensureCapacityInternal_d00df l dC dI cB h v (nI n) mm f (n + sb_dg w) H.size N hm hf (by omega)) (va_cwU 1 hts gJ5_append_c97b9_J5_ensureCapacityInternal_d00df_u100J4 rfl rfl rfl rfl (by decide +kernel) ⟨Nat.le_of_ble_eq_true rfl, Nat.le_of_ble_eq_true rfl⟩) (xT.preV hKc hPc hDc hAN (Nat.le_trans hN hS.1) (hG.kept hS hAN) (hT.kept hS hAN) (ci := 1) (q0 := 0) rfl rfl) rfl rfl hl.1 rfl (lv_room (Nat.le_of_ble_eq_true rfl)) dJ5_append_c97b9_14 ⟨(show _ ≤ 1 by omega), (show _ ≤ 34 by omega)⟩) hS (fun q _ h => hFc q h) hFc (fun u_7 t H locs ht hvm hw hB hz hk hS => ?_)
  obtain ⟨hP1, hD1⟩ := hB
  rw [ht] at hP1
  obtain ⟨v2_3, m2_4, f2_5⟩ := u_7
  obtain ⟨hP, hD⟩ := va_join (wr := []) (w1 := [(h, eB v2_3 (nI n)), (v2_3, eY cB m2_4 f2_5)]) hP hD [0, 1] [] rfl rfl (by decide +kernel) (by decide +kernel) hk hFc hP1 hD1
  have hP : va_P (dC, dI) xCl [(h, eB v2_3 (nI n)), (v2_3, eY cB m2_4 f2_5)] H := hP
  have hD : va_D A [(h, eB v2_3 (nI n)), (v2_3, eY cB m2_4 f2_5)] := hD
  obtain ⟨hm_m2_4, hq_m2_4, hf_m2_4⟩ : (m2_4 = 16 ∨ m2_4 = 34) ∧ (n + sb_dg w) ≤ m2_4 ∧ sb_Fit f2_5 := hw
  refine lv_aload_n hx hb dJ5_append_c97b9_17 rfl (lv_at hl 2 rfl) ?_
  have hPc := hP.sub (ws' := [(h, eB v2_3 (nI n))]) [0] rfl
  have hDc := hD.sub (ws' := [(h, eB v2_3 (nI n))]) [0] (by decide +kernel) rfl
  have hKc := hK.sub (tys' := [(cB, .byte)]) [0] rfl
  have hFc := va_free (wc := [(h, eB v2_3 (nI n))]) hD hS hA [0] rfl
  refine va_calli (va_runU (As := []) (rest := []) ⟨hx, hb, hml, hown, hts⟩ (k_J5_isLatin1_aae02 l dC dI cB h v2_3 (nI n) H.size N) (va_cwU 0 hts gJ5_append_c97b9_J5_isLatin1_aae02_u83J4 rfl rfl rfl rfl (by decide +kernel) ⟨Nat.le_of_ble_eq_true rfl, Nat.le_of_ble_eq_true rfl⟩) (xT.preV hKc hPc hDc hAN (Nat.le_trans hN hS.1) (hG.kept hS hAN) (hT.kept hS hAN) (ci := 1) (q0 := 0) rfl rfl) rfl rfl hl.1 rfl (lv_room (Nat.le_of_ble_eq_true rfl)) dJ5_append_c97b9_18 ⟨(show _ ≤ 1 by omega), (show _ ≤ 34 by omega)⟩) hS (fun q _ h => hFc q h) hFc (fun r_9 u_10 t H locs ht hvm hw hB hz hk hS => ?_)
  obtain ⟨hP1, hD1⟩ := hB
  rw [ht] at hP1
  obtain ⟨hP, hD⟩ := va_join (wr := [(v2_3, eY cB m2_4 f2_5)]) (w1 := [(h, eB v2_3 (nI n))]) hP hD [0] [1] rfl rfl (by decide +kernel) (by decide +kernel) hk hFc hP1 hD1
  have hP : va_P (dC, dI) xCl [(v2_3, eY cB m2_4 f2_5), (h, eB v2_3 (nI n))] H := hP
  have hD : va_D A [(v2_3, eY cB m2_4 f2_5), (h, eB v2_3 (nI n))] := hD
  have hw : r_9 = 1 := hw
  rw [hw]
  refine lv_if_eq (tgt := 37) hx hb dJ5_append_c97b9_21 (by decide +kernel) (fun c9 => absurd c9 (by decide +kernel)) (fun _ => ?_)
  refine lv_iload_n hx hb dJ5_append_c97b9_24 rfl (lv_at hl 3 rfl) ?_
  refine lv_iload_n hx hb dJ5_append_c97b9_25 rfl (lv_at hl 0 rfl) ?_
  refine lv_aload_n hx hb dJ5_append_c97b9_26 rfl (lv_at hl 2 rfl) ?_
  refine va_get (D := (dC, dI)) (ci := 1) (v := .ref v2_3) (C := RJ4) (T := TJ4) (N := 4) hx hb hts (by decide +kernel) hown hK hP 1 rfl rfl 0 (by decide +kernel) (hts (.fieldLink RJ5 15 "java/lang/AbstractStringBuilder" "value" "[B") (by decide +kernel)) (fun _ h9 => h9) rfl dJ5_append_c97b9_27 ?_
  have hPc := hP.sub (ws' := [(v2_3, eY cB m2_4 f2_5)]) [0] rfl
  have hDc := hD.sub (ws' := [(v2_3, eY cB m2_4 f2_5)]) [0] (by decide +kernel) rfl
  have hKc := hK.sub (tys' := [(cB, .byte)]) [0] rfl
  have hFc := va_free (wc := [(v2_3, eY cB m2_4 f2_5)]) hD hS hA [0] rfl
  refine va_calli (va_runS (As := [.int (nI w), .int (nI (n + sb_dg w)), .ref v2_3]) (rest := []) ⟨hx, hb, hml, hown, hts⟩ (k_J6_getChars_ba4f3 l dC dI cB w (n + sb_dg w) v2_3 m2_4 f2_5 H.size N (by omega) (by omega) (by omega) (by omega) hf_m2_4) (va_cwS 3 hts gJ5_append_c97b9_J6_getChars_ba4f3 rfl rfl rfl (by decide +kernel) ⟨Nat.le_of_ble_eq_true rfl, Nat.le_of_ble_eq_true rfl⟩) (xT.preS hKc hPc hDc hAN (Nat.le_trans hN hS.1) (hG.kept hS hAN) (hT.kept hS hAN)) rfl rfl hl.1 rfl (lv_room (Nat.le_of_ble_eq_true rfl)) dJ5_append_c97b9_30 ⟨(show _ ≤ 1 by omega), (show _ ≤ 34 by omega)⟩) hS (fun q _ h => hFc q h) hFc (fun r_12 u_13 t H locs ht hvm hw hB hz hk hS => ?_)
  obtain ⟨hP1, hD1⟩ := hB
  rw [ht] at hP1
  obtain ⟨f2_11, rfl⟩ : ∃ z, z = u_13 := ⟨_, rfl⟩
  obtain ⟨hP, hD⟩ := va_join (wr := [(h, eB v2_3 (nI n))]) (w1 := [(v2_3, eY cB m2_4 f2_11)]) hP hD [0] [1] rfl rfl (by decide +kernel) (by decide +kernel) hk hFc hP1 hD1
  have hP : va_P (dC, dI) xCl [(h, eB v2_3 (nI n)), (v2_3, eY cB m2_4 f2_11)] H := hP
  have hD : va_D A [(h, eB v2_3 (nI n)), (v2_3, eY cB m2_4 f2_11)] := hD
  have hf_f2_11 : sb_Fit f2_11 := hw
  refine lv_pop hx hb dJ5_append_c97b9_33 rfl ?_
  refine lv_goto (tgt := 48) hx hb dJ5_append_c97b9_34 (by decide +kernel) ?_
  refine lv_aload_n hx hb dJ5_append_c97b9_48 rfl (lv_at hl 2 rfl) ?_
  refine lv_iload_n hx hb dJ5_append_c97b9_49 rfl (lv_at hl 0 rfl) ?_
  refine va_put (D := (dC, dI)) (ci := 1) (v := .int (nI (n + sb_dg w))) (ty := .int) (C := RJ4) (T := TJ4) (N := 4) hx hb hts (by decide +kernel) tyJ4 tyJ4_ok nmJ4 hown hK hP hD hS 0 rfl rfl 3 (by decide +kernel) (hts (.fieldLink RJ5 79 "java/lang/AbstractStringBuilder" "count" "I") (by decide +kernel)) (fun _ h9 => h9) rfl (by decide +kernel) rfl rfl (Nat.le_of_ble_eq_true rfl) dJ5_append_c97b9_50 (fun H locs hP hD hS => ?_)
  have hP : va_P (dC, dI) xCl [(h, eB v2_3 (nI (n + sb_dg w))), (v2_3, eY cB m2_4 f2_11)] H := hP
  have hD : va_D A [(h, eB v2_3 (nI (n + sb_dg w))), (v2_3, eY cB m2_4 f2_11)] := hD
  refine lv_aload_n hx hb dJ5_append_c97b9_53 rfl (lv_at hl 2 rfl) ?_
  have hP := hP.sub (ws' := [(h, eB v2_3 (nI (n + sb_dg w))), (v2_3, eY cB m2_4 f2_11)]) [0, 1] rfl
  have hD := hD.sub (ws' := [(h, eB v2_3 (nI (n + sb_dg w))), (v2_3, eY cB m2_4 f2_11)]) [0, 1] (by decide +kernel) rfl
  refine W.widen (k := 1) (n := 34) (by omega) (by omega) ?_
  exact W.aret (v := .ref h) hx hb hr (Or.inl ⟨_, rfl⟩) (Or.inr ⟨_, rfl⟩) (fun t ht hW => ⟨⟨(v2_3, m2_4, f2_11), _, rfl, ⟨hm_m2_4, hq_m2_4, hf_f2_11⟩, ⟨rfl, by rw [ht]; exact hP, hD⟩⟩, hS.F ht⟩) hS.2.2 dJ5_append_c97b9_54
theorem cl_J4_append_bf812_1 : ∀ w ∈ wsJ4_append_bf812_r1, w ∈ wsJ4_append_bf812 := fun _ h => (List.mem_cons_of_mem _ (List.mem_append_left _ (List.mem_append_left _ h)))
theorem cl_J4_append_bf812_2 : ∀ w ∈ wsJ4_append_bf812_r2, w ∈ wsJ4_append_bf812 := fun _ h => (List.mem_cons_of_mem _ (List.mem_append_left _ (List.mem_append_right _ (List.mem_append_left _ h))))
theorem cl_J4_append_bf812_3 : ∀ w ∈ wsJ4_append_bf812_r3, w ∈ wsJ4_append_bf812 := fun _ h => (List.mem_cons_of_mem _ (List.mem_append_left _ (List.mem_append_right _ (List.mem_append_right _ (List.mem_append_left _ h)))))
theorem cl_J4_append_bf812_4 : ∀ w ∈ wsJ4_append_bf812_r4, w ∈ wsJ4_append_bf812 := fun _ h => (List.mem_cons_of_mem _ (List.mem_append_left _ (List.mem_append_right _ (List.mem_append_right _ (List.mem_append_right _ h)))))
theorem cl_J4_append_bf812_5 : ∀ w ∈ wsJ40, w ∈ wsJ4_append_bf812 := fun _ h => (List.mem_cons_of_mem _ (List.mem_append_right _ h))
set_option maxRecDepth 20000 in
theorem ggJ4_append_bf812_J5_append_c97b9 : GoodIn wsJ4_append_bf812 wsJ5_append_c97b9 := goodIn_sub (List.forall_mem_cons.mpr ⟨(cl_J4_append_bf812_1 _ (List.mem_of_getElem? (i := 5) rfl)), fun w h => (List.mem_append.mp h).elim ((fun w h => (List.mem_append.mp h).elim ((List.forall_mem_cons.mpr ⟨(cl_J4_append_bf812_1 _ (List.mem_of_getElem? (i := 6) rfl)), List.forall_mem_cons.mpr ⟨(cl_J4_append_bf812_1 _ (List.mem_of_getElem? (i := 7) rfl)), List.forall_mem_cons.mpr ⟨(cl_J4_append_bf812_1 _ (List.mem_of_getElem? (i := 8) rfl)), List.forall_mem_cons.mpr ⟨(cl_J4_append_bf812_1 _ (List.mem_of_getElem? (i := 9) rfl)), List.forall_mem_cons.mpr ⟨(cl_J4_append_bf812_1 _ (List.mem_of_getElem? (i := 10) rfl)), List.forall_mem_cons.mpr ⟨(cl_J4_append_bf812_1 _ (List.mem_of_getElem? (i := 11) rfl)), List.forall_mem_cons.mpr ⟨(cl_J4_append_bf812_1 _ (List.mem_of_getElem? (i := 12) rfl)), List.forall_mem_cons.mpr ⟨(cl_J4_append_bf812_1 _ (List.mem_of_getElem? (i := 13) rfl)), List.forall_mem_cons.mpr ⟨(cl_J4_append_bf812_1 _ (List.mem_of_getElem? (i := 14) rfl)), List.forall_mem_cons.mpr ⟨(cl_J4_append_bf812_1 _ (List.mem_of_getElem? (i := 15) rfl)), List.forall_mem_cons.mpr ⟨(cl_J4_append_bf812_1 _ (List.mem_of_getElem? (i := 4) rfl)), List.forall_mem_cons.mpr ⟨(cl_J4_append_bf812_1 _ (List.mem_of_getElem? (i := 16) rfl)), List.forall_mem_cons.mpr ⟨(cl_J4_append_bf812_1 _ (List.mem_of_getElem? (i := 17) rfl)), List.forall_mem_cons.mpr ⟨(cl_J4_append_bf812_1 _ (List.mem_of_getElem? (i := 18) rfl)), List.forall_mem_cons.mpr ⟨(cl_J4_append_bf812_1 _ (List.mem_of_getElem? (i := 19) rfl)), List.forall_mem_cons.mpr ⟨(cl_J4_append_bf812_1 _ (List.mem_of_getElem? (i := 20) rfl)), List.forall_mem_cons.mpr ⟨(cl_J4_append_bf812_1 _ (List.mem_of_getElem? (i := 21) rfl)), List.forall_mem_cons.mpr ⟨(cl_J4_append_bf812_1 _ (List.mem_of_getElem? (i := 22) rfl)), List.forall_mem_cons.mpr ⟨(cl_J4_append_bf812_1 _ (List.mem_of_getElem? (i := 23) rfl)), List.forall_mem_cons.mpr ⟨(cl_J4_append_bf812_2 _ (List.mem_of_getElem? (i := 0) rfl)), List.forall_mem_cons.mpr ⟨(cl_J4_append_bf812_2 _ (List.mem_of_getElem? (i := 1) rfl)), List.forall_mem_cons.mpr ⟨(cl_J4_append_bf812_2 _ (List.mem_of_getElem? (i := 2) rfl)), List.forall_mem_cons.mpr ⟨(cl_J4_append_bf812_2 _ (List.mem_of_getElem? (i := 3) rfl)), List.forall_mem_cons.mpr ⟨(cl_J4_append_bf812_2 _ (List.mem_of_getElem? (i := 4) rfl)), fun _ h => absurd h List.not_mem_nil⟩⟩⟩⟩⟩⟩⟩⟩⟩⟩⟩⟩⟩⟩⟩⟩⟩⟩⟩⟩⟩⟩⟩⟩) w) ((fun w h => (List.mem_append.mp h).elim ((List.forall_mem_cons.mpr ⟨(cl_J4_append_bf812_2 _ (List.mem_of_getElem? (i := 5) rfl)), List.forall_mem_cons.mpr ⟨(cl_J4_append_bf812_2 _ (List.mem_of_getElem? (i := 6) rfl)), List.forall_mem_cons.mpr ⟨(cl_J4_append_bf812_2 _ (List.mem_of_getElem? (i := 7) rfl)), List.forall_mem_cons.mpr ⟨(cl_J4_append_bf812_2 _ (List.mem_of_getElem? (i := 8) rfl)), List.forall_mem_cons.mpr ⟨(cl_J4_append_bf812_2 _ (List.mem_of_getElem? (i := 9) rfl)), List.forall_mem_cons.mpr ⟨(cl_J4_append_bf812_2 _ (List.mem_of_getElem? (i := 10) rfl)), List.forall_mem_cons.mpr ⟨(cl_J4_append_bf812_2 _ (List.mem_of_getElem? (i := 11) rfl)), List.forall_mem_cons.mpr ⟨(cl_J4_append_bf812_2 _ (List.mem_of_getElem? (i := 12) rfl)), List.forall_mem_cons.mpr ⟨(cl_J4_append_bf812_2 _ (List.mem_of_getElem? (i := 13) rfl)), List.forall_mem_cons.mpr ⟨(cl_J4_append_bf812_2 _ (List.mem_of_getElem? (i := 14) rfl)), List.forall_mem_cons.mpr ⟨(cl_J4_append_bf812_2 _ (List.mem_of_getElem? (i := 15) rfl)), List.forall_mem_cons.mpr ⟨(cl_J4_append_bf812_2 _ (List.mem_of_getElem? (i := 16) rfl)), List.forall_mem_cons.mpr ⟨(cl_J4_append_bf812_2 _ (List.mem_of_getElem? (i := 17) rfl)), List.forall_mem_cons.mpr ⟨(cl_J4_append_bf812_2 _ (List.mem_of_getElem? (i := 18) rfl)), List.forall_mem_cons.mpr ⟨(cl_J4_append_bf812_2 _ (List.mem_of_getElem? (i := 19) rfl)), List.forall_mem_cons.mpr ⟨(cl_J4_append_bf812_2 _ (List.mem_of_getElem? (i := 20) rfl)), List.forall_mem_cons.mpr ⟨(cl_J4_append_bf812_2 _ (List.mem_of_getElem? (i := 21) rfl)), List.forall_mem_cons.mpr ⟨(cl_J4_append_bf812_2 _ (List.mem_of_getElem? (i := 22) rfl)), List.forall_mem_cons.mpr ⟨(cl_J4_append_bf812_2 _ (List.mem_of_getElem? (i := 23) rfl)), List.forall_mem_cons.mpr ⟨(cl_J4_append_bf812_3 _ (List.mem_of_getElem? (i := 0) rfl)), List.forall_mem_cons.mpr ⟨(cl_J4_append_bf812_3 _ (List.mem_of_getElem? (i := 1) rfl)), List.forall_mem_cons.mpr ⟨(cl_J4_append_bf812_3 _ (List.mem_of_getElem? (i := 2) rfl)), List.forall_mem_cons.mpr ⟨(cl_J4_append_bf812_3 _ (List.mem_of_getElem? (i := 3) rfl)), List.forall_mem_cons.mpr ⟨(cl_J4_append_bf812_3 _ (List.mem_of_getElem? (i := 4) rfl)), fun _ h => absurd h List.not_mem_nil⟩⟩⟩⟩⟩⟩⟩⟩⟩⟩⟩⟩⟩⟩⟩⟩⟩⟩⟩⟩⟩⟩⟩⟩) w) ((fun w h => (List.mem_append.mp h).elim ((List.forall_mem_cons.mpr ⟨(cl_J4_append_bf812_3 _ (List.mem_of_getElem? (i := 5) rfl)), List.forall_mem_cons.mpr ⟨(cl_J4_append_bf812_3 _ (List.mem_of_getElem? (i := 6) rfl)), List.forall_mem_cons.mpr ⟨(cl_J4_append_bf812_3 _ (List.mem_of_getElem? (i := 7) rfl)), List.forall_mem_cons.mpr ⟨(cl_J4_append_bf812_3 _ (List.mem_of_getElem? (i := 8) rfl)), List.forall_mem_cons.mpr ⟨(cl_J4_append_bf812_3 _ (List.mem_of_getElem? (i := 9) rfl)), List.forall_mem_cons.mpr ⟨(cl_J4_append_bf812_3 _ (List.mem_of_getElem? (i := 10) rfl)), List.forall_mem_cons.mpr ⟨(cl_J4_append_bf812_3 _ (List.mem_of_getElem? (i := 11) rfl)), List.forall_mem_cons.mpr ⟨(cl_J4_append_bf812_3 _ (List.mem_of_getElem? (i := 12) rfl)), List.forall_mem_cons.mpr ⟨(cl_J4_append_bf812_3 _ (List.mem_of_getElem? (i := 13) rfl)), List.forall_mem_cons.mpr ⟨(cl_J4_append_bf812_3 _ (List.mem_of_getElem? (i := 14) rfl)), List.forall_mem_cons.mpr ⟨(cl_J4_append_bf812_3 _ (List.mem_of_getElem? (i := 15) rfl)), List.forall_mem_cons.mpr ⟨(cl_J4_append_bf812_3 _ (List.mem_of_getElem? (i := 16) rfl)), List.forall_mem_cons.mpr ⟨(cl_J4_append_bf812_3 _ (List.mem_of_getElem? (i := 17) rfl)), List.forall_mem_cons.mpr ⟨(cl_J4_append_bf812_3 _ (List.mem_of_getElem? (i := 18) rfl)), List.forall_mem_cons.mpr ⟨(cl_J4_append_bf812_3 _ (List.mem_of_getElem? (i := 19) rfl)), List.forall_mem_cons.mpr ⟨(cl_J4_append_bf812_3 _ (List.mem_of_getElem? (i := 20) rfl)), List.forall_mem_cons.mpr ⟨(cl_J4_append_bf812_3 _ (List.mem_of_getElem? (i := 21) rfl)), List.forall_mem_cons.mpr ⟨(cl_J4_append_bf812_3 _ (List.mem_of_getElem? (i := 22) rfl)), List.forall_mem_cons.mpr ⟨(cl_J4_append_bf812_3 _ (List.mem_of_getElem? (i := 23) rfl)), List.forall_mem_cons.mpr ⟨(cl_J4_append_bf812_4 _ (List.mem_of_getElem? (i := 0) rfl)), List.forall_mem_cons.mpr ⟨(cl_J4_append_bf812_4 _ (List.mem_of_getElem? (i := 1) rfl)), List.forall_mem_cons.mpr ⟨(cl_J4_append_bf812_4 _ (List.mem_of_getElem? (i := 2) rfl)), List.forall_mem_cons.mpr ⟨(cl_J4_append_bf812_4 _ (List.mem_of_getElem? (i := 3) rfl)), List.forall_mem_cons.mpr ⟨(cl_J4_append_bf812_4 _ (List.mem_of_getElem? (i := 4) rfl)), fun _ h => absurd h List.not_mem_nil⟩⟩⟩⟩⟩⟩⟩⟩⟩⟩⟩⟩⟩⟩⟩⟩⟩⟩⟩⟩⟩⟩⟩⟩) w) ((List.forall_mem_cons.mpr ⟨(cl_J4_append_bf812_4 _ (List.mem_of_getElem? (i := 5) rfl)), List.forall_mem_cons.mpr ⟨(cl_J4_append_bf812_4 _ (List.mem_of_getElem? (i := 6) rfl)), List.forall_mem_cons.mpr ⟨(cl_J4_append_bf812_4 _ (List.mem_of_getElem? (i := 7) rfl)), List.forall_mem_cons.mpr ⟨(cl_J4_append_bf812_4 _ (List.mem_of_getElem? (i := 8) rfl)), List.forall_mem_cons.mpr ⟨(cl_J4_append_bf812_4 _ (List.mem_of_getElem? (i := 9) rfl)), List.forall_mem_cons.mpr ⟨(cl_J4_append_bf812_4 _ (List.mem_of_getElem? (i := 10) rfl)), List.forall_mem_cons.mpr ⟨(cl_J4_append_bf812_4 _ (List.mem_of_getElem? (i := 11) rfl)), List.forall_mem_cons.mpr ⟨(cl_J4_append_bf812_4 _ (List.mem_of_getElem? (i := 12) rfl)), List.forall_mem_cons.mpr ⟨(cl_J4_append_bf812_4 _ (List.mem_of_getElem? (i := 13) rfl)), List.forall_mem_cons.mpr ⟨(cl_J4_append_bf812_4 _ (List.mem_of_getElem? (i := 14) rfl)), List.forall_mem_cons.mpr ⟨(cl_J4_append_bf812_4 _ (List.mem_of_getElem? (i := 15) rfl)), List.forall_mem_cons.mpr ⟨(cl_J4_append_bf812_4 _ (List.mem_of_getElem? (i := 16) rfl)), List.forall_mem_cons.mpr ⟨(cl_J4_append_bf812_4 _ (List.mem_of_getElem? (i := 17) rfl)), List.forall_mem_cons.mpr ⟨(cl_J4_append_bf812_4 _ (List.mem_of_getElem? (i := 18) rfl)), List.forall_mem_cons.mpr ⟨(cl_J4_append_bf812_4 _ (List.mem_of_getElem? (i := 19) rfl)), List.forall_mem_cons.mpr ⟨(cl_J4_append_bf812_4 _ (List.mem_of_getElem? (i := 20) rfl)), List.forall_mem_cons.mpr ⟨(cl_J4_append_bf812_4 _ (List.mem_of_getElem? (i := 21) rfl)), List.forall_mem_cons.mpr ⟨(cl_J4_append_bf812_4 _ (List.mem_of_getElem? (i := 22) rfl)), fun _ h => absurd h List.not_mem_nil⟩⟩⟩⟩⟩⟩⟩⟩⟩⟩⟩⟩⟩⟩⟩⟩⟩⟩) w)) w)) w)) w) ((cl_J4_append_bf812_5) w)⟩) (by decide +kernel)
set_option maxRecDepth 20000 in
theorem gJ4_append_bf812_J5_append_c97b9_s53 : GoodIn wsJ4_append_bf812 (va_wsSU RJ4 53 yJ5_append_c97b9 wsJ5_append_c97b9) := goodIn_app (goodIn_of _ (by decide +kernel)) ggJ4_append_bf812_J5_append_c97b9
noncomputable def dz_p04c_5 : List (Nat × Instr × Nat) := [(0, (.aload_n 0, 1)), (1, (.iload_n 1, 1)), (2, (.invokespecial 53, 3)), (5, (.pop, 1)), (6, (.aload_n 0, 1)), (7, (.areturn, 1))]
theorem dy_p04c_5 : dz_ok cJ4_append_bf812 dz_p04c_5 = true := by decide +kernel
theorem dJ4_append_bf812_0 : decode cJ4_append_bf812 0 = .ok (.aload_n 0, 1) := dz_at (i := 0) dy_p04c_5 rfl
theorem dJ4_append_bf812_1 : decode cJ4_append_bf812 1 = .ok (.iload_n 1, 1) := dz_at (i := 1) dy_p04c_5 rfl
theorem dJ4_append_bf812_2 : decode cJ4_append_bf812 2 = .ok (.invokespecial 53, 3) := dz_at (i := 2) dy_p04c_5 rfl
theorem dJ4_append_bf812_5 : decode cJ4_append_bf812 5 = .ok (.pop, 1) := dz_at (i := 3) dy_p04c_5 rfl
theorem dJ4_append_bf812_6 : decode cJ4_append_bf812 6 = .ok (.aload_n 0, 1) := dz_at (i := 4) dy_p04c_5 rfl
theorem dJ4_append_bf812_7 : decode cJ4_append_bf812 7 = .ok (.areturn, 1) := dz_at (i := 5) dy_p04c_5 rfl
set_option maxHeartbeats 4000000 in
set_option maxRecDepth 100000 in
theorem k_J4_append_bf812 (l : Launch) (dC : Nat → ClassId) (dI : Nat → Nat → Nat) (cB : ClassId) (h : Nat) (v : Nat) (n : Nat) (mm : Nat) (f : Nat → Int32) (w : Nat) (sz N : Nat) (hm : mm = 16 ∨ mm = 34) (hf : sb_Fit f) (hwb : w < 2 ^ 31) (hn : n + sb_dg w ≤ 34) : Met l yJ4_append_bf812 wsJ4_append_bf812 ({ frames := 5, cells := 1, slots := 34, locals := 167 }) (va_Pc [.ref h, .int (nI w)] (xT (dC, dI) xCl [(h, eB v (nI n)), (v, eY cB mm f)] [(cB, .byte)] sz N)) (va_Qr (fun (u : Nat × Nat × (Nat → Int32)) => (u.2.1 = 16 ∨ u.2.1 = 34) ∧ n + sb_dg w ≤ u.2.1 ∧ sb_Fit u.2.2) (fun (u : Nat × Nat × (Nat → Int32)) a t => a = h ∧ xW (dC, dI) xCl [(h, eB u.1 (nI (n + sb_dg w))), (u.1, eY cB u.2.1 u.2.2)] (va_A [(h, eB v (nI n)), (v, eY cB mm f)] sz) t) (va_A [(h, eB v (nI n)), (v, eY cB mm f)] sz)) 1 34 (va_A [(h, eB v (nI n)), (v, eY cB mm f)] sz) := by
  refine Met.ofW (cc := cJ4_append_bf812) (maxL := 2) (ret := (some (.object "java/lang/StringBuilder"))) (by decide +kernel) rfl ?_
  intro p e s m args below meth c s₁ B hml hv
  obtain ⟨rfl, ⟨hsz, hP, hK, hD0, hN, hG⟩, hT⟩ := hv
  have hx := B.exec
  have hb := B.bytes
  have hr := B.returns
  have hts := atoms_spec (ws := wsJ4_append_bf812) B.pre
  have hown : s.vm.findClass RJ4 = some m.cls := findClass_of_methodNamed B.named
  have hlocks := B.notSynchronized
  subst hsz
  have hAN : ∀ q, va_A [(h, eB v (nI n)), (v, eY cB mm f)] s.heap.size q → N ≤ q := xA_N hD0 hN
  have hD := hD0.self (sz := s.heap.size)
  generalize hAe : va_A [(h, eB v (nI n)), (v, eY cB mm f)] s.heap.size = A at hD hAN ⊢
  have hA : ∀ q : Nat, s.heap.size ≤ q → A q := fun q h => by rw [← hAe]; exact Or.inr h
  have hS : va_S A s.heap s.heap [] := va_S.rf
  have hP : va_P (dC, dI) xCl [(h, eB v (nI n)), (v, eY cB mm f)] s.heap := hP
  obtain ⟨hTc, ⟨tO, tT, fO, fT, hTo, hTt, hTa, hTb, hTf, hTg⟩, ⟨adK, adV, hTs, hTr0, hTr1, hTr2⟩, ⟨aE, hTe⟩, hTn⟩ := id hT
  have hl := lv_entry ([.ref h, .int (nI w)]) (n := 2) (Nat.le_of_ble_eq_true rfl)
  rw [lg_entry_eq]
  generalize (lg_sl ([.ref h, .int (nI w)]) ++ List.replicate (2 - (lg_sl ([.ref h, .int (nI w)])).length) Slot.unset).toArray = ls at hl ⊢
  have hl : lv_has ls 2 [(0, .ref h), (1, .int (nI w))] := hl
  refine lv_aload_n hx hb dJ4_append_bf812_0 rfl (lv_at hl 0 rfl) ?_
  refine lv_iload_n hx hb dJ4_append_bf812_1 rfl (lv_at hl 1 rfl) ?_
  have hPc := hP.sub (ws' := [(h, eB v (nI n)), (v, eY cB mm f)]) [0, 1] rfl
  have hDc := hD.sub (ws' := [(h, eB v (nI n)), (v, eY cB mm f)]) [0, 1] (by decide +kernel) rfl
  have hKc := hK.sub (tys' := [(cB, .byte)]) [0] rfl
  have hFc := va_free (wc := [(h, eB v (nI n)), (v, eY cB mm f)]) hD hS hA [0, 1] rfl
  refine va_callr (va_runSU (hK.1 1 _ rfl).2 (As := [.int (nI w)]) (rest := []) ⟨hx, hb, hml, hown, hts⟩ (k_J5_append_c97b9 l dC dI cB h v n mm f w s.heap.size N hm hf (by omega) (by omega)) (va_cwSU 1 hts gJ4_append_bf812_J5_append_c97b9_s53 rfl rfl rfl (by decide +kernel) ⟨Nat.le_of_ble_eq_true rfl, Nat.le_of_ble_eq_true rfl⟩) (xT.preV hKc hPc hDc hAN (Nat.le_trans hN hS.1) (hG.kept hS hAN) (hT.kept hS hAN) (ci := 1) (q0 := 0) rfl rfl) rfl rfl hl.1 rfl (lv_room (Nat.le_of_ble_eq_true rfl)) dJ4_append_bf812_2 ⟨(show _ ≤ 1 by omega), (show _ ≤ 34 by omega)⟩) hS (fun q _ h => hFc q h) hFc (fun u_5 r_4 t H locs ht hvm hw hB hz hk hS => ?_)
  obtain ⟨he_r_4, hP1, hD1⟩ := hB
  rw [ht] at hP1
  obtain ⟨v2_1, m2_2, f2_3⟩ := u_5
  obtain ⟨hP, hD⟩ := va_join (wr := []) (w1 := [(h, eB v2_1 (nI (n + sb_dg w))), (v2_1, eY cB m2_2 f2_3)]) hP hD [0, 1] [] rfl rfl (by decide +kernel) (by decide +kernel) hk hFc hP1 hD1
  have hP : va_P (dC, dI) xCl [(h, eB v2_1 (nI (n + sb_dg w))), (v2_1, eY cB m2_2 f2_3)] H := hP
  have hD : va_D A [(h, eB v2_1 (nI (n + sb_dg w))), (v2_1, eY cB m2_2 f2_3)] := hD
  obtain ⟨hm_m2_2, hq_m2_2, hf_m2_2⟩ : (m2_2 = 16 ∨ m2_2 = 34) ∧ n + sb_dg w ≤ m2_2 ∧ sb_Fit f2_3 := hw
  rw [he_r_4]
  refine lv_pop hx hb dJ4_append_bf812_5 rfl ?_
  refine lv_aload_n hx hb dJ4_append_bf812_6 rfl (lv_at hl 0 rfl) ?_
  have hP := hP.sub (ws' := [(h, eB v2_1 (nI (n + sb_dg w))), (v2_1, eY cB m2_2 f2_3)]) [0, 1] rfl
  have hD := hD.sub (ws' := [(h, eB v2_1 (nI (n + sb_dg w))), (v2_1, eY cB m2_2 f2_3)]) [0, 1] (by decide +kernel) rfl
  refine W.widen (k := 1) (n := 34) (by omega) (by omega) ?_
  exact W.aret (v := .ref h) hx hb hr (Or.inl ⟨_, rfl⟩) (Or.inr ⟨_, rfl⟩) (fun t ht hW => ⟨⟨(v2_1, m2_2, f2_3), _, rfl, ⟨hm_m2_2, hq_m2_2, hf_m2_2⟩, ⟨rfl, by rw [ht]; exact hP, hD⟩⟩, hS.F ht⟩) hS.2.2 dJ4_append_bf812_7
noncomputable def dz_p04c_6 : List (Nat × Instr × Nat) := [(0, (.iconst 1, 1)), (1, (.istore_n 2, 1)), (2, (.lload_n 0, 1)), (3, (.lconst 0, 1)), (4, (.lcmp, 1)), (5, (.ifCond .lt 8, 3)), (8, (.iconst 0, 1)), (9, (.istore_n 2, 1)), (10, (.lload_n 0, 1)), (11, (.lneg, 1)), (12, (.lstore_n 0, 1)), (13, (.ldc2_w 140, 3)), (16, (.lstore_n 3, 1)), (17, (.iconst 1, 1)), (18, (.istore 5, 2)), (20, (.iload 5, 2)), (22, (.bipush 19, 2)), (24, (.if_icmp .ge 26, 3)), (27, (.lload_n 0, 1)), (28, (.lload_n 3, 1)), (29, (.lcmp, 1)), (30, (.ifCond .le 8, 3)), (33, (.iload 5, 2)), (35, (.iload_n 2, 1)), (36, (.iadd, 1)), (37, (.ireturn, 1)), (38, (.ldc2_w 53, 3)), (41, (.lload_n 3, 1)), (42, (.lmul, 1)), (43, (.lstore_n 3, 1)), (44, (.iinc 5 1, 3)), (47, (.goto (-27), 3)), (50, (.bipush 19, 2)), (52, (.iload_n 2, 1)), (53, (.iadd, 1)), (54, (.ireturn, 1))]
theorem dy_p04c_6 : dz_ok cJ13_stringSize_95d88 dz_p04c_6 = true := by decide +kernel
theorem dJ13_stringSize_95d88_0 : decode cJ13_stringSize_95d88 0 = .ok (.iconst 1, 1) := dz_at (i := 0) dy_p04c_6 rfl
theorem dJ13_stringSize_95d88_1 : decode cJ13_stringSize_95d88 1 = .ok (.istore_n 2, 1) := dz_at (i := 1) dy_p04c_6 rfl
theorem dJ13_stringSize_95d88_2 : decode cJ13_stringSize_95d88 2 = .ok (.lload_n 0, 1) := dz_at (i := 2) dy_p04c_6 rfl
theorem dJ13_stringSize_95d88_3 : decode cJ13_stringSize_95d88 3 = .ok (.lconst 0, 1) := dz_at (i := 3) dy_p04c_6 rfl
theorem dJ13_stringSize_95d88_4 : decode cJ13_stringSize_95d88 4 = .ok (.lcmp, 1) := dz_at (i := 4) dy_p04c_6 rfl
theorem dJ13_stringSize_95d88_5 : decode cJ13_stringSize_95d88 5 = .ok (.ifCond .lt 8, 3) := dz_at (i := 5) dy_p04c_6 rfl
theorem dJ13_stringSize_95d88_8 : decode cJ13_stringSize_95d88 8 = .ok (.iconst 0, 1) := dz_at (i := 6) dy_p04c_6 rfl
theorem dJ13_stringSize_95d88_9 : decode cJ13_stringSize_95d88 9 = .ok (.istore_n 2, 1) := dz_at (i := 7) dy_p04c_6 rfl
theorem dJ13_stringSize_95d88_10 : decode cJ13_stringSize_95d88 10 = .ok (.lload_n 0, 1) := dz_at (i := 8) dy_p04c_6 rfl
theorem dJ13_stringSize_95d88_11 : decode cJ13_stringSize_95d88 11 = .ok (.lneg, 1) := dz_at (i := 9) dy_p04c_6 rfl
theorem dJ13_stringSize_95d88_12 : decode cJ13_stringSize_95d88 12 = .ok (.lstore_n 0, 1) := dz_at (i := 10) dy_p04c_6 rfl
theorem dJ13_stringSize_95d88_13 : decode cJ13_stringSize_95d88 13 = .ok (.ldc2_w 140, 3) := dz_at (i := 11) dy_p04c_6 rfl
theorem dJ13_stringSize_95d88_16 : decode cJ13_stringSize_95d88 16 = .ok (.lstore_n 3, 1) := dz_at (i := 12) dy_p04c_6 rfl
theorem dJ13_stringSize_95d88_17 : decode cJ13_stringSize_95d88 17 = .ok (.iconst 1, 1) := dz_at (i := 13) dy_p04c_6 rfl
theorem dJ13_stringSize_95d88_18 : decode cJ13_stringSize_95d88 18 = .ok (.istore 5, 2) := dz_at (i := 14) dy_p04c_6 rfl
theorem dJ13_stringSize_95d88_20 : decode cJ13_stringSize_95d88 20 = .ok (.iload 5, 2) := dz_at (i := 15) dy_p04c_6 rfl
theorem dJ13_stringSize_95d88_22 : decode cJ13_stringSize_95d88 22 = .ok (.bipush 19, 2) := dz_at (i := 16) dy_p04c_6 rfl
theorem dJ13_stringSize_95d88_24 : decode cJ13_stringSize_95d88 24 = .ok (.if_icmp .ge 26, 3) := dz_at (i := 17) dy_p04c_6 rfl
theorem dJ13_stringSize_95d88_27 : decode cJ13_stringSize_95d88 27 = .ok (.lload_n 0, 1) := dz_at (i := 18) dy_p04c_6 rfl
theorem dJ13_stringSize_95d88_28 : decode cJ13_stringSize_95d88 28 = .ok (.lload_n 3, 1) := dz_at (i := 19) dy_p04c_6 rfl
theorem dJ13_stringSize_95d88_29 : decode cJ13_stringSize_95d88 29 = .ok (.lcmp, 1) := dz_at (i := 20) dy_p04c_6 rfl
theorem dJ13_stringSize_95d88_30 : decode cJ13_stringSize_95d88 30 = .ok (.ifCond .le 8, 3) := dz_at (i := 21) dy_p04c_6 rfl
theorem dJ13_stringSize_95d88_33 : decode cJ13_stringSize_95d88 33 = .ok (.iload 5, 2) := dz_at (i := 22) dy_p04c_6 rfl
theorem dJ13_stringSize_95d88_35 : decode cJ13_stringSize_95d88 35 = .ok (.iload_n 2, 1) := dz_at (i := 23) dy_p04c_6 rfl
theorem dJ13_stringSize_95d88_36 : decode cJ13_stringSize_95d88 36 = .ok (.iadd, 1) := dz_at (i := 24) dy_p04c_6 rfl
theorem dJ13_stringSize_95d88_37 : decode cJ13_stringSize_95d88 37 = .ok (.ireturn, 1) := dz_at (i := 25) dy_p04c_6 rfl
theorem dJ13_stringSize_95d88_38 : decode cJ13_stringSize_95d88 38 = .ok (.ldc2_w 53, 3) := dz_at (i := 26) dy_p04c_6 rfl
theorem dJ13_stringSize_95d88_41 : decode cJ13_stringSize_95d88 41 = .ok (.lload_n 3, 1) := dz_at (i := 27) dy_p04c_6 rfl
theorem dJ13_stringSize_95d88_42 : decode cJ13_stringSize_95d88 42 = .ok (.lmul, 1) := dz_at (i := 28) dy_p04c_6 rfl
theorem dJ13_stringSize_95d88_43 : decode cJ13_stringSize_95d88 43 = .ok (.lstore_n 3, 1) := dz_at (i := 29) dy_p04c_6 rfl
theorem dJ13_stringSize_95d88_44 : decode cJ13_stringSize_95d88 44 = .ok (.iinc 5 1, 3) := dz_at (i := 30) dy_p04c_6 rfl
theorem dJ13_stringSize_95d88_47 : decode cJ13_stringSize_95d88 47 = .ok (.goto (-27), 3) := dz_at (i := 31) dy_p04c_6 rfl
theorem dJ13_stringSize_95d88_50 : decode cJ13_stringSize_95d88 50 = .ok (.bipush 19, 2) := dz_at (i := 32) dy_p04c_6 rfl
theorem dJ13_stringSize_95d88_52 : decode cJ13_stringSize_95d88 52 = .ok (.iload_n 2, 1) := dz_at (i := 33) dy_p04c_6 rfl
theorem dJ13_stringSize_95d88_53 : decode cJ13_stringSize_95d88 53 = .ok (.iadd, 1) := dz_at (i := 34) dy_p04c_6 rfl
theorem dJ13_stringSize_95d88_54 : decode cJ13_stringSize_95d88 54 = .ok (.ireturn, 1) := dz_at (i := 35) dy_p04c_6 rfl
set_option maxHeartbeats 4000000 in
set_option maxRecDepth 100000 in
theorem k_J13_stringSize_95d88 (l : Launch) (dC : Nat → ClassId) (dI : Nat → Nat → Nat) (cB : ClassId) (w : Nat) (sz N : Nat) (hwb : w < 10000000000000000) : Met l yJ13_stringSize_95d88 wsJ13_stringSize_95d88 ({ frames := 0, cells := 0, slots := 0, locals := 0 }) (va_Pc [.long (lN w)] (xT (dC, dI) xCl [] [(cB, .byte)] sz N)) (va_Qi (fun (r : Int32) (u : Unit) => r = nI (dgL w)) (fun (u : Unit) t => xW (dC, dI) xCl [] (va_A [] sz) t) (va_A [] sz)) 0 0 (va_A [] sz) := by
  refine Met.ofW (cc := cJ13_stringSize_95d88) (maxL := 6) (ret := (some .int)) (by decide +kernel) rfl ?_
  intro p e s m args below meth c s₁ B hml hv
  obtain ⟨rfl, ⟨hsz, hP, hK, hD0, hN, hG⟩, hT⟩ := hv
  have hx := B.exec
  have hb := B.bytes
  have hr := B.returns
  have hts := atoms_spec (ws := wsJ13_stringSize_95d88) B.pre
  have hown : s.vm.findClass RJ13 = some m.cls := findClass_of_methodNamed B.named
  have hlocks := B.notSynchronized
  subst hsz
  have hAN : ∀ q, va_A [] s.heap.size q → N ≤ q := xA_N hD0 hN
  have hD := hD0.self (sz := s.heap.size)
  generalize hAe : va_A [] s.heap.size = A at hD hAN ⊢
  have hA : ∀ q : Nat, s.heap.size ≤ q → A q := fun q h => by rw [← hAe]; exact Or.inr h
  have hS : va_S A s.heap s.heap [] := va_S.rf
  have hP : va_P (dC, dI) xCl [] s.heap := hP
  obtain ⟨hTc, ⟨tO, tT, fO, fT, hTo, hTt, hTa, hTb, hTf, hTg⟩, ⟨adK, adV, hTs, hTr0, hTr1, hTr2⟩, ⟨aE, hTe⟩, hTn⟩ := id hT
  have hl := lv_entry ([.long (lN w)]) (n := 6) (Nat.le_of_ble_eq_true rfl)
  rw [lg_entry_eq]
  generalize (lg_sl ([.long (lN w)]) ++ List.replicate (6 - (lg_sl ([.long (lN w)])).length) Slot.unset).toArray = ls at hl ⊢
  have hl : lv_has ls 6 [(0, .long (lN w))] := hl
  refine lv_iconst (v := 1) hx hb dJ13_stringSize_95d88_0 (by decide +kernel) ?_
  refine lv_istore_n (lv' := [(2, .int 1), (0, .long (lN w))]) hx hb dJ13_stringSize_95d88_1 rfl hl (by decide +kernel) rfl (fun ls hl => ?_)
  refine lv_lload_n hx hb dJ13_stringSize_95d88_2 rfl (lv_at hl 1 rfl) ?_
  refine lv_lconst (v := 0) hx hb dJ13_stringSize_95d88_3 (by decide +kernel) ?_
  refine xc_lt (tgt := 13) hx hb dJ13_stringSize_95d88_4 dJ13_stringSize_95d88_5 (by decide +kernel) (fun c9 => absurd c9 (jl_pos (by omega))) (fun c9 => ?_)
  refine lv_iconst (v := 0) hx hb dJ13_stringSize_95d88_8 (by decide +kernel) ?_
  refine lv_istore_n (lv' := [(2, .int 0), (0, .long (lN w))]) hx hb dJ13_stringSize_95d88_9 rfl hl (by decide +kernel) rfl (fun ls hl => ?_)
  refine lv_lload_n hx hb dJ13_stringSize_95d88_10 rfl (lv_at hl 1 rfl) ?_
  refine lv_lneg hx hb dJ13_stringSize_95d88_11 ?_
  refine lv_lstore_n (lv' := [(0, .long (-(lN w))), (2, .int 0)]) hx hb dJ13_stringSize_95d88_12 rfl hl (by decide +kernel) rfl (fun ls hl => ?_)
  refine lv_ldc2 (own := RJ13) (index := 140) (v := (-10)) hx hb hown (hts (.constantLong RJ13 140 (-10)) (by decide +kernel)) dJ13_stringSize_95d88_13 ?_
  refine lv_lstore_n (lv' := [(3, .long (-10)), (0, .long (-(lN w))), (2, .int 0)]) hx hb dJ13_stringSize_95d88_16 rfl hl (by decide +kernel) rfl (fun ls hl => ?_)
  refine lv_iconst (v := 1) hx hb dJ13_stringSize_95d88_17 (by decide +kernel) ?_
  refine lv_istore (lv' := [(5, .int 1), (3, .long (-10)), (0, .long (-(lN w))), (2, .int 0)]) hx hb dJ13_stringSize_95d88_18 hl (by decide +kernel) rfl (fun ls hl => ?_)
  refine lv_iload hx hb dJ13_stringSize_95d88_20 (lv_at hl 0 rfl) ?_
  refine lv_bipush (v := 19) hx hb dJ13_stringSize_95d88_22 (by decide +kernel) ?_
  refine lv_icmp_ge (tgt := 50) hx hb dJ13_stringSize_95d88_24 (by decide +kernel) (fun c9 => absurd c9 (by decide +kernel)) (fun _ => ?_)
  refine lv_lload_n hx hb dJ13_stringSize_95d88_27 rfl (lv_at hl 2 rfl) ?_
  refine lv_lload_n hx hb dJ13_stringSize_95d88_28 rfl (lv_at hl 1 rfl) ?_
  refine xc_le (tgt := 38) hx hb dJ13_stringSize_95d88_29 dJ13_stringSize_95d88_30 (by decide +kernel) (fun c_1 => ?_) (fun c_1 => ?_)
  · skip
    refine lv_ldc2 (own := RJ13) (index := 53) (v := 10) hx hb hown (hts (.constantLong RJ13 53 (10)) (by decide +kernel)) dJ13_stringSize_95d88_38 ?_
    refine lv_lload_n hx hb dJ13_stringSize_95d88_41 rfl (lv_at hl 1 rfl) ?_
    refine lv_lmul hx hb dJ13_stringSize_95d88_42 ?_
    rw [show ((10 : Int64) * (-10)) = (-100) from by decide]
    refine lv_lstore_n (lv' := [(3, .long (-100)), (5, .int 1), (0, .long (-(lN w))), (2, .int 0)]) hx hb dJ13_stringSize_95d88_43 rfl hl (by decide +kernel) rfl (fun ls hl => ?_)
    refine lv_iinc (v := 2) (lv' := [(5, .int 2), (3, .long (-100)), (0, .long (-(lN w))), (2, .int 0)]) hx hb dJ13_stringSize_95d88_44 hl (k := 1) rfl (by decide +kernel) (by decide +kernel) rfl (fun ls hl => ?_)
    refine lv_goto (tgt := 20) hx hb dJ13_stringSize_95d88_47 (by decide +kernel) ?_
    refine lv_iload hx hb dJ13_stringSize_95d88_20 (lv_at hl 0 rfl) ?_
    refine lv_bipush (v := 19) hx hb dJ13_stringSize_95d88_22 (by decide +kernel) ?_
    refine lv_icmp_ge (tgt := 50) hx hb dJ13_stringSize_95d88_24 (by decide +kernel) (fun c9 => absurd c9 (by decide +kernel)) (fun _ => ?_)
    refine lv_lload_n hx hb dJ13_stringSize_95d88_27 rfl (lv_at hl 2 rfl) ?_
    refine lv_lload_n hx hb dJ13_stringSize_95d88_28 rfl (lv_at hl 1 rfl) ?_
    refine xc_le (tgt := 38) hx hb dJ13_stringSize_95d88_29 dJ13_stringSize_95d88_30 (by decide +kernel) (fun c_2 => ?_) (fun c_2 => ?_)
    · skip
      refine lv_ldc2 (own := RJ13) (index := 53) (v := 10) hx hb hown (hts (.constantLong RJ13 53 (10)) (by decide +kernel)) dJ13_stringSize_95d88_38 ?_
      refine lv_lload_n hx hb dJ13_stringSize_95d88_41 rfl (lv_at hl 1 rfl) ?_
      refine lv_lmul hx hb dJ13_stringSize_95d88_42 ?_
      rw [show ((10 : Int64) * (-100)) = (-1000) from by decide]
      refine lv_lstore_n (lv' := [(3, .long (-1000)), (5, .int 2), (0, .long (-(lN w))), (2, .int 0)]) hx hb dJ13_stringSize_95d88_43 rfl hl (by decide +kernel) rfl (fun ls hl => ?_)
      refine lv_iinc (v := 3) (lv' := [(5, .int 3), (3, .long (-1000)), (0, .long (-(lN w))), (2, .int 0)]) hx hb dJ13_stringSize_95d88_44 hl (k := 1) rfl (by decide +kernel) (by decide +kernel) rfl (fun ls hl => ?_)
      refine lv_goto (tgt := 20) hx hb dJ13_stringSize_95d88_47 (by decide +kernel) ?_
      refine lv_iload hx hb dJ13_stringSize_95d88_20 (lv_at hl 0 rfl) ?_
      refine lv_bipush (v := 19) hx hb dJ13_stringSize_95d88_22 (by decide +kernel) ?_
      refine lv_icmp_ge (tgt := 50) hx hb dJ13_stringSize_95d88_24 (by decide +kernel) (fun c9 => absurd c9 (by decide +kernel)) (fun _ => ?_)
      refine lv_lload_n hx hb dJ13_stringSize_95d88_27 rfl (lv_at hl 2 rfl) ?_
      refine lv_lload_n hx hb dJ13_stringSize_95d88_28 rfl (lv_at hl 1 rfl) ?_
      refine xc_le (tgt := 38) hx hb dJ13_stringSize_95d88_29 dJ13_stringSize_95d88_30 (by decide +kernel) (fun c_3 => ?_) (fun c_3 => ?_)
      · skip
        refine lv_ldc2 (own := RJ13) (index := 53) (v := 10) hx hb hown (hts (.constantLong RJ13 53 (10)) (by decide +kernel)) dJ13_stringSize_95d88_38 ?_
        refine lv_lload_n hx hb dJ13_stringSize_95d88_41 rfl (lv_at hl 1 rfl) ?_
        refine lv_lmul hx hb dJ13_stringSize_95d88_42 ?_
        rw [show ((10 : Int64) * (-1000)) = (-10000) from by decide]
        refine lv_lstore_n (lv' := [(3, .long (-10000)), (5, .int 3), (0, .long (-(lN w))), (2, .int 0)]) hx hb dJ13_stringSize_95d88_43 rfl hl (by decide +kernel) rfl (fun ls hl => ?_)
        refine lv_iinc (v := 4) (lv' := [(5, .int 4), (3, .long (-10000)), (0, .long (-(lN w))), (2, .int 0)]) hx hb dJ13_stringSize_95d88_44 hl (k := 1) rfl (by decide +kernel) (by decide +kernel) rfl (fun ls hl => ?_)
        refine lv_goto (tgt := 20) hx hb dJ13_stringSize_95d88_47 (by decide +kernel) ?_
        refine lv_iload hx hb dJ13_stringSize_95d88_20 (lv_at hl 0 rfl) ?_
        refine lv_bipush (v := 19) hx hb dJ13_stringSize_95d88_22 (by decide +kernel) ?_
        refine lv_icmp_ge (tgt := 50) hx hb dJ13_stringSize_95d88_24 (by decide +kernel) (fun c9 => absurd c9 (by decide +kernel)) (fun _ => ?_)
        refine lv_lload_n hx hb dJ13_stringSize_95d88_27 rfl (lv_at hl 2 rfl) ?_
        refine lv_lload_n hx hb dJ13_stringSize_95d88_28 rfl (lv_at hl 1 rfl) ?_
        refine xc_le (tgt := 38) hx hb dJ13_stringSize_95d88_29 dJ13_stringSize_95d88_30 (by decide +kernel) (fun c_4 => ?_) (fun c_4 => ?_)
        · skip
          refine lv_ldc2 (own := RJ13) (index := 53) (v := 10) hx hb hown (hts (.constantLong RJ13 53 (10)) (by decide +kernel)) dJ13_stringSize_95d88_38 ?_
          refine lv_lload_n hx hb dJ13_stringSize_95d88_41 rfl (lv_at hl 1 rfl) ?_
          refine lv_lmul hx hb dJ13_stringSize_95d88_42 ?_
          rw [show ((10 : Int64) * (-10000)) = (-100000) from by decide]
          refine lv_lstore_n (lv' := [(3, .long (-100000)), (5, .int 4), (0, .long (-(lN w))), (2, .int 0)]) hx hb dJ13_stringSize_95d88_43 rfl hl (by decide +kernel) rfl (fun ls hl => ?_)
          refine lv_iinc (v := 5) (lv' := [(5, .int 5), (3, .long (-100000)), (0, .long (-(lN w))), (2, .int 0)]) hx hb dJ13_stringSize_95d88_44 hl (k := 1) rfl (by decide +kernel) (by decide +kernel) rfl (fun ls hl => ?_)
          refine lv_goto (tgt := 20) hx hb dJ13_stringSize_95d88_47 (by decide +kernel) ?_
          refine lv_iload hx hb dJ13_stringSize_95d88_20 (lv_at hl 0 rfl) ?_
          refine lv_bipush (v := 19) hx hb dJ13_stringSize_95d88_22 (by decide +kernel) ?_
          refine lv_icmp_ge (tgt := 50) hx hb dJ13_stringSize_95d88_24 (by decide +kernel) (fun c9 => absurd c9 (by decide +kernel)) (fun _ => ?_)
          refine lv_lload_n hx hb dJ13_stringSize_95d88_27 rfl (lv_at hl 2 rfl) ?_
          refine lv_lload_n hx hb dJ13_stringSize_95d88_28 rfl (lv_at hl 1 rfl) ?_
          refine xc_le (tgt := 38) hx hb dJ13_stringSize_95d88_29 dJ13_stringSize_95d88_30 (by decide +kernel) (fun c_5 => ?_) (fun c_5 => ?_)
          · skip
            refine lv_ldc2 (own := RJ13) (index := 53) (v := 10) hx hb hown (hts (.constantLong RJ13 53 (10)) (by decide +kernel)) dJ13_stringSize_95d88_38 ?_
            refine lv_lload_n hx hb dJ13_stringSize_95d88_41 rfl (lv_at hl 1 rfl) ?_
            refine lv_lmul hx hb dJ13_stringSize_95d88_42 ?_
            rw [show ((10 : Int64) * (-100000)) = (-1000000) from by decide]
            refine lv_lstore_n (lv' := [(3, .long (-1000000)), (5, .int 5), (0, .long (-(lN w))), (2, .int 0)]) hx hb dJ13_stringSize_95d88_43 rfl hl (by decide +kernel) rfl (fun ls hl => ?_)
            refine lv_iinc (v := 6) (lv' := [(5, .int 6), (3, .long (-1000000)), (0, .long (-(lN w))), (2, .int 0)]) hx hb dJ13_stringSize_95d88_44 hl (k := 1) rfl (by decide +kernel) (by decide +kernel) rfl (fun ls hl => ?_)
            refine lv_goto (tgt := 20) hx hb dJ13_stringSize_95d88_47 (by decide +kernel) ?_
            refine lv_iload hx hb dJ13_stringSize_95d88_20 (lv_at hl 0 rfl) ?_
            refine lv_bipush (v := 19) hx hb dJ13_stringSize_95d88_22 (by decide +kernel) ?_
            refine lv_icmp_ge (tgt := 50) hx hb dJ13_stringSize_95d88_24 (by decide +kernel) (fun c9 => absurd c9 (by decide +kernel)) (fun _ => ?_)
            refine lv_lload_n hx hb dJ13_stringSize_95d88_27 rfl (lv_at hl 2 rfl) ?_
            refine lv_lload_n hx hb dJ13_stringSize_95d88_28 rfl (lv_at hl 1 rfl) ?_
            refine xc_le (tgt := 38) hx hb dJ13_stringSize_95d88_29 dJ13_stringSize_95d88_30 (by decide +kernel) (fun c_6 => ?_) (fun c_6 => ?_)
            · skip
              refine lv_ldc2 (own := RJ13) (index := 53) (v := 10) hx hb hown (hts (.constantLong RJ13 53 (10)) (by decide +kernel)) dJ13_stringSize_95d88_38 ?_
              refine lv_lload_n hx hb dJ13_stringSize_95d88_41 rfl (lv_at hl 1 rfl) ?_
              refine lv_lmul hx hb dJ13_stringSize_95d88_42 ?_
              rw [show ((10 : Int64) * (-1000000)) = (-10000000) from by decide]
              refine lv_lstore_n (lv' := [(3, .long (-10000000)), (5, .int 6), (0, .long (-(lN w))), (2, .int 0)]) hx hb dJ13_stringSize_95d88_43 rfl hl (by decide +kernel) rfl (fun ls hl => ?_)
              refine lv_iinc (v := 7) (lv' := [(5, .int 7), (3, .long (-10000000)), (0, .long (-(lN w))), (2, .int 0)]) hx hb dJ13_stringSize_95d88_44 hl (k := 1) rfl (by decide +kernel) (by decide +kernel) rfl (fun ls hl => ?_)
              refine lv_goto (tgt := 20) hx hb dJ13_stringSize_95d88_47 (by decide +kernel) ?_
              refine lv_iload hx hb dJ13_stringSize_95d88_20 (lv_at hl 0 rfl) ?_
              refine lv_bipush (v := 19) hx hb dJ13_stringSize_95d88_22 (by decide +kernel) ?_
              refine lv_icmp_ge (tgt := 50) hx hb dJ13_stringSize_95d88_24 (by decide +kernel) (fun c9 => absurd c9 (by decide +kernel)) (fun _ => ?_)
              refine lv_lload_n hx hb dJ13_stringSize_95d88_27 rfl (lv_at hl 2 rfl) ?_
              refine lv_lload_n hx hb dJ13_stringSize_95d88_28 rfl (lv_at hl 1 rfl) ?_
              refine xc_le (tgt := 38) hx hb dJ13_stringSize_95d88_29 dJ13_stringSize_95d88_30 (by decide +kernel) (fun c_7 => ?_) (fun c_7 => ?_)
              · skip
                refine lv_ldc2 (own := RJ13) (index := 53) (v := 10) hx hb hown (hts (.constantLong RJ13 53 (10)) (by decide +kernel)) dJ13_stringSize_95d88_38 ?_
                refine lv_lload_n hx hb dJ13_stringSize_95d88_41 rfl (lv_at hl 1 rfl) ?_
                refine lv_lmul hx hb dJ13_stringSize_95d88_42 ?_
                rw [show ((10 : Int64) * (-10000000)) = (-100000000) from by decide]
                refine lv_lstore_n (lv' := [(3, .long (-100000000)), (5, .int 7), (0, .long (-(lN w))), (2, .int 0)]) hx hb dJ13_stringSize_95d88_43 rfl hl (by decide +kernel) rfl (fun ls hl => ?_)
                refine lv_iinc (v := 8) (lv' := [(5, .int 8), (3, .long (-100000000)), (0, .long (-(lN w))), (2, .int 0)]) hx hb dJ13_stringSize_95d88_44 hl (k := 1) rfl (by decide +kernel) (by decide +kernel) rfl (fun ls hl => ?_)
                refine lv_goto (tgt := 20) hx hb dJ13_stringSize_95d88_47 (by decide +kernel) ?_
                refine lv_iload hx hb dJ13_stringSize_95d88_20 (lv_at hl 0 rfl) ?_
                refine lv_bipush (v := 19) hx hb dJ13_stringSize_95d88_22 (by decide +kernel) ?_
                refine lv_icmp_ge (tgt := 50) hx hb dJ13_stringSize_95d88_24 (by decide +kernel) (fun c9 => absurd c9 (by decide +kernel)) (fun _ => ?_)
                refine lv_lload_n hx hb dJ13_stringSize_95d88_27 rfl (lv_at hl 2 rfl) ?_
                refine lv_lload_n hx hb dJ13_stringSize_95d88_28 rfl (lv_at hl 1 rfl) ?_
                refine xc_le (tgt := 38) hx hb dJ13_stringSize_95d88_29 dJ13_stringSize_95d88_30 (by decide +kernel) (fun c_8 => ?_) (fun c_8 => ?_)
                · skip
                  refine lv_ldc2 (own := RJ13) (index := 53) (v := 10) hx hb hown (hts (.constantLong RJ13 53 (10)) (by decide +kernel)) dJ13_stringSize_95d88_38 ?_
                  refine lv_lload_n hx hb dJ13_stringSize_95d88_41 rfl (lv_at hl 1 rfl) ?_
                  refine lv_lmul hx hb dJ13_stringSize_95d88_42 ?_
                  rw [show ((10 : Int64) * (-100000000)) = (-1000000000) from by decide]
                  refine lv_lstore_n (lv' := [(3, .long (-1000000000)), (5, .int 8), (0, .long (-(lN w))), (2, .int 0)]) hx hb dJ13_stringSize_95d88_43 rfl hl (by decide +kernel) rfl (fun ls hl => ?_)
                  refine lv_iinc (v := 9) (lv' := [(5, .int 9), (3, .long (-1000000000)), (0, .long (-(lN w))), (2, .int 0)]) hx hb dJ13_stringSize_95d88_44 hl (k := 1) rfl (by decide +kernel) (by decide +kernel) rfl (fun ls hl => ?_)
                  refine lv_goto (tgt := 20) hx hb dJ13_stringSize_95d88_47 (by decide +kernel) ?_
                  refine lv_iload hx hb dJ13_stringSize_95d88_20 (lv_at hl 0 rfl) ?_
                  refine lv_bipush (v := 19) hx hb dJ13_stringSize_95d88_22 (by decide +kernel) ?_
                  refine lv_icmp_ge (tgt := 50) hx hb dJ13_stringSize_95d88_24 (by decide +kernel) (fun c9 => absurd c9 (by decide +kernel)) (fun _ => ?_)
                  refine lv_lload_n hx hb dJ13_stringSize_95d88_27 rfl (lv_at hl 2 rfl) ?_
                  refine lv_lload_n hx hb dJ13_stringSize_95d88_28 rfl (lv_at hl 1 rfl) ?_
                  refine xc_le (tgt := 38) hx hb dJ13_stringSize_95d88_29 dJ13_stringSize_95d88_30 (by decide +kernel) (fun c_9 => ?_) (fun c_9 => ?_)
                  · skip
                    refine lv_ldc2 (own := RJ13) (index := 53) (v := 10) hx hb hown (hts (.constantLong RJ13 53 (10)) (by decide +kernel)) dJ13_stringSize_95d88_38 ?_
                    refine lv_lload_n hx hb dJ13_stringSize_95d88_41 rfl (lv_at hl 1 rfl) ?_
                    refine lv_lmul hx hb dJ13_stringSize_95d88_42 ?_
                    rw [show ((10 : Int64) * (-1000000000)) = (-10000000000) from by decide]
                    refine lv_lstore_n (lv' := [(3, .long (-10000000000)), (5, .int 9), (0, .long (-(lN w))), (2, .int 0)]) hx hb dJ13_stringSize_95d88_43 rfl hl (by decide +kernel) rfl (fun ls hl => ?_)
                    refine lv_iinc (v := 10) (lv' := [(5, .int 10), (3, .long (-10000000000)), (0, .long (-(lN w))), (2, .int 0)]) hx hb dJ13_stringSize_95d88_44 hl (k := 1) rfl (by decide +kernel) (by decide +kernel) rfl (fun ls hl => ?_)
                    refine lv_goto (tgt := 20) hx hb dJ13_stringSize_95d88_47 (by decide +kernel) ?_
                    refine lv_iload hx hb dJ13_stringSize_95d88_20 (lv_at hl 0 rfl) ?_
                    refine lv_bipush (v := 19) hx hb dJ13_stringSize_95d88_22 (by decide +kernel) ?_
                    refine lv_icmp_ge (tgt := 50) hx hb dJ13_stringSize_95d88_24 (by decide +kernel) (fun c9 => absurd c9 (by decide +kernel)) (fun _ => ?_)
                    refine lv_lload_n hx hb dJ13_stringSize_95d88_27 rfl (lv_at hl 2 rfl) ?_
                    refine lv_lload_n hx hb dJ13_stringSize_95d88_28 rfl (lv_at hl 1 rfl) ?_
                    refine xc_le (tgt := 38) hx hb dJ13_stringSize_95d88_29 dJ13_stringSize_95d88_30 (by decide +kernel) (fun c_10 => ?_) (fun c_10 => ?_)
                    · skip
                      refine lv_ldc2 (own := RJ13) (index := 53) (v := 10) hx hb hown (hts (.constantLong RJ13 53 (10)) (by decide +kernel)) dJ13_stringSize_95d88_38 ?_
                      refine lv_lload_n hx hb dJ13_stringSize_95d88_41 rfl (lv_at hl 1 rfl) ?_
                      refine lv_lmul hx hb dJ13_stringSize_95d88_42 ?_
                      rw [show ((10 : Int64) * (-10000000000)) = (-100000000000) from by decide]
                      refine lv_lstore_n (lv' := [(3, .long (-100000000000)), (5, .int 10), (0, .long (-(lN w))), (2, .int 0)]) hx hb dJ13_stringSize_95d88_43 rfl hl (by decide +kernel) rfl (fun ls hl => ?_)
                      refine lv_iinc (v := 11) (lv' := [(5, .int 11), (3, .long (-100000000000)), (0, .long (-(lN w))), (2, .int 0)]) hx hb dJ13_stringSize_95d88_44 hl (k := 1) rfl (by decide +kernel) (by decide +kernel) rfl (fun ls hl => ?_)
                      refine lv_goto (tgt := 20) hx hb dJ13_stringSize_95d88_47 (by decide +kernel) ?_
                      refine lv_iload hx hb dJ13_stringSize_95d88_20 (lv_at hl 0 rfl) ?_
                      refine lv_bipush (v := 19) hx hb dJ13_stringSize_95d88_22 (by decide +kernel) ?_
                      refine lv_icmp_ge (tgt := 50) hx hb dJ13_stringSize_95d88_24 (by decide +kernel) (fun c9 => absurd c9 (by decide +kernel)) (fun _ => ?_)
                      refine lv_lload_n hx hb dJ13_stringSize_95d88_27 rfl (lv_at hl 2 rfl) ?_
                      refine lv_lload_n hx hb dJ13_stringSize_95d88_28 rfl (lv_at hl 1 rfl) ?_
                      refine xc_le (tgt := 38) hx hb dJ13_stringSize_95d88_29 dJ13_stringSize_95d88_30 (by decide +kernel) (fun c_11 => ?_) (fun c_11 => ?_)
                      · skip
                        refine lv_ldc2 (own := RJ13) (index := 53) (v := 10) hx hb hown (hts (.constantLong RJ13 53 (10)) (by decide +kernel)) dJ13_stringSize_95d88_38 ?_
                        refine lv_lload_n hx hb dJ13_stringSize_95d88_41 rfl (lv_at hl 1 rfl) ?_
                        refine lv_lmul hx hb dJ13_stringSize_95d88_42 ?_
                        rw [show ((10 : Int64) * (-100000000000)) = (-1000000000000) from by decide]
                        refine lv_lstore_n (lv' := [(3, .long (-1000000000000)), (5, .int 11), (0, .long (-(lN w))), (2, .int 0)]) hx hb dJ13_stringSize_95d88_43 rfl hl (by decide +kernel) rfl (fun ls hl => ?_)
                        refine lv_iinc (v := 12) (lv' := [(5, .int 12), (3, .long (-1000000000000)), (0, .long (-(lN w))), (2, .int 0)]) hx hb dJ13_stringSize_95d88_44 hl (k := 1) rfl (by decide +kernel) (by decide +kernel) rfl (fun ls hl => ?_)
                        refine lv_goto (tgt := 20) hx hb dJ13_stringSize_95d88_47 (by decide +kernel) ?_
                        refine lv_iload hx hb dJ13_stringSize_95d88_20 (lv_at hl 0 rfl) ?_
                        refine lv_bipush (v := 19) hx hb dJ13_stringSize_95d88_22 (by decide +kernel) ?_
                        refine lv_icmp_ge (tgt := 50) hx hb dJ13_stringSize_95d88_24 (by decide +kernel) (fun c9 => absurd c9 (by decide +kernel)) (fun _ => ?_)
                        refine lv_lload_n hx hb dJ13_stringSize_95d88_27 rfl (lv_at hl 2 rfl) ?_
                        refine lv_lload_n hx hb dJ13_stringSize_95d88_28 rfl (lv_at hl 1 rfl) ?_
                        refine xc_le (tgt := 38) hx hb dJ13_stringSize_95d88_29 dJ13_stringSize_95d88_30 (by decide +kernel) (fun c_12 => ?_) (fun c_12 => ?_)
                        · skip
                          refine lv_ldc2 (own := RJ13) (index := 53) (v := 10) hx hb hown (hts (.constantLong RJ13 53 (10)) (by decide +kernel)) dJ13_stringSize_95d88_38 ?_
                          refine lv_lload_n hx hb dJ13_stringSize_95d88_41 rfl (lv_at hl 1 rfl) ?_
                          refine lv_lmul hx hb dJ13_stringSize_95d88_42 ?_
                          rw [show ((10 : Int64) * (-1000000000000)) = (-10000000000000) from by decide]
                          refine lv_lstore_n (lv' := [(3, .long (-10000000000000)), (5, .int 12), (0, .long (-(lN w))), (2, .int 0)]) hx hb dJ13_stringSize_95d88_43 rfl hl (by decide +kernel) rfl (fun ls hl => ?_)
                          refine lv_iinc (v := 13) (lv' := [(5, .int 13), (3, .long (-10000000000000)), (0, .long (-(lN w))), (2, .int 0)]) hx hb dJ13_stringSize_95d88_44 hl (k := 1) rfl (by decide +kernel) (by decide +kernel) rfl (fun ls hl => ?_)
                          refine lv_goto (tgt := 20) hx hb dJ13_stringSize_95d88_47 (by decide +kernel) ?_
                          refine lv_iload hx hb dJ13_stringSize_95d88_20 (lv_at hl 0 rfl) ?_
                          refine lv_bipush (v := 19) hx hb dJ13_stringSize_95d88_22 (by decide +kernel) ?_
                          refine lv_icmp_ge (tgt := 50) hx hb dJ13_stringSize_95d88_24 (by decide +kernel) (fun c9 => absurd c9 (by decide +kernel)) (fun _ => ?_)
                          refine lv_lload_n hx hb dJ13_stringSize_95d88_27 rfl (lv_at hl 2 rfl) ?_
                          refine lv_lload_n hx hb dJ13_stringSize_95d88_28 rfl (lv_at hl 1 rfl) ?_
                          refine xc_le (tgt := 38) hx hb dJ13_stringSize_95d88_29 dJ13_stringSize_95d88_30 (by decide +kernel) (fun c_13 => ?_) (fun c_13 => ?_)
                          · skip
                            refine lv_ldc2 (own := RJ13) (index := 53) (v := 10) hx hb hown (hts (.constantLong RJ13 53 (10)) (by decide +kernel)) dJ13_stringSize_95d88_38 ?_
                            refine lv_lload_n hx hb dJ13_stringSize_95d88_41 rfl (lv_at hl 1 rfl) ?_
                            refine lv_lmul hx hb dJ13_stringSize_95d88_42 ?_
                            rw [show ((10 : Int64) * (-10000000000000)) = (-100000000000000) from by decide]
                            refine lv_lstore_n (lv' := [(3, .long (-100000000000000)), (5, .int 13), (0, .long (-(lN w))), (2, .int 0)]) hx hb dJ13_stringSize_95d88_43 rfl hl (by decide +kernel) rfl (fun ls hl => ?_)
                            refine lv_iinc (v := 14) (lv' := [(5, .int 14), (3, .long (-100000000000000)), (0, .long (-(lN w))), (2, .int 0)]) hx hb dJ13_stringSize_95d88_44 hl (k := 1) rfl (by decide +kernel) (by decide +kernel) rfl (fun ls hl => ?_)
                            refine lv_goto (tgt := 20) hx hb dJ13_stringSize_95d88_47 (by decide +kernel) ?_
                            refine lv_iload hx hb dJ13_stringSize_95d88_20 (lv_at hl 0 rfl) ?_
                            refine lv_bipush (v := 19) hx hb dJ13_stringSize_95d88_22 (by decide +kernel) ?_
                            refine lv_icmp_ge (tgt := 50) hx hb dJ13_stringSize_95d88_24 (by decide +kernel) (fun c9 => absurd c9 (by decide +kernel)) (fun _ => ?_)
                            refine lv_lload_n hx hb dJ13_stringSize_95d88_27 rfl (lv_at hl 2 rfl) ?_
                            refine lv_lload_n hx hb dJ13_stringSize_95d88_28 rfl (lv_at hl 1 rfl) ?_
                            refine xc_le (tgt := 38) hx hb dJ13_stringSize_95d88_29 dJ13_stringSize_95d88_30 (by decide +kernel) (fun c_14 => ?_) (fun c_14 => ?_)
                            · skip
                              refine lv_ldc2 (own := RJ13) (index := 53) (v := 10) hx hb hown (hts (.constantLong RJ13 53 (10)) (by decide +kernel)) dJ13_stringSize_95d88_38 ?_
                              refine lv_lload_n hx hb dJ13_stringSize_95d88_41 rfl (lv_at hl 1 rfl) ?_
                              refine lv_lmul hx hb dJ13_stringSize_95d88_42 ?_
                              rw [show ((10 : Int64) * (-100000000000000)) = (-1000000000000000) from by decide]
                              refine lv_lstore_n (lv' := [(3, .long (-1000000000000000)), (5, .int 14), (0, .long (-(lN w))), (2, .int 0)]) hx hb dJ13_stringSize_95d88_43 rfl hl (by decide +kernel) rfl (fun ls hl => ?_)
                              refine lv_iinc (v := 15) (lv' := [(5, .int 15), (3, .long (-1000000000000000)), (0, .long (-(lN w))), (2, .int 0)]) hx hb dJ13_stringSize_95d88_44 hl (k := 1) rfl (by decide +kernel) (by decide +kernel) rfl (fun ls hl => ?_)
                              refine lv_goto (tgt := 20) hx hb dJ13_stringSize_95d88_47 (by decide +kernel) ?_
                              refine lv_iload hx hb dJ13_stringSize_95d88_20 (lv_at hl 0 rfl) ?_
                              refine lv_bipush (v := 19) hx hb dJ13_stringSize_95d88_22 (by decide +kernel) ?_
                              refine lv_icmp_ge (tgt := 50) hx hb dJ13_stringSize_95d88_24 (by decide +kernel) (fun c9 => absurd c9 (by decide +kernel)) (fun _ => ?_)
                              refine lv_lload_n hx hb dJ13_stringSize_95d88_27 rfl (lv_at hl 2 rfl) ?_
                              refine lv_lload_n hx hb dJ13_stringSize_95d88_28 rfl (lv_at hl 1 rfl) ?_
                              refine xc_le (tgt := 38) hx hb dJ13_stringSize_95d88_29 dJ13_stringSize_95d88_30 (by decide +kernel) (fun c_15 => ?_) (fun c_15 => ?_)
                              · skip
                                refine lv_ldc2 (own := RJ13) (index := 53) (v := 10) hx hb hown (hts (.constantLong RJ13 53 (10)) (by decide +kernel)) dJ13_stringSize_95d88_38 ?_
                                refine lv_lload_n hx hb dJ13_stringSize_95d88_41 rfl (lv_at hl 1 rfl) ?_
                                refine lv_lmul hx hb dJ13_stringSize_95d88_42 ?_
                                rw [show ((10 : Int64) * (-1000000000000000)) = (-10000000000000000) from by decide]
                                refine lv_lstore_n (lv' := [(3, .long (-10000000000000000)), (5, .int 15), (0, .long (-(lN w))), (2, .int 0)]) hx hb dJ13_stringSize_95d88_43 rfl hl (by decide +kernel) rfl (fun ls hl => ?_)
                                refine lv_iinc (v := 16) (lv' := [(5, .int 16), (3, .long (-10000000000000000)), (0, .long (-(lN w))), (2, .int 0)]) hx hb dJ13_stringSize_95d88_44 hl (k := 1) rfl (by decide +kernel) (by decide +kernel) rfl (fun ls hl => ?_)
                                refine lv_goto (tgt := 20) hx hb dJ13_stringSize_95d88_47 (by decide +kernel) ?_
                                refine lv_iload hx hb dJ13_stringSize_95d88_20 (lv_at hl 0 rfl) ?_
                                refine lv_bipush (v := 19) hx hb dJ13_stringSize_95d88_22 (by decide +kernel) ?_
                                refine lv_icmp_ge (tgt := 50) hx hb dJ13_stringSize_95d88_24 (by decide +kernel) (fun c9 => absurd c9 (by decide +kernel)) (fun _ => ?_)
                                refine lv_lload_n hx hb dJ13_stringSize_95d88_27 rfl (lv_at hl 2 rfl) ?_
                                refine lv_lload_n hx hb dJ13_stringSize_95d88_28 rfl (lv_at hl 1 rfl) ?_
                                refine xc_le (tgt := 38) hx hb dJ13_stringSize_95d88_29 dJ13_stringSize_95d88_30 (by decide +kernel) (fun c9 => absurd c9 (fun z => by have := (jl_nle (a := w) (b := 10000000000000000) (by omega) (by decide +kernel)).mp z; omega)) (fun c9 => ?_)
                                refine lv_iload hx hb dJ13_stringSize_95d88_33 (lv_at hl 0 rfl) ?_
                                refine lv_iload_n hx hb dJ13_stringSize_95d88_35 rfl (lv_at hl 3 rfl) ?_
                                refine lv_iadd hx hb dJ13_stringSize_95d88_36 ?_
                                rw [show ((16 : Int32) + 0) = 16 from by decide]
                                have z10 : 10 ≤ w := (jl_nle (a := w) (b := 10) (by omega) (by decide +kernel)).mp c_1
                                have z100 : 100 ≤ w := (jl_nle (a := w) (b := 100) (by omega) (by decide +kernel)).mp c_2
                                have z1000 : 1000 ≤ w := (jl_nle (a := w) (b := 1000) (by omega) (by decide +kernel)).mp c_3
                                have z10000 : 10000 ≤ w := (jl_nle (a := w) (b := 10000) (by omega) (by decide +kernel)).mp c_4
                                have z100000 : 100000 ≤ w := (jl_nle (a := w) (b := 100000) (by omega) (by decide +kernel)).mp c_5
                                have z1000000 : 1000000 ≤ w := (jl_nle (a := w) (b := 1000000) (by omega) (by decide +kernel)).mp c_6
                                have z10000000 : 10000000 ≤ w := (jl_nle (a := w) (b := 10000000) (by omega) (by decide +kernel)).mp c_7
                                have z100000000 : 100000000 ≤ w := (jl_nle (a := w) (b := 100000000) (by omega) (by decide +kernel)).mp c_8
                                have z1000000000 : 1000000000 ≤ w := (jl_nle (a := w) (b := 1000000000) (by omega) (by decide +kernel)).mp c_9
                                have z10000000000 : 10000000000 ≤ w := (jl_nle (a := w) (b := 10000000000) (by omega) (by decide +kernel)).mp c_10
                                have z100000000000 : 100000000000 ≤ w := (jl_nle (a := w) (b := 100000000000) (by omega) (by decide +kernel)).mp c_11
                                have z1000000000000 : 1000000000000 ≤ w := (jl_nle (a := w) (b := 1000000000000) (by omega) (by decide +kernel)).mp c_12
                                have z10000000000000 : 10000000000000 ≤ w := (jl_nle (a := w) (b := 10000000000000) (by omega) (by decide +kernel)).mp c_13
                                have z100000000000000 : 100000000000000 ≤ w := (jl_nle (a := w) (b := 100000000000000) (by omega) (by decide +kernel)).mp c_14
                                have z1000000000000000 : 1000000000000000 ≤ w := (jl_nle (a := w) (b := 1000000000000000) (by omega) (by decide +kernel)).mp c_15
                                have he : dgL w = 16 := by rw [dgL, if_neg (show ¬ w < 1000000000 by omega), sb_dg, if_neg (show ¬ w / 1000000000 < 10 by omega), if_neg (show ¬ w / 1000000000 < 100 by omega), if_neg (show ¬ w / 1000000000 < 1000 by omega), if_neg (show ¬ w / 1000000000 < 10000 by omega), if_neg (show ¬ w / 1000000000 < 100000 by omega), if_neg (show ¬ w / 1000000000 < 1000000 by omega), if_pos (show w / 1000000000 < 10000000 by omega)]
                                have hP := xP_nil (D := (dC, dI)) (cl := xCl) (H := s.heap)
                                have hD := xD_nil (A := A)
                                refine W.widen (k := 0) (n := 0) (by omega) (by omega) ?_
                                exact W.iret (v := 16) hx hb hr (fun t ht hW => ⟨⟨_, (), rfl, (by rw [he]; rfl), by rw [ht]; exact hP, hD⟩, hS.F ht⟩) hS.2.2 dJ13_stringSize_95d88_37
                              · skip
                                refine lv_iload hx hb dJ13_stringSize_95d88_33 (lv_at hl 0 rfl) ?_
                                refine lv_iload_n hx hb dJ13_stringSize_95d88_35 rfl (lv_at hl 3 rfl) ?_
                                refine lv_iadd hx hb dJ13_stringSize_95d88_36 ?_
                                rw [show ((15 : Int32) + 0) = 15 from by decide]
                                have z10 : 10 ≤ w := (jl_nle (a := w) (b := 10) (by omega) (by decide +kernel)).mp c_1
                                have z100 : 100 ≤ w := (jl_nle (a := w) (b := 100) (by omega) (by decide +kernel)).mp c_2
                                have z1000 : 1000 ≤ w := (jl_nle (a := w) (b := 1000) (by omega) (by decide +kernel)).mp c_3
                                have z10000 : 10000 ≤ w := (jl_nle (a := w) (b := 10000) (by omega) (by decide +kernel)).mp c_4
                                have z100000 : 100000 ≤ w := (jl_nle (a := w) (b := 100000) (by omega) (by decide +kernel)).mp c_5
                                have z1000000 : 1000000 ≤ w := (jl_nle (a := w) (b := 1000000) (by omega) (by decide +kernel)).mp c_6
                                have z10000000 : 10000000 ≤ w := (jl_nle (a := w) (b := 10000000) (by omega) (by decide +kernel)).mp c_7
                                have z100000000 : 100000000 ≤ w := (jl_nle (a := w) (b := 100000000) (by omega) (by decide +kernel)).mp c_8
                                have z1000000000 : 1000000000 ≤ w := (jl_nle (a := w) (b := 1000000000) (by omega) (by decide +kernel)).mp c_9
                                have z10000000000 : 10000000000 ≤ w := (jl_nle (a := w) (b := 10000000000) (by omega) (by decide +kernel)).mp c_10
                                have z100000000000 : 100000000000 ≤ w := (jl_nle (a := w) (b := 100000000000) (by omega) (by decide +kernel)).mp c_11
                                have z1000000000000 : 1000000000000 ≤ w := (jl_nle (a := w) (b := 1000000000000) (by omega) (by decide +kernel)).mp c_12
                                have z10000000000000 : 10000000000000 ≤ w := (jl_nle (a := w) (b := 10000000000000) (by omega) (by decide +kernel)).mp c_13
                                have z100000000000000 : 100000000000000 ≤ w := (jl_nle (a := w) (b := 100000000000000) (by omega) (by decide +kernel)).mp c_14
                                have z1000000000000000 : w < 1000000000000000 := Nat.lt_of_not_le (fun z => c_15 ((jl_nle (a := w) (b := 1000000000000000) (by omega) (by decide +kernel)).mpr z))
                                have he : dgL w = 15 := by rw [dgL, if_neg (show ¬ w < 1000000000 by omega), sb_dg, if_neg (show ¬ w / 1000000000 < 10 by omega), if_neg (show ¬ w / 1000000000 < 100 by omega), if_neg (show ¬ w / 1000000000 < 1000 by omega), if_neg (show ¬ w / 1000000000 < 10000 by omega), if_neg (show ¬ w / 1000000000 < 100000 by omega), if_pos (show w / 1000000000 < 1000000 by omega)]
                                have hP := xP_nil (D := (dC, dI)) (cl := xCl) (H := s.heap)
                                have hD := xD_nil (A := A)
                                refine W.widen (k := 0) (n := 0) (by omega) (by omega) ?_
                                exact W.iret (v := 15) hx hb hr (fun t ht hW => ⟨⟨_, (), rfl, (by rw [he]; rfl), by rw [ht]; exact hP, hD⟩, hS.F ht⟩) hS.2.2 dJ13_stringSize_95d88_37
                            · skip
                              refine lv_iload hx hb dJ13_stringSize_95d88_33 (lv_at hl 0 rfl) ?_
                              refine lv_iload_n hx hb dJ13_stringSize_95d88_35 rfl (lv_at hl 3 rfl) ?_
                              refine lv_iadd hx hb dJ13_stringSize_95d88_36 ?_
                              rw [show ((14 : Int32) + 0) = 14 from by decide]
                              have z10 : 10 ≤ w := (jl_nle (a := w) (b := 10) (by omega) (by decide +kernel)).mp c_1
                              have z100 : 100 ≤ w := (jl_nle (a := w) (b := 100) (by omega) (by decide +kernel)).mp c_2
                              have z1000 : 1000 ≤ w := (jl_nle (a := w) (b := 1000) (by omega) (by decide +kernel)).mp c_3
                              have z10000 : 10000 ≤ w := (jl_nle (a := w) (b := 10000) (by omega) (by decide +kernel)).mp c_4
                              have z100000 : 100000 ≤ w := (jl_nle (a := w) (b := 100000) (by omega) (by decide +kernel)).mp c_5
                              have z1000000 : 1000000 ≤ w := (jl_nle (a := w) (b := 1000000) (by omega) (by decide +kernel)).mp c_6
                              have z10000000 : 10000000 ≤ w := (jl_nle (a := w) (b := 10000000) (by omega) (by decide +kernel)).mp c_7
                              have z100000000 : 100000000 ≤ w := (jl_nle (a := w) (b := 100000000) (by omega) (by decide +kernel)).mp c_8
                              have z1000000000 : 1000000000 ≤ w := (jl_nle (a := w) (b := 1000000000) (by omega) (by decide +kernel)).mp c_9
                              have z10000000000 : 10000000000 ≤ w := (jl_nle (a := w) (b := 10000000000) (by omega) (by decide +kernel)).mp c_10
                              have z100000000000 : 100000000000 ≤ w := (jl_nle (a := w) (b := 100000000000) (by omega) (by decide +kernel)).mp c_11
                              have z1000000000000 : 1000000000000 ≤ w := (jl_nle (a := w) (b := 1000000000000) (by omega) (by decide +kernel)).mp c_12
                              have z10000000000000 : 10000000000000 ≤ w := (jl_nle (a := w) (b := 10000000000000) (by omega) (by decide +kernel)).mp c_13
                              have z100000000000000 : w < 100000000000000 := Nat.lt_of_not_le (fun z => c_14 ((jl_nle (a := w) (b := 100000000000000) (by omega) (by decide +kernel)).mpr z))
                              have he : dgL w = 14 := by rw [dgL, if_neg (show ¬ w < 1000000000 by omega), sb_dg, if_neg (show ¬ w / 1000000000 < 10 by omega), if_neg (show ¬ w / 1000000000 < 100 by omega), if_neg (show ¬ w / 1000000000 < 1000 by omega), if_neg (show ¬ w / 1000000000 < 10000 by omega), if_pos (show w / 1000000000 < 100000 by omega)]
                              have hP := xP_nil (D := (dC, dI)) (cl := xCl) (H := s.heap)
                              have hD := xD_nil (A := A)
                              refine W.widen (k := 0) (n := 0) (by omega) (by omega) ?_
                              exact W.iret (v := 14) hx hb hr (fun t ht hW => ⟨⟨_, (), rfl, (by rw [he]; rfl), by rw [ht]; exact hP, hD⟩, hS.F ht⟩) hS.2.2 dJ13_stringSize_95d88_37
                          · skip
                            refine lv_iload hx hb dJ13_stringSize_95d88_33 (lv_at hl 0 rfl) ?_
                            refine lv_iload_n hx hb dJ13_stringSize_95d88_35 rfl (lv_at hl 3 rfl) ?_
                            refine lv_iadd hx hb dJ13_stringSize_95d88_36 ?_
                            rw [show ((13 : Int32) + 0) = 13 from by decide]
                            have z10 : 10 ≤ w := (jl_nle (a := w) (b := 10) (by omega) (by decide +kernel)).mp c_1
                            have z100 : 100 ≤ w := (jl_nle (a := w) (b := 100) (by omega) (by decide +kernel)).mp c_2
                            have z1000 : 1000 ≤ w := (jl_nle (a := w) (b := 1000) (by omega) (by decide +kernel)).mp c_3
                            have z10000 : 10000 ≤ w := (jl_nle (a := w) (b := 10000) (by omega) (by decide +kernel)).mp c_4
                            have z100000 : 100000 ≤ w := (jl_nle (a := w) (b := 100000) (by omega) (by decide +kernel)).mp c_5
                            have z1000000 : 1000000 ≤ w := (jl_nle (a := w) (b := 1000000) (by omega) (by decide +kernel)).mp c_6
                            have z10000000 : 10000000 ≤ w := (jl_nle (a := w) (b := 10000000) (by omega) (by decide +kernel)).mp c_7
                            have z100000000 : 100000000 ≤ w := (jl_nle (a := w) (b := 100000000) (by omega) (by decide +kernel)).mp c_8
                            have z1000000000 : 1000000000 ≤ w := (jl_nle (a := w) (b := 1000000000) (by omega) (by decide +kernel)).mp c_9
                            have z10000000000 : 10000000000 ≤ w := (jl_nle (a := w) (b := 10000000000) (by omega) (by decide +kernel)).mp c_10
                            have z100000000000 : 100000000000 ≤ w := (jl_nle (a := w) (b := 100000000000) (by omega) (by decide +kernel)).mp c_11
                            have z1000000000000 : 1000000000000 ≤ w := (jl_nle (a := w) (b := 1000000000000) (by omega) (by decide +kernel)).mp c_12
                            have z10000000000000 : w < 10000000000000 := Nat.lt_of_not_le (fun z => c_13 ((jl_nle (a := w) (b := 10000000000000) (by omega) (by decide +kernel)).mpr z))
                            have he : dgL w = 13 := by rw [dgL, if_neg (show ¬ w < 1000000000 by omega), sb_dg, if_neg (show ¬ w / 1000000000 < 10 by omega), if_neg (show ¬ w / 1000000000 < 100 by omega), if_neg (show ¬ w / 1000000000 < 1000 by omega), if_pos (show w / 1000000000 < 10000 by omega)]
                            have hP := xP_nil (D := (dC, dI)) (cl := xCl) (H := s.heap)
                            have hD := xD_nil (A := A)
                            refine W.widen (k := 0) (n := 0) (by omega) (by omega) ?_
                            exact W.iret (v := 13) hx hb hr (fun t ht hW => ⟨⟨_, (), rfl, (by rw [he]; rfl), by rw [ht]; exact hP, hD⟩, hS.F ht⟩) hS.2.2 dJ13_stringSize_95d88_37
                        · skip
                          refine lv_iload hx hb dJ13_stringSize_95d88_33 (lv_at hl 0 rfl) ?_
                          refine lv_iload_n hx hb dJ13_stringSize_95d88_35 rfl (lv_at hl 3 rfl) ?_
                          refine lv_iadd hx hb dJ13_stringSize_95d88_36 ?_
                          rw [show ((12 : Int32) + 0) = 12 from by decide]
                          have z10 : 10 ≤ w := (jl_nle (a := w) (b := 10) (by omega) (by decide +kernel)).mp c_1
                          have z100 : 100 ≤ w := (jl_nle (a := w) (b := 100) (by omega) (by decide +kernel)).mp c_2
                          have z1000 : 1000 ≤ w := (jl_nle (a := w) (b := 1000) (by omega) (by decide +kernel)).mp c_3
                          have z10000 : 10000 ≤ w := (jl_nle (a := w) (b := 10000) (by omega) (by decide +kernel)).mp c_4
                          have z100000 : 100000 ≤ w := (jl_nle (a := w) (b := 100000) (by omega) (by decide +kernel)).mp c_5
                          have z1000000 : 1000000 ≤ w := (jl_nle (a := w) (b := 1000000) (by omega) (by decide +kernel)).mp c_6
                          have z10000000 : 10000000 ≤ w := (jl_nle (a := w) (b := 10000000) (by omega) (by decide +kernel)).mp c_7
                          have z100000000 : 100000000 ≤ w := (jl_nle (a := w) (b := 100000000) (by omega) (by decide +kernel)).mp c_8
                          have z1000000000 : 1000000000 ≤ w := (jl_nle (a := w) (b := 1000000000) (by omega) (by decide +kernel)).mp c_9
                          have z10000000000 : 10000000000 ≤ w := (jl_nle (a := w) (b := 10000000000) (by omega) (by decide +kernel)).mp c_10
                          have z100000000000 : 100000000000 ≤ w := (jl_nle (a := w) (b := 100000000000) (by omega) (by decide +kernel)).mp c_11
                          have z1000000000000 : w < 1000000000000 := Nat.lt_of_not_le (fun z => c_12 ((jl_nle (a := w) (b := 1000000000000) (by omega) (by decide +kernel)).mpr z))
                          have he : dgL w = 12 := by rw [dgL, if_neg (show ¬ w < 1000000000 by omega), sb_dg, if_neg (show ¬ w / 1000000000 < 10 by omega), if_neg (show ¬ w / 1000000000 < 100 by omega), if_pos (show w / 1000000000 < 1000 by omega)]
                          have hP := xP_nil (D := (dC, dI)) (cl := xCl) (H := s.heap)
                          have hD := xD_nil (A := A)
                          refine W.widen (k := 0) (n := 0) (by omega) (by omega) ?_
                          exact W.iret (v := 12) hx hb hr (fun t ht hW => ⟨⟨_, (), rfl, (by rw [he]; rfl), by rw [ht]; exact hP, hD⟩, hS.F ht⟩) hS.2.2 dJ13_stringSize_95d88_37
                      · skip
                        refine lv_iload hx hb dJ13_stringSize_95d88_33 (lv_at hl 0 rfl) ?_
                        refine lv_iload_n hx hb dJ13_stringSize_95d88_35 rfl (lv_at hl 3 rfl) ?_
                        refine lv_iadd hx hb dJ13_stringSize_95d88_36 ?_
                        rw [show ((11 : Int32) + 0) = 11 from by decide]
                        have z10 : 10 ≤ w := (jl_nle (a := w) (b := 10) (by omega) (by decide +kernel)).mp c_1
                        have z100 : 100 ≤ w := (jl_nle (a := w) (b := 100) (by omega) (by decide +kernel)).mp c_2
                        have z1000 : 1000 ≤ w := (jl_nle (a := w) (b := 1000) (by omega) (by decide +kernel)).mp c_3
                        have z10000 : 10000 ≤ w := (jl_nle (a := w) (b := 10000) (by omega) (by decide +kernel)).mp c_4
                        have z100000 : 100000 ≤ w := (jl_nle (a := w) (b := 100000) (by omega) (by decide +kernel)).mp c_5
                        have z1000000 : 1000000 ≤ w := (jl_nle (a := w) (b := 1000000) (by omega) (by decide +kernel)).mp c_6
                        have z10000000 : 10000000 ≤ w := (jl_nle (a := w) (b := 10000000) (by omega) (by decide +kernel)).mp c_7
                        have z100000000 : 100000000 ≤ w := (jl_nle (a := w) (b := 100000000) (by omega) (by decide +kernel)).mp c_8
                        have z1000000000 : 1000000000 ≤ w := (jl_nle (a := w) (b := 1000000000) (by omega) (by decide +kernel)).mp c_9
                        have z10000000000 : 10000000000 ≤ w := (jl_nle (a := w) (b := 10000000000) (by omega) (by decide +kernel)).mp c_10
                        have z100000000000 : w < 100000000000 := Nat.lt_of_not_le (fun z => c_11 ((jl_nle (a := w) (b := 100000000000) (by omega) (by decide +kernel)).mpr z))
                        have he : dgL w = 11 := by rw [dgL, if_neg (show ¬ w < 1000000000 by omega), sb_dg, if_neg (show ¬ w / 1000000000 < 10 by omega), if_pos (show w / 1000000000 < 100 by omega)]
                        have hP := xP_nil (D := (dC, dI)) (cl := xCl) (H := s.heap)
                        have hD := xD_nil (A := A)
                        refine W.widen (k := 0) (n := 0) (by omega) (by omega) ?_
                        exact W.iret (v := 11) hx hb hr (fun t ht hW => ⟨⟨_, (), rfl, (by rw [he]; rfl), by rw [ht]; exact hP, hD⟩, hS.F ht⟩) hS.2.2 dJ13_stringSize_95d88_37
                    · skip
                      refine lv_iload hx hb dJ13_stringSize_95d88_33 (lv_at hl 0 rfl) ?_
                      refine lv_iload_n hx hb dJ13_stringSize_95d88_35 rfl (lv_at hl 3 rfl) ?_
                      refine lv_iadd hx hb dJ13_stringSize_95d88_36 ?_
                      rw [show ((10 : Int32) + 0) = 10 from by decide]
                      have z10 : 10 ≤ w := (jl_nle (a := w) (b := 10) (by omega) (by decide +kernel)).mp c_1
                      have z100 : 100 ≤ w := (jl_nle (a := w) (b := 100) (by omega) (by decide +kernel)).mp c_2
                      have z1000 : 1000 ≤ w := (jl_nle (a := w) (b := 1000) (by omega) (by decide +kernel)).mp c_3
                      have z10000 : 10000 ≤ w := (jl_nle (a := w) (b := 10000) (by omega) (by decide +kernel)).mp c_4
                      have z100000 : 100000 ≤ w := (jl_nle (a := w) (b := 100000) (by omega) (by decide +kernel)).mp c_5
                      have z1000000 : 1000000 ≤ w := (jl_nle (a := w) (b := 1000000) (by omega) (by decide +kernel)).mp c_6
                      have z10000000 : 10000000 ≤ w := (jl_nle (a := w) (b := 10000000) (by omega) (by decide +kernel)).mp c_7
                      have z100000000 : 100000000 ≤ w := (jl_nle (a := w) (b := 100000000) (by omega) (by decide +kernel)).mp c_8
                      have z1000000000 : 1000000000 ≤ w := (jl_nle (a := w) (b := 1000000000) (by omega) (by decide +kernel)).mp c_9
                      have z10000000000 : w < 10000000000 := Nat.lt_of_not_le (fun z => c_10 ((jl_nle (a := w) (b := 10000000000) (by omega) (by decide +kernel)).mpr z))
                      have he : dgL w = 10 := by rw [dgL, if_neg (show ¬ w < 1000000000 by omega), sb_dg, if_pos (show w / 1000000000 < 10 by omega)]
                      have hP := xP_nil (D := (dC, dI)) (cl := xCl) (H := s.heap)
                      have hD := xD_nil (A := A)
                      refine W.widen (k := 0) (n := 0) (by omega) (by omega) ?_
                      exact W.iret (v := 10) hx hb hr (fun t ht hW => ⟨⟨_, (), rfl, (by rw [he]; rfl), by rw [ht]; exact hP, hD⟩, hS.F ht⟩) hS.2.2 dJ13_stringSize_95d88_37
                  · skip
                    refine lv_iload hx hb dJ13_stringSize_95d88_33 (lv_at hl 0 rfl) ?_
                    refine lv_iload_n hx hb dJ13_stringSize_95d88_35 rfl (lv_at hl 3 rfl) ?_
                    refine lv_iadd hx hb dJ13_stringSize_95d88_36 ?_
                    rw [show ((9 : Int32) + 0) = 9 from by decide]
                    have z10 : 10 ≤ w := (jl_nle (a := w) (b := 10) (by omega) (by decide +kernel)).mp c_1
                    have z100 : 100 ≤ w := (jl_nle (a := w) (b := 100) (by omega) (by decide +kernel)).mp c_2
                    have z1000 : 1000 ≤ w := (jl_nle (a := w) (b := 1000) (by omega) (by decide +kernel)).mp c_3
                    have z10000 : 10000 ≤ w := (jl_nle (a := w) (b := 10000) (by omega) (by decide +kernel)).mp c_4
                    have z100000 : 100000 ≤ w := (jl_nle (a := w) (b := 100000) (by omega) (by decide +kernel)).mp c_5
                    have z1000000 : 1000000 ≤ w := (jl_nle (a := w) (b := 1000000) (by omega) (by decide +kernel)).mp c_6
                    have z10000000 : 10000000 ≤ w := (jl_nle (a := w) (b := 10000000) (by omega) (by decide +kernel)).mp c_7
                    have z100000000 : 100000000 ≤ w := (jl_nle (a := w) (b := 100000000) (by omega) (by decide +kernel)).mp c_8
                    have z1000000000 : w < 1000000000 := Nat.lt_of_not_le (fun z => c_9 ((jl_nle (a := w) (b := 1000000000) (by omega) (by decide +kernel)).mpr z))
                    have he : dgL w = 9 := by rw [dgL, if_pos (show w < 1000000000 by omega), sb_dg, if_neg (show ¬ w < 10 by omega), if_neg (show ¬ w < 100 by omega), if_neg (show ¬ w < 1000 by omega), if_neg (show ¬ w < 10000 by omega), if_neg (show ¬ w < 100000 by omega), if_neg (show ¬ w < 1000000 by omega), if_neg (show ¬ w < 10000000 by omega), if_neg (show ¬ w < 100000000 by omega), if_pos (show w < 1000000000 by omega)]
                    have hP := xP_nil (D := (dC, dI)) (cl := xCl) (H := s.heap)
                    have hD := xD_nil (A := A)
                    refine W.widen (k := 0) (n := 0) (by omega) (by omega) ?_
                    exact W.iret (v := 9) hx hb hr (fun t ht hW => ⟨⟨_, (), rfl, (by rw [he]; rfl), by rw [ht]; exact hP, hD⟩, hS.F ht⟩) hS.2.2 dJ13_stringSize_95d88_37
                · skip
                  refine lv_iload hx hb dJ13_stringSize_95d88_33 (lv_at hl 0 rfl) ?_
                  refine lv_iload_n hx hb dJ13_stringSize_95d88_35 rfl (lv_at hl 3 rfl) ?_
                  refine lv_iadd hx hb dJ13_stringSize_95d88_36 ?_
                  rw [show ((8 : Int32) + 0) = 8 from by decide]
                  have z10 : 10 ≤ w := (jl_nle (a := w) (b := 10) (by omega) (by decide +kernel)).mp c_1
                  have z100 : 100 ≤ w := (jl_nle (a := w) (b := 100) (by omega) (by decide +kernel)).mp c_2
                  have z1000 : 1000 ≤ w := (jl_nle (a := w) (b := 1000) (by omega) (by decide +kernel)).mp c_3
                  have z10000 : 10000 ≤ w := (jl_nle (a := w) (b := 10000) (by omega) (by decide +kernel)).mp c_4
                  have z100000 : 100000 ≤ w := (jl_nle (a := w) (b := 100000) (by omega) (by decide +kernel)).mp c_5
                  have z1000000 : 1000000 ≤ w := (jl_nle (a := w) (b := 1000000) (by omega) (by decide +kernel)).mp c_6
                  have z10000000 : 10000000 ≤ w := (jl_nle (a := w) (b := 10000000) (by omega) (by decide +kernel)).mp c_7
                  have z100000000 : w < 100000000 := Nat.lt_of_not_le (fun z => c_8 ((jl_nle (a := w) (b := 100000000) (by omega) (by decide +kernel)).mpr z))
                  have he : dgL w = 8 := by rw [dgL, if_pos (show w < 1000000000 by omega), sb_dg, if_neg (show ¬ w < 10 by omega), if_neg (show ¬ w < 100 by omega), if_neg (show ¬ w < 1000 by omega), if_neg (show ¬ w < 10000 by omega), if_neg (show ¬ w < 100000 by omega), if_neg (show ¬ w < 1000000 by omega), if_neg (show ¬ w < 10000000 by omega), if_pos (show w < 100000000 by omega)]
                  have hP := xP_nil (D := (dC, dI)) (cl := xCl) (H := s.heap)
                  have hD := xD_nil (A := A)
                  refine W.widen (k := 0) (n := 0) (by omega) (by omega) ?_
                  exact W.iret (v := 8) hx hb hr (fun t ht hW => ⟨⟨_, (), rfl, (by rw [he]; rfl), by rw [ht]; exact hP, hD⟩, hS.F ht⟩) hS.2.2 dJ13_stringSize_95d88_37
              · skip
                refine lv_iload hx hb dJ13_stringSize_95d88_33 (lv_at hl 0 rfl) ?_
                refine lv_iload_n hx hb dJ13_stringSize_95d88_35 rfl (lv_at hl 3 rfl) ?_
                refine lv_iadd hx hb dJ13_stringSize_95d88_36 ?_
                rw [show ((7 : Int32) + 0) = 7 from by decide]
                have z10 : 10 ≤ w := (jl_nle (a := w) (b := 10) (by omega) (by decide +kernel)).mp c_1
                have z100 : 100 ≤ w := (jl_nle (a := w) (b := 100) (by omega) (by decide +kernel)).mp c_2
                have z1000 : 1000 ≤ w := (jl_nle (a := w) (b := 1000) (by omega) (by decide +kernel)).mp c_3
                have z10000 : 10000 ≤ w := (jl_nle (a := w) (b := 10000) (by omega) (by decide +kernel)).mp c_4
                have z100000 : 100000 ≤ w := (jl_nle (a := w) (b := 100000) (by omega) (by decide +kernel)).mp c_5
                have z1000000 : 1000000 ≤ w := (jl_nle (a := w) (b := 1000000) (by omega) (by decide +kernel)).mp c_6
                have z10000000 : w < 10000000 := Nat.lt_of_not_le (fun z => c_7 ((jl_nle (a := w) (b := 10000000) (by omega) (by decide +kernel)).mpr z))
                have he : dgL w = 7 := by rw [dgL, if_pos (show w < 1000000000 by omega), sb_dg, if_neg (show ¬ w < 10 by omega), if_neg (show ¬ w < 100 by omega), if_neg (show ¬ w < 1000 by omega), if_neg (show ¬ w < 10000 by omega), if_neg (show ¬ w < 100000 by omega), if_neg (show ¬ w < 1000000 by omega), if_pos (show w < 10000000 by omega)]
                have hP := xP_nil (D := (dC, dI)) (cl := xCl) (H := s.heap)
                have hD := xD_nil (A := A)
                refine W.widen (k := 0) (n := 0) (by omega) (by omega) ?_
                exact W.iret (v := 7) hx hb hr (fun t ht hW => ⟨⟨_, (), rfl, (by rw [he]; rfl), by rw [ht]; exact hP, hD⟩, hS.F ht⟩) hS.2.2 dJ13_stringSize_95d88_37
            · skip
              refine lv_iload hx hb dJ13_stringSize_95d88_33 (lv_at hl 0 rfl) ?_
              refine lv_iload_n hx hb dJ13_stringSize_95d88_35 rfl (lv_at hl 3 rfl) ?_
              refine lv_iadd hx hb dJ13_stringSize_95d88_36 ?_
              rw [show ((6 : Int32) + 0) = 6 from by decide]
              have z10 : 10 ≤ w := (jl_nle (a := w) (b := 10) (by omega) (by decide +kernel)).mp c_1
              have z100 : 100 ≤ w := (jl_nle (a := w) (b := 100) (by omega) (by decide +kernel)).mp c_2
              have z1000 : 1000 ≤ w := (jl_nle (a := w) (b := 1000) (by omega) (by decide +kernel)).mp c_3
              have z10000 : 10000 ≤ w := (jl_nle (a := w) (b := 10000) (by omega) (by decide +kernel)).mp c_4
              have z100000 : 100000 ≤ w := (jl_nle (a := w) (b := 100000) (by omega) (by decide +kernel)).mp c_5
              have z1000000 : w < 1000000 := Nat.lt_of_not_le (fun z => c_6 ((jl_nle (a := w) (b := 1000000) (by omega) (by decide +kernel)).mpr z))
              have he : dgL w = 6 := by rw [dgL, if_pos (show w < 1000000000 by omega), sb_dg, if_neg (show ¬ w < 10 by omega), if_neg (show ¬ w < 100 by omega), if_neg (show ¬ w < 1000 by omega), if_neg (show ¬ w < 10000 by omega), if_neg (show ¬ w < 100000 by omega), if_pos (show w < 1000000 by omega)]
              have hP := xP_nil (D := (dC, dI)) (cl := xCl) (H := s.heap)
              have hD := xD_nil (A := A)
              refine W.widen (k := 0) (n := 0) (by omega) (by omega) ?_
              exact W.iret (v := 6) hx hb hr (fun t ht hW => ⟨⟨_, (), rfl, (by rw [he]; rfl), by rw [ht]; exact hP, hD⟩, hS.F ht⟩) hS.2.2 dJ13_stringSize_95d88_37
          · skip
            refine lv_iload hx hb dJ13_stringSize_95d88_33 (lv_at hl 0 rfl) ?_
            refine lv_iload_n hx hb dJ13_stringSize_95d88_35 rfl (lv_at hl 3 rfl) ?_
            refine lv_iadd hx hb dJ13_stringSize_95d88_36 ?_
            rw [show ((5 : Int32) + 0) = 5 from by decide]
            have z10 : 10 ≤ w := (jl_nle (a := w) (b := 10) (by omega) (by decide +kernel)).mp c_1
            have z100 : 100 ≤ w := (jl_nle (a := w) (b := 100) (by omega) (by decide +kernel)).mp c_2
            have z1000 : 1000 ≤ w := (jl_nle (a := w) (b := 1000) (by omega) (by decide +kernel)).mp c_3
            have z10000 : 10000 ≤ w := (jl_nle (a := w) (b := 10000) (by omega) (by decide +kernel)).mp c_4
            have z100000 : w < 100000 := Nat.lt_of_not_le (fun z => c_5 ((jl_nle (a := w) (b := 100000) (by omega) (by decide +kernel)).mpr z))
            have he : dgL w = 5 := by rw [dgL, if_pos (show w < 1000000000 by omega), sb_dg, if_neg (show ¬ w < 10 by omega), if_neg (show ¬ w < 100 by omega), if_neg (show ¬ w < 1000 by omega), if_neg (show ¬ w < 10000 by omega), if_pos (show w < 100000 by omega)]
            have hP := xP_nil (D := (dC, dI)) (cl := xCl) (H := s.heap)
            have hD := xD_nil (A := A)
            refine W.widen (k := 0) (n := 0) (by omega) (by omega) ?_
            exact W.iret (v := 5) hx hb hr (fun t ht hW => ⟨⟨_, (), rfl, (by rw [he]; rfl), by rw [ht]; exact hP, hD⟩, hS.F ht⟩) hS.2.2 dJ13_stringSize_95d88_37
        · skip
          refine lv_iload hx hb dJ13_stringSize_95d88_33 (lv_at hl 0 rfl) ?_
          refine lv_iload_n hx hb dJ13_stringSize_95d88_35 rfl (lv_at hl 3 rfl) ?_
          refine lv_iadd hx hb dJ13_stringSize_95d88_36 ?_
          rw [show ((4 : Int32) + 0) = 4 from by decide]
          have z10 : 10 ≤ w := (jl_nle (a := w) (b := 10) (by omega) (by decide +kernel)).mp c_1
          have z100 : 100 ≤ w := (jl_nle (a := w) (b := 100) (by omega) (by decide +kernel)).mp c_2
          have z1000 : 1000 ≤ w := (jl_nle (a := w) (b := 1000) (by omega) (by decide +kernel)).mp c_3
          have z10000 : w < 10000 := Nat.lt_of_not_le (fun z => c_4 ((jl_nle (a := w) (b := 10000) (by omega) (by decide +kernel)).mpr z))
          have he : dgL w = 4 := by rw [dgL, if_pos (show w < 1000000000 by omega), sb_dg, if_neg (show ¬ w < 10 by omega), if_neg (show ¬ w < 100 by omega), if_neg (show ¬ w < 1000 by omega), if_pos (show w < 10000 by omega)]
          have hP := xP_nil (D := (dC, dI)) (cl := xCl) (H := s.heap)
          have hD := xD_nil (A := A)
          refine W.widen (k := 0) (n := 0) (by omega) (by omega) ?_
          exact W.iret (v := 4) hx hb hr (fun t ht hW => ⟨⟨_, (), rfl, (by rw [he]; rfl), by rw [ht]; exact hP, hD⟩, hS.F ht⟩) hS.2.2 dJ13_stringSize_95d88_37
      · skip
        refine lv_iload hx hb dJ13_stringSize_95d88_33 (lv_at hl 0 rfl) ?_
        refine lv_iload_n hx hb dJ13_stringSize_95d88_35 rfl (lv_at hl 3 rfl) ?_
        refine lv_iadd hx hb dJ13_stringSize_95d88_36 ?_
        rw [show ((3 : Int32) + 0) = 3 from by decide]
        have z10 : 10 ≤ w := (jl_nle (a := w) (b := 10) (by omega) (by decide +kernel)).mp c_1
        have z100 : 100 ≤ w := (jl_nle (a := w) (b := 100) (by omega) (by decide +kernel)).mp c_2
        have z1000 : w < 1000 := Nat.lt_of_not_le (fun z => c_3 ((jl_nle (a := w) (b := 1000) (by omega) (by decide +kernel)).mpr z))
        have he : dgL w = 3 := by rw [dgL, if_pos (show w < 1000000000 by omega), sb_dg, if_neg (show ¬ w < 10 by omega), if_neg (show ¬ w < 100 by omega), if_pos (show w < 1000 by omega)]
        have hP := xP_nil (D := (dC, dI)) (cl := xCl) (H := s.heap)
        have hD := xD_nil (A := A)
        refine W.widen (k := 0) (n := 0) (by omega) (by omega) ?_
        exact W.iret (v := 3) hx hb hr (fun t ht hW => ⟨⟨_, (), rfl, (by rw [he]; rfl), by rw [ht]; exact hP, hD⟩, hS.F ht⟩) hS.2.2 dJ13_stringSize_95d88_37
    · skip
      refine lv_iload hx hb dJ13_stringSize_95d88_33 (lv_at hl 0 rfl) ?_
      refine lv_iload_n hx hb dJ13_stringSize_95d88_35 rfl (lv_at hl 3 rfl) ?_
      refine lv_iadd hx hb dJ13_stringSize_95d88_36 ?_
      rw [show ((2 : Int32) + 0) = 2 from by decide]
      have z10 : 10 ≤ w := (jl_nle (a := w) (b := 10) (by omega) (by decide +kernel)).mp c_1
      have z100 : w < 100 := Nat.lt_of_not_le (fun z => c_2 ((jl_nle (a := w) (b := 100) (by omega) (by decide +kernel)).mpr z))
      have he : dgL w = 2 := by rw [dgL, if_pos (show w < 1000000000 by omega), sb_dg, if_neg (show ¬ w < 10 by omega), if_pos (show w < 100 by omega)]
      have hP := xP_nil (D := (dC, dI)) (cl := xCl) (H := s.heap)
      have hD := xD_nil (A := A)
      refine W.widen (k := 0) (n := 0) (by omega) (by omega) ?_
      exact W.iret (v := 2) hx hb hr (fun t ht hW => ⟨⟨_, (), rfl, (by rw [he]; rfl), by rw [ht]; exact hP, hD⟩, hS.F ht⟩) hS.2.2 dJ13_stringSize_95d88_37
  · skip
    refine lv_iload hx hb dJ13_stringSize_95d88_33 (lv_at hl 0 rfl) ?_
    refine lv_iload_n hx hb dJ13_stringSize_95d88_35 rfl (lv_at hl 3 rfl) ?_
    refine lv_iadd hx hb dJ13_stringSize_95d88_36 ?_
    rw [show ((1 : Int32) + 0) = 1 from by decide]
    have z10 : w < 10 := Nat.lt_of_not_le (fun z => c_1 ((jl_nle (a := w) (b := 10) (by omega) (by decide +kernel)).mpr z))
    have he : dgL w = 1 := by rw [dgL, if_pos (show w < 1000000000 by omega), sb_dg, if_pos (show w < 10 by omega)]
    have hP := xP_nil (D := (dC, dI)) (cl := xCl) (H := s.heap)
    have hD := xD_nil (A := A)
    refine W.widen (k := 0) (n := 0) (by omega) (by omega) ?_
    exact W.iret (v := 1) hx hb hr (fun t ht hW => ⟨⟨_, (), rfl, (by rw [he]; rfl), by rw [ht]; exact hP, hD⟩, hS.F ht⟩) hS.2.2 dJ13_stringSize_95d88_37
noncomputable def dz_p04c_7 : List (Nat × Instr × Nat) := [(0, (.iload_n 2, 1)), (1, (.istore 7, 2)), (3, (.lload_n 0, 1)), (4, (.lconst 0, 1)), (5, (.lcmp, 1)), (6, (.ifCond .ge 7, 3)), (9, (.iconst 1, 1)), (10, (.goto 4, 3)), (13, (.iconst 0, 1)), (14, (.istore 8, 2)), (16, (.iload 8, 2)), (18, (.ifCond .ne 6, 3)), (21, (.lload_n 0, 1)), (22, (.lneg, 1)), (23, (.lstore_n 0, 1)), (24, (.lload_n 0, 1)), (25, (.ldc2_w 129, 3)), (28, (.lcmp, 1)), (29, (.ifCond .gt 53, 3)), (32, (.lload_n 0, 1)), (33, (.ldc2_w 131, 3)), (36, (.ldiv, 1)), (37, (.lstore 4, 2)), (39, (.lload 4, 2)), (41, (.ldc2_w 131, 3)), (44, (.lmul, 1)), (45, (.lload_n 0, 1)), (46, (.lsub, 1)), (47, (.l2i, 1)), (48, (.istore 6, 2)), (50, (.lload 4, 2)), (52, (.lstore_n 0, 1)), (53, (.aload_n 3, 1)), (54, (.iinc 7 (-1), 3)), (57, (.iload 7, 2)), (59, (.getstatic 133, 3)), (62, (.iload 6, 2)), (64, (.baload, 1)), (65, (.bastore, 1)), (66, (.aload_n 3, 1))]
theorem dy_p04c_7 : dz_ok cJ13_getChars_11360 dz_p04c_7 = true := by decide +kernel
theorem dJ13_getChars_11360_0 : decode cJ13_getChars_11360 0 = .ok (.iload_n 2, 1) := dz_at (i := 0) dy_p04c_7 rfl
theorem dJ13_getChars_11360_1 : decode cJ13_getChars_11360 1 = .ok (.istore 7, 2) := dz_at (i := 1) dy_p04c_7 rfl
theorem dJ13_getChars_11360_3 : decode cJ13_getChars_11360 3 = .ok (.lload_n 0, 1) := dz_at (i := 2) dy_p04c_7 rfl
theorem dJ13_getChars_11360_4 : decode cJ13_getChars_11360 4 = .ok (.lconst 0, 1) := dz_at (i := 3) dy_p04c_7 rfl
theorem dJ13_getChars_11360_5 : decode cJ13_getChars_11360 5 = .ok (.lcmp, 1) := dz_at (i := 4) dy_p04c_7 rfl
theorem dJ13_getChars_11360_6 : decode cJ13_getChars_11360 6 = .ok (.ifCond .ge 7, 3) := dz_at (i := 5) dy_p04c_7 rfl
theorem dJ13_getChars_11360_9 : decode cJ13_getChars_11360 9 = .ok (.iconst 1, 1) := dz_at (i := 6) dy_p04c_7 rfl
theorem dJ13_getChars_11360_10 : decode cJ13_getChars_11360 10 = .ok (.goto 4, 3) := dz_at (i := 7) dy_p04c_7 rfl
theorem dJ13_getChars_11360_13 : decode cJ13_getChars_11360 13 = .ok (.iconst 0, 1) := dz_at (i := 8) dy_p04c_7 rfl
theorem dJ13_getChars_11360_14 : decode cJ13_getChars_11360 14 = .ok (.istore 8, 2) := dz_at (i := 9) dy_p04c_7 rfl
theorem dJ13_getChars_11360_16 : decode cJ13_getChars_11360 16 = .ok (.iload 8, 2) := dz_at (i := 10) dy_p04c_7 rfl
theorem dJ13_getChars_11360_18 : decode cJ13_getChars_11360 18 = .ok (.ifCond .ne 6, 3) := dz_at (i := 11) dy_p04c_7 rfl
theorem dJ13_getChars_11360_21 : decode cJ13_getChars_11360 21 = .ok (.lload_n 0, 1) := dz_at (i := 12) dy_p04c_7 rfl
theorem dJ13_getChars_11360_22 : decode cJ13_getChars_11360 22 = .ok (.lneg, 1) := dz_at (i := 13) dy_p04c_7 rfl
theorem dJ13_getChars_11360_23 : decode cJ13_getChars_11360 23 = .ok (.lstore_n 0, 1) := dz_at (i := 14) dy_p04c_7 rfl
theorem dJ13_getChars_11360_24 : decode cJ13_getChars_11360 24 = .ok (.lload_n 0, 1) := dz_at (i := 15) dy_p04c_7 rfl
theorem dJ13_getChars_11360_25 : decode cJ13_getChars_11360 25 = .ok (.ldc2_w 129, 3) := dz_at (i := 16) dy_p04c_7 rfl
theorem dJ13_getChars_11360_28 : decode cJ13_getChars_11360 28 = .ok (.lcmp, 1) := dz_at (i := 17) dy_p04c_7 rfl
theorem dJ13_getChars_11360_29 : decode cJ13_getChars_11360 29 = .ok (.ifCond .gt 53, 3) := dz_at (i := 18) dy_p04c_7 rfl
theorem dJ13_getChars_11360_32 : decode cJ13_getChars_11360 32 = .ok (.lload_n 0, 1) := dz_at (i := 19) dy_p04c_7 rfl
theorem dJ13_getChars_11360_33 : decode cJ13_getChars_11360 33 = .ok (.ldc2_w 131, 3) := dz_at (i := 20) dy_p04c_7 rfl
theorem dJ13_getChars_11360_36 : decode cJ13_getChars_11360 36 = .ok (.ldiv, 1) := dz_at (i := 21) dy_p04c_7 rfl
theorem dJ13_getChars_11360_37 : decode cJ13_getChars_11360 37 = .ok (.lstore 4, 2) := dz_at (i := 22) dy_p04c_7 rfl
theorem dJ13_getChars_11360_39 : decode cJ13_getChars_11360 39 = .ok (.lload 4, 2) := dz_at (i := 23) dy_p04c_7 rfl
theorem dJ13_getChars_11360_41 : decode cJ13_getChars_11360 41 = .ok (.ldc2_w 131, 3) := dz_at (i := 24) dy_p04c_7 rfl
theorem dJ13_getChars_11360_44 : decode cJ13_getChars_11360 44 = .ok (.lmul, 1) := dz_at (i := 25) dy_p04c_7 rfl
theorem dJ13_getChars_11360_45 : decode cJ13_getChars_11360 45 = .ok (.lload_n 0, 1) := dz_at (i := 26) dy_p04c_7 rfl
theorem dJ13_getChars_11360_46 : decode cJ13_getChars_11360 46 = .ok (.lsub, 1) := dz_at (i := 27) dy_p04c_7 rfl
theorem dJ13_getChars_11360_47 : decode cJ13_getChars_11360 47 = .ok (.l2i, 1) := dz_at (i := 28) dy_p04c_7 rfl
theorem dJ13_getChars_11360_48 : decode cJ13_getChars_11360 48 = .ok (.istore 6, 2) := dz_at (i := 29) dy_p04c_7 rfl
theorem dJ13_getChars_11360_50 : decode cJ13_getChars_11360 50 = .ok (.lload 4, 2) := dz_at (i := 30) dy_p04c_7 rfl
theorem dJ13_getChars_11360_52 : decode cJ13_getChars_11360 52 = .ok (.lstore_n 0, 1) := dz_at (i := 31) dy_p04c_7 rfl
theorem dJ13_getChars_11360_53 : decode cJ13_getChars_11360 53 = .ok (.aload_n 3, 1) := dz_at (i := 32) dy_p04c_7 rfl
theorem dJ13_getChars_11360_54 : decode cJ13_getChars_11360 54 = .ok (.iinc 7 (-1), 3) := dz_at (i := 33) dy_p04c_7 rfl
theorem dJ13_getChars_11360_57 : decode cJ13_getChars_11360 57 = .ok (.iload 7, 2) := dz_at (i := 34) dy_p04c_7 rfl
theorem dJ13_getChars_11360_59 : decode cJ13_getChars_11360 59 = .ok (.getstatic 133, 3) := dz_at (i := 35) dy_p04c_7 rfl
theorem dJ13_getChars_11360_62 : decode cJ13_getChars_11360 62 = .ok (.iload 6, 2) := dz_at (i := 36) dy_p04c_7 rfl
theorem dJ13_getChars_11360_64 : decode cJ13_getChars_11360 64 = .ok (.baload, 1) := dz_at (i := 37) dy_p04c_7 rfl
theorem dJ13_getChars_11360_65 : decode cJ13_getChars_11360 65 = .ok (.bastore, 1) := dz_at (i := 38) dy_p04c_7 rfl
theorem dJ13_getChars_11360_66 : decode cJ13_getChars_11360 66 = .ok (.aload_n 3, 1) := dz_at (i := 39) dy_p04c_7 rfl
noncomputable def dz_p04c_8 : List (Nat × Instr × Nat) := [(67, (.iinc 7 (-1), 3)), (70, (.iload 7, 2)), (72, (.getstatic 137, 3)), (75, (.iload 6, 2)), (77, (.baload, 1)), (78, (.bastore, 1)), (79, (.goto (-55), 3)), (82, (.lload_n 0, 1)), (83, (.l2i, 1)), (84, (.istore 10, 2)), (86, (.iload 10, 2)), (88, (.bipush (-100), 2)), (90, (.if_icmp .gt 53, 3)), (93, (.iload 10, 2)), (95, (.bipush 100, 2)), (97, (.idiv, 1)), (98, (.istore 9, 2)), (100, (.iload 9, 2)), (102, (.bipush 100, 2)), (104, (.imul, 1)), (105, (.iload 10, 2)), (107, (.isub, 1)), (108, (.istore 6, 2)), (110, (.iload 9, 2)), (112, (.istore 10, 2)), (114, (.aload_n 3, 1)), (115, (.iinc 7 (-1), 3)), (118, (.iload 7, 2)), (120, (.getstatic 133, 3)), (123, (.iload 6, 2)), (125, (.baload, 1)), (126, (.bastore, 1)), (127, (.aload_n 3, 1)), (128, (.iinc 7 (-1), 3)), (131, (.iload 7, 2)), (133, (.getstatic 137, 3)), (136, (.iload 6, 2)), (138, (.baload, 1)), (139, (.bastore, 1)), (140, (.goto (-54), 3))]
theorem dy_p04c_8 : dz_ok cJ13_getChars_11360 dz_p04c_8 = true := by decide +kernel
theorem dJ13_getChars_11360_67 : decode cJ13_getChars_11360 67 = .ok (.iinc 7 (-1), 3) := dz_at (i := 0) dy_p04c_8 rfl
theorem dJ13_getChars_11360_70 : decode cJ13_getChars_11360 70 = .ok (.iload 7, 2) := dz_at (i := 1) dy_p04c_8 rfl
theorem dJ13_getChars_11360_72 : decode cJ13_getChars_11360 72 = .ok (.getstatic 137, 3) := dz_at (i := 2) dy_p04c_8 rfl
theorem dJ13_getChars_11360_75 : decode cJ13_getChars_11360 75 = .ok (.iload 6, 2) := dz_at (i := 3) dy_p04c_8 rfl
theorem dJ13_getChars_11360_77 : decode cJ13_getChars_11360 77 = .ok (.baload, 1) := dz_at (i := 4) dy_p04c_8 rfl
theorem dJ13_getChars_11360_78 : decode cJ13_getChars_11360 78 = .ok (.bastore, 1) := dz_at (i := 5) dy_p04c_8 rfl
theorem dJ13_getChars_11360_79 : decode cJ13_getChars_11360 79 = .ok (.goto (-55), 3) := dz_at (i := 6) dy_p04c_8 rfl
theorem dJ13_getChars_11360_82 : decode cJ13_getChars_11360 82 = .ok (.lload_n 0, 1) := dz_at (i := 7) dy_p04c_8 rfl
theorem dJ13_getChars_11360_83 : decode cJ13_getChars_11360 83 = .ok (.l2i, 1) := dz_at (i := 8) dy_p04c_8 rfl
theorem dJ13_getChars_11360_84 : decode cJ13_getChars_11360 84 = .ok (.istore 10, 2) := dz_at (i := 9) dy_p04c_8 rfl
theorem dJ13_getChars_11360_86 : decode cJ13_getChars_11360 86 = .ok (.iload 10, 2) := dz_at (i := 10) dy_p04c_8 rfl
theorem dJ13_getChars_11360_88 : decode cJ13_getChars_11360 88 = .ok (.bipush (-100), 2) := dz_at (i := 11) dy_p04c_8 rfl
theorem dJ13_getChars_11360_90 : decode cJ13_getChars_11360 90 = .ok (.if_icmp .gt 53, 3) := dz_at (i := 12) dy_p04c_8 rfl
theorem dJ13_getChars_11360_93 : decode cJ13_getChars_11360 93 = .ok (.iload 10, 2) := dz_at (i := 13) dy_p04c_8 rfl
theorem dJ13_getChars_11360_95 : decode cJ13_getChars_11360 95 = .ok (.bipush 100, 2) := dz_at (i := 14) dy_p04c_8 rfl
theorem dJ13_getChars_11360_97 : decode cJ13_getChars_11360 97 = .ok (.idiv, 1) := dz_at (i := 15) dy_p04c_8 rfl
theorem dJ13_getChars_11360_98 : decode cJ13_getChars_11360 98 = .ok (.istore 9, 2) := dz_at (i := 16) dy_p04c_8 rfl
theorem dJ13_getChars_11360_100 : decode cJ13_getChars_11360 100 = .ok (.iload 9, 2) := dz_at (i := 17) dy_p04c_8 rfl
theorem dJ13_getChars_11360_102 : decode cJ13_getChars_11360 102 = .ok (.bipush 100, 2) := dz_at (i := 18) dy_p04c_8 rfl
theorem dJ13_getChars_11360_104 : decode cJ13_getChars_11360 104 = .ok (.imul, 1) := dz_at (i := 19) dy_p04c_8 rfl
theorem dJ13_getChars_11360_105 : decode cJ13_getChars_11360 105 = .ok (.iload 10, 2) := dz_at (i := 20) dy_p04c_8 rfl
theorem dJ13_getChars_11360_107 : decode cJ13_getChars_11360 107 = .ok (.isub, 1) := dz_at (i := 21) dy_p04c_8 rfl
theorem dJ13_getChars_11360_108 : decode cJ13_getChars_11360 108 = .ok (.istore 6, 2) := dz_at (i := 22) dy_p04c_8 rfl
theorem dJ13_getChars_11360_110 : decode cJ13_getChars_11360 110 = .ok (.iload 9, 2) := dz_at (i := 23) dy_p04c_8 rfl
theorem dJ13_getChars_11360_112 : decode cJ13_getChars_11360 112 = .ok (.istore 10, 2) := dz_at (i := 24) dy_p04c_8 rfl
theorem dJ13_getChars_11360_114 : decode cJ13_getChars_11360 114 = .ok (.aload_n 3, 1) := dz_at (i := 25) dy_p04c_8 rfl
theorem dJ13_getChars_11360_115 : decode cJ13_getChars_11360 115 = .ok (.iinc 7 (-1), 3) := dz_at (i := 26) dy_p04c_8 rfl
theorem dJ13_getChars_11360_118 : decode cJ13_getChars_11360 118 = .ok (.iload 7, 2) := dz_at (i := 27) dy_p04c_8 rfl
theorem dJ13_getChars_11360_120 : decode cJ13_getChars_11360 120 = .ok (.getstatic 133, 3) := dz_at (i := 28) dy_p04c_8 rfl
theorem dJ13_getChars_11360_123 : decode cJ13_getChars_11360 123 = .ok (.iload 6, 2) := dz_at (i := 29) dy_p04c_8 rfl
theorem dJ13_getChars_11360_125 : decode cJ13_getChars_11360 125 = .ok (.baload, 1) := dz_at (i := 30) dy_p04c_8 rfl
theorem dJ13_getChars_11360_126 : decode cJ13_getChars_11360 126 = .ok (.bastore, 1) := dz_at (i := 31) dy_p04c_8 rfl
theorem dJ13_getChars_11360_127 : decode cJ13_getChars_11360 127 = .ok (.aload_n 3, 1) := dz_at (i := 32) dy_p04c_8 rfl
theorem dJ13_getChars_11360_128 : decode cJ13_getChars_11360 128 = .ok (.iinc 7 (-1), 3) := dz_at (i := 33) dy_p04c_8 rfl
theorem dJ13_getChars_11360_131 : decode cJ13_getChars_11360 131 = .ok (.iload 7, 2) := dz_at (i := 34) dy_p04c_8 rfl
theorem dJ13_getChars_11360_133 : decode cJ13_getChars_11360 133 = .ok (.getstatic 137, 3) := dz_at (i := 35) dy_p04c_8 rfl
theorem dJ13_getChars_11360_136 : decode cJ13_getChars_11360 136 = .ok (.iload 6, 2) := dz_at (i := 36) dy_p04c_8 rfl
theorem dJ13_getChars_11360_138 : decode cJ13_getChars_11360 138 = .ok (.baload, 1) := dz_at (i := 37) dy_p04c_8 rfl
theorem dJ13_getChars_11360_139 : decode cJ13_getChars_11360 139 = .ok (.bastore, 1) := dz_at (i := 38) dy_p04c_8 rfl
theorem dJ13_getChars_11360_140 : decode cJ13_getChars_11360 140 = .ok (.goto (-54), 3) := dz_at (i := 39) dy_p04c_8 rfl
noncomputable def dz_p04c_9 : List (Nat × Instr × Nat) := [(143, (.aload_n 3, 1)), (144, (.iinc 7 (-1), 3)), (147, (.iload 7, 2)), (149, (.getstatic 133, 3)), (152, (.iload 10, 2)), (154, (.ineg, 1)), (155, (.baload, 1)), (156, (.bastore, 1)), (157, (.iload 10, 2)), (159, (.bipush (-9), 2)), (161, (.if_icmp .ge 17, 3)), (164, (.aload_n 3, 1)), (165, (.iinc 7 (-1), 3)), (168, (.iload 7, 2)), (170, (.getstatic 137, 3)), (173, (.iload 10, 2)), (175, (.ineg, 1)), (176, (.baload, 1)), (177, (.bastore, 1)), (178, (.iload 8, 2)), (180, (.ifCond .eq 12, 3)), (183, (.aload_n 3, 1)), (184, (.iinc 7 (-1), 3)), (187, (.iload 7, 2)), (189, (.bipush 45, 2)), (191, (.bastore, 1)), (192, (.iload 7, 2)), (194, (.ireturn, 1))]
theorem dy_p04c_9 : dz_ok cJ13_getChars_11360 dz_p04c_9 = true := by decide +kernel
theorem dJ13_getChars_11360_143 : decode cJ13_getChars_11360 143 = .ok (.aload_n 3, 1) := dz_at (i := 0) dy_p04c_9 rfl
theorem dJ13_getChars_11360_144 : decode cJ13_getChars_11360 144 = .ok (.iinc 7 (-1), 3) := dz_at (i := 1) dy_p04c_9 rfl
theorem dJ13_getChars_11360_147 : decode cJ13_getChars_11360 147 = .ok (.iload 7, 2) := dz_at (i := 2) dy_p04c_9 rfl
theorem dJ13_getChars_11360_149 : decode cJ13_getChars_11360 149 = .ok (.getstatic 133, 3) := dz_at (i := 3) dy_p04c_9 rfl
theorem dJ13_getChars_11360_152 : decode cJ13_getChars_11360 152 = .ok (.iload 10, 2) := dz_at (i := 4) dy_p04c_9 rfl
theorem dJ13_getChars_11360_154 : decode cJ13_getChars_11360 154 = .ok (.ineg, 1) := dz_at (i := 5) dy_p04c_9 rfl
theorem dJ13_getChars_11360_155 : decode cJ13_getChars_11360 155 = .ok (.baload, 1) := dz_at (i := 6) dy_p04c_9 rfl
theorem dJ13_getChars_11360_156 : decode cJ13_getChars_11360 156 = .ok (.bastore, 1) := dz_at (i := 7) dy_p04c_9 rfl
theorem dJ13_getChars_11360_157 : decode cJ13_getChars_11360 157 = .ok (.iload 10, 2) := dz_at (i := 8) dy_p04c_9 rfl
theorem dJ13_getChars_11360_159 : decode cJ13_getChars_11360 159 = .ok (.bipush (-9), 2) := dz_at (i := 9) dy_p04c_9 rfl
theorem dJ13_getChars_11360_161 : decode cJ13_getChars_11360 161 = .ok (.if_icmp .ge 17, 3) := dz_at (i := 10) dy_p04c_9 rfl
theorem dJ13_getChars_11360_164 : decode cJ13_getChars_11360 164 = .ok (.aload_n 3, 1) := dz_at (i := 11) dy_p04c_9 rfl
theorem dJ13_getChars_11360_165 : decode cJ13_getChars_11360 165 = .ok (.iinc 7 (-1), 3) := dz_at (i := 12) dy_p04c_9 rfl
theorem dJ13_getChars_11360_168 : decode cJ13_getChars_11360 168 = .ok (.iload 7, 2) := dz_at (i := 13) dy_p04c_9 rfl
theorem dJ13_getChars_11360_170 : decode cJ13_getChars_11360 170 = .ok (.getstatic 137, 3) := dz_at (i := 14) dy_p04c_9 rfl
theorem dJ13_getChars_11360_173 : decode cJ13_getChars_11360 173 = .ok (.iload 10, 2) := dz_at (i := 15) dy_p04c_9 rfl
theorem dJ13_getChars_11360_175 : decode cJ13_getChars_11360 175 = .ok (.ineg, 1) := dz_at (i := 16) dy_p04c_9 rfl
theorem dJ13_getChars_11360_176 : decode cJ13_getChars_11360 176 = .ok (.baload, 1) := dz_at (i := 17) dy_p04c_9 rfl
theorem dJ13_getChars_11360_177 : decode cJ13_getChars_11360 177 = .ok (.bastore, 1) := dz_at (i := 18) dy_p04c_9 rfl
theorem dJ13_getChars_11360_178 : decode cJ13_getChars_11360 178 = .ok (.iload 8, 2) := dz_at (i := 19) dy_p04c_9 rfl
theorem dJ13_getChars_11360_180 : decode cJ13_getChars_11360 180 = .ok (.ifCond .eq 12, 3) := dz_at (i := 20) dy_p04c_9 rfl
theorem dJ13_getChars_11360_183 : decode cJ13_getChars_11360 183 = .ok (.aload_n 3, 1) := dz_at (i := 21) dy_p04c_9 rfl
theorem dJ13_getChars_11360_184 : decode cJ13_getChars_11360 184 = .ok (.iinc 7 (-1), 3) := dz_at (i := 22) dy_p04c_9 rfl
theorem dJ13_getChars_11360_187 : decode cJ13_getChars_11360 187 = .ok (.iload 7, 2) := dz_at (i := 23) dy_p04c_9 rfl
theorem dJ13_getChars_11360_189 : decode cJ13_getChars_11360 189 = .ok (.bipush 45, 2) := dz_at (i := 24) dy_p04c_9 rfl
theorem dJ13_getChars_11360_191 : decode cJ13_getChars_11360 191 = .ok (.bastore, 1) := dz_at (i := 25) dy_p04c_9 rfl
theorem dJ13_getChars_11360_192 : decode cJ13_getChars_11360 192 = .ok (.iload 7, 2) := dz_at (i := 26) dy_p04c_9 rfl
theorem dJ13_getChars_11360_194 : decode cJ13_getChars_11360 194 = .ok (.ireturn, 1) := dz_at (i := 27) dy_p04c_9 rfl
set_option maxHeartbeats 4000000 in
set_option maxRecDepth 100000 in
theorem k_J13_getChars_11360 (l : Launch) (dC : Nat → ClassId) (dI : Nat → Nat → Nat) (cB : ClassId) (w0 : Nat) (q0 : Nat) (v : Nat) (mm : Nat) (f : Nat → Int32) (sz N : Nat) (hwb : w0 < 10000000000000000) (hq : dgL w0 ≤ q0) (hqm : q0 ≤ mm) (hmb : mm ≤ 34) (hf : sb_Fit f) : Met l yJ13_getChars_11360 wsJ13_getChars_11360 ({ frames := 0, cells := 0, slots := 0, locals := 0 }) (va_Pc [.long (lN w0), .int (nI q0), .ref v] (xT (dC, dI) xCl [(v, eY cB mm f)] [(cB, .byte)] sz N)) (va_Qi (fun (r : Int32) (u : (Nat → Int32)) => sb_Fit u) (fun (u : (Nat → Int32)) t => xW (dC, dI) xCl [(v, eY cB mm u)] (va_A [(v, eY cB mm f)] sz) t) (va_A [(v, eY cB mm f)] sz)) 0 0 (va_A [(v, eY cB mm f)] sz) := by
  refine Met.ofW (cc := cJ13_getChars_11360) (maxL := 11) (ret := (some .int)) (by decide +kernel) rfl ?_
  intro p e s m args below meth c s₁ B hml hv
  obtain ⟨rfl, ⟨hsz, hP, hK, hD0, hN, hG⟩, hT⟩ := hv
  have hx := B.exec
  have hb := B.bytes
  have hr := B.returns
  have hts := atoms_spec (ws := wsJ13_getChars_11360) B.pre
  have hown : s.vm.findClass RJ13 = some m.cls := findClass_of_methodNamed B.named
  have hlocks := B.notSynchronized
  subst hsz
  have hAN : ∀ q, va_A [(v, eY cB mm f)] s.heap.size q → N ≤ q := xA_N hD0 hN
  have hD := hD0.self (sz := s.heap.size)
  generalize hAe : va_A [(v, eY cB mm f)] s.heap.size = A at hD hAN ⊢
  have hA : ∀ q : Nat, s.heap.size ≤ q → A q := fun q h => by rw [← hAe]; exact Or.inr h
  have hS : va_S A s.heap s.heap [] := va_S.rf
  have hP : va_P (dC, dI) xCl [(v, eY cB mm f)] s.heap := hP
  obtain ⟨hTc, ⟨tO, tT, fO, fT, hTo, hTt, hTa, hTb, hTf, hTg⟩, ⟨adK, adV, hTs, hTr0, hTr1, hTr2⟩, ⟨aE, hTe⟩, hTn⟩ := id hT
  have hl := lv_entry ([.long (lN w0), .int (nI q0), .ref v]) (n := 11) (Nat.le_of_ble_eq_true rfl)
  rw [lg_entry_eq]
  generalize (lg_sl ([.long (lN w0), .int (nI q0), .ref v]) ++ List.replicate (11 - (lg_sl ([.long (lN w0), .int (nI q0), .ref v])).length) Slot.unset).toArray = ls at hl ⊢
  have hl : lv_has ls 11 [(0, .long (lN w0)), (2, .int (nI q0)), (3, .ref v)] := hl
  refine lv_iload_n hx hb dJ13_getChars_11360_0 rfl (lv_at hl 1 rfl) ?_
  refine lv_istore (lv' := [(7, .int (nI q0)), (0, .long (lN w0)), (2, .int (nI q0)), (3, .ref v)]) hx hb dJ13_getChars_11360_1 hl (by decide +kernel) rfl (fun ls hl => ?_)
  refine lv_lload_n hx hb dJ13_getChars_11360_3 rfl (lv_at hl 1 rfl) ?_
  refine lv_lconst (v := 0) hx hb dJ13_getChars_11360_4 (by decide +kernel) ?_
  refine xc_ge (tgt := 13) hx hb dJ13_getChars_11360_5 dJ13_getChars_11360_6 (by decide +kernel) (fun c9 => ?_) (fun c9 => absurd (jl_nonneg (by omega)) c9)
  refine lv_iconst (v := 0) hx hb dJ13_getChars_11360_13 (by decide +kernel) ?_
  refine lv_istore (lv' := [(8, .int 0), (7, .int (nI q0)), (0, .long (lN w0)), (2, .int (nI q0)), (3, .ref v)]) hx hb dJ13_getChars_11360_14 hl (by decide +kernel) rfl (fun ls hl => ?_)
  refine lv_iload hx hb dJ13_getChars_11360_16 (lv_at hl 0 rfl) ?_
  refine lv_if_ne (tgt := 24) hx hb dJ13_getChars_11360_18 (by decide +kernel) (fun c9 => absurd c9 (by decide +kernel)) (fun _ => ?_)
  refine lv_lload_n hx hb dJ13_getChars_11360_21 rfl (lv_at hl 2 rfl) ?_
  refine lv_lneg hx hb dJ13_getChars_11360_22 ?_
  refine lv_lstore_n (lv' := [(0, .long (-(lN w0))), (8, .int 0), (7, .int (nI q0)), (2, .int (nI q0)), (3, .ref v)]) hx hb dJ13_getChars_11360_23 rfl hl (by decide +kernel) rfl (fun ls hl => ?_)
  have loop_a : ∀ (k w q : Nat) (f : Nat → Int32) (H : Heap) (locs : List Loc) (ls : Array Slot), w < k → w < 10000000000000000 → dgL w ≤ q → q ≤ mm → sb_Fit f → va_P (dC, dI) xCl [(v, eY cB mm f)] H → va_D A [(v, eY cB mm f)] → va_S A s.heap H locs → lv_has ls 11 [(0, .long (-(lN w))), (3, .ref v), (7, .int (nI q)), (8, .int 0)] → W p l e (headSpec wsJ13_getChars_11360 ({ frames := 0, cells := 0, slots := 0, locals := 0 } : Room)).room s m ([.long (lN w0), .int (nI q0), .ref v]).toArray below meth c H locs 0 0 (MQ below (va_Qi (fun (r : Int32) (u : (Nat → Int32)) => sb_Fit u) (fun (u : (Nat → Int32)) t => xW (dC, dI) xCl [(v, eY cB mm u)] A t) A) ([.long (lN w0), .int (nI q0), .ref v]).toArray s 0 0 A) (F0 m 24 ls []) := by
    intro k
    induction k with
    | zero => intro w q f H locs ls hk; exact absurd hk (Nat.not_lt_zero _)
    | succ k ih_a =>
      intro w q f H locs ls hk hwb hq hqm hf hP hD hS hl
      have hd0 := dgL_pos w
      have hd1 := dgL_pos (w / 100)
      refine lv_lload_n hx hb dJ13_getChars_11360_24 rfl (lv_at hl 0 rfl) ?_
      refine lv_ldc2 (own := RJ13) (index := 129) (v := (-2147483648)) hx hb hown (hts (.constantLong RJ13 129 (-2147483648)) (by decide +kernel)) dJ13_getChars_11360_25 ?_
      refine xc_gt (tgt := 82) hx hb dJ13_getChars_11360_28 dJ13_getChars_11360_29 (by decide +kernel) (fun c_1 => ?_) (fun c_1 => ?_)
      · skip
        have z_c_1 : w < 2147483648 := (jl_nlt (a := 2147483648) (b := w) (by decide +kernel) (by omega)).mp c_1
        refine lv_lload_n hx hb dJ13_getChars_11360_82 rfl (lv_at hl 0 rfl) ?_
        refine lv_l2i (v := ((-(lN w)).toInt32)) hx hb dJ13_getChars_11360_83 rfl ?_
        rw [show (((-(lN w)).toInt32) : Int32) = (-(nI w)) from jl_neg32 w]
        refine lv_istore (lv' := [(10, .int (-(nI w))), (0, .long (-(lN w))), (3, .ref v), (7, .int (nI q)), (8, .int 0)]) hx hb dJ13_getChars_11360_84 hl (by decide +kernel) rfl (fun ls hl => ?_)
        have loop_b : ∀ (k w q : Nat) (f : Nat → Int32) (H : Heap) (locs : List Loc) (ls : Array Slot), w < k → w < 2 ^ 31 → dgL w ≤ q → q ≤ mm → sb_Fit f → va_P (dC, dI) xCl [(v, eY cB mm f)] H → va_D A [(v, eY cB mm f)] → va_S A s.heap H locs → lv_has ls 11 [(10, .int (-(nI w))), (3, .ref v), (7, .int (nI q)), (8, .int 0)] → W p l e (headSpec wsJ13_getChars_11360 ({ frames := 0, cells := 0, slots := 0, locals := 0 } : Room)).room s m ([.long (lN w0), .int (nI q0), .ref v]).toArray below meth c H locs 0 0 (MQ below (va_Qi (fun (r : Int32) (u : (Nat → Int32)) => sb_Fit u) (fun (u : (Nat → Int32)) t => xW (dC, dI) xCl [(v, eY cB mm u)] A t) A) ([.long (lN w0), .int (nI q0), .ref v]).toArray s 0 0 A) (F0 m 86 ls []) := by
          intro k
          induction k with
          | zero => intro w q f H locs ls hk; exact absurd hk (Nat.not_lt_zero _)
          | succ k ih_b =>
            intro w q f H locs ls hk hwb hq hqm hf hP hD hS hl
            have hd0 := dgL_pos w
            have hd1 := dgL_pos (w / 100)
            refine lv_iload hx hb dJ13_getChars_11360_86 (lv_at hl 0 rfl) ?_
            refine lv_bipush (v := (-100)) hx hb dJ13_getChars_11360_88 (by decide +kernel) ?_
            refine lv_icmp_gt (tgt := 143) hx hb dJ13_getChars_11360_90 (by decide +kernel) (fun c_2 => ?_) (fun c_2 => ?_)
            · skip
              have z_c_2 : w < 100 := (sb_nlt (a := 100) (b := w) (by decide +kernel) (by omega)).mp c_2
              refine lv_aload_n hx hb dJ13_getChars_11360_143 rfl (lv_at hl 1 rfl) ?_
              refine lv_iinc (v := (nI (q - 1))) (lv' := [(7, .int (nI (q - 1))), (10, .int (-(nI w))), (3, .ref v), (8, .int 0)]) hx hb dJ13_getChars_11360_144 hl (k := 2) rfl (sb_m1 (by omega)) (by decide +kernel) rfl (fun ls hl => ?_)
              refine lv_iload hx hb dJ13_getChars_11360_147 (lv_at hl 0 rfl) ?_
              refine va_gets hx hb (va_Z.narrow hTo hAN) hS hown (hts (.fieldLink RJ13 133 "java/lang/Integer" "DigitOnes" "[B") (by decide +kernel)) (fun _ h9 => h9) dJ13_getChars_11360_149 ?_
              refine lv_iload hx hb dJ13_getChars_11360_152 (lv_at hl 1 rfl) ?_
              refine lv_ineg hx hb dJ13_getChars_11360_154 ?_
              rw [show ((-(-(nI w))) : Int32) = (nI w) from Int32.neg_neg]
              refine va_tb hx hb (va_T.narrow hTa hAN) hS (vp_in_nI (n := w) (N := 100) (by omega) (by decide +kernel)) rfl dJ13_getChars_11360_155 ?_
              refine va_bast hx hb hK hP hD hS 0 0 rfl rfl (vp_in_nI (n := (q - 1)) (N := mm) (by omega) (by omega)) dJ13_getChars_11360_156 (fun H locs hP hD hS => ?_)
              have hP : va_P (dC, dI) xCl [(v, eY cB mm (upd f (nI (q - 1)).toNatClampNeg (vp_nar .byte (fO (nI w).toNatClampNeg))))] H := hP
              have hD : va_D A [(v, eY cB mm (upd f (nI (q - 1)).toNatClampNeg (vp_nar .byte (fO (nI w).toNatClampNeg))))] := hD
              obtain ⟨f_3, hf_3⟩ : ∃ z : Nat → Int32, z = (upd f (nI (q - 1)).toNatClampNeg (vp_nar .byte (fO (nI w).toNatClampNeg))) := ⟨_, rfl⟩
              have hf_4 : sb_Fit f_3 := by rw [hf_3]; exact sb_fitU hf (sb_nar _)
              rw [← hf_3] at hP hD
              have hP : va_P (dC, dI) xCl [(v, eY cB mm f_3)] H := hP
              have hD : va_D A [(v, eY cB mm f_3)] := hD
              refine lv_iload hx hb dJ13_getChars_11360_157 (lv_at hl 1 rfl) ?_
              refine lv_bipush (v := (-9)) hx hb dJ13_getChars_11360_159 (by decide +kernel) ?_
              refine lv_icmp_ge (tgt := 178) hx hb dJ13_getChars_11360_161 (by decide +kernel) (fun c_5 => ?_) (fun c_5 => ?_)
              · skip
                have z_c_5 : w ≤ 9 := (sb_nle (a := 9) (b := w) (by decide +kernel) (by omega)).mp c_5
                refine lv_iload hx hb dJ13_getChars_11360_178 (lv_at hl 3 rfl) ?_
                refine lv_if_eq (tgt := 192) hx hb dJ13_getChars_11360_180 (by decide +kernel) (fun _ => ?_) (fun c9 => absurd c9 (by decide +kernel))
                refine lv_iload hx hb dJ13_getChars_11360_192 (lv_at hl 0 rfl) ?_
                have hP := hP.sub (ws' := [(v, eY cB mm f_3)]) [0] rfl
                have hD := hD.sub (ws' := [(v, eY cB mm f_3)]) [0] (by decide +kernel) rfl
                refine W.widen (k := 0) (n := 0) (by omega) (by omega) ?_
                exact W.iret (v := (nI (q - 1))) hx hb hr (fun t ht hW => ⟨⟨_, f_3, rfl, hf_4, by rw [ht]; exact hP, hD⟩, hS.F ht⟩) hS.2.2 dJ13_getChars_11360_194
              · skip
                have z_c_5 : ¬ w ≤ 9 := fun z => c_5 ((sb_nle (a := 9) (b := w) (by decide +kernel) (by omega)).mpr z)
                have hd3 := dgL_10 (w := w) (by omega)
                refine lv_aload_n hx hb dJ13_getChars_11360_164 rfl (lv_at hl 2 rfl) ?_
                refine lv_iinc (v := (nI ((q - 1) - 1))) (lv' := [(7, .int (nI ((q - 1) - 1))), (10, .int (-(nI w))), (3, .ref v), (8, .int 0)]) hx hb dJ13_getChars_11360_165 hl (k := 0) rfl (sb_m1 (by omega)) (by decide +kernel) rfl (fun ls hl => ?_)
                refine lv_iload hx hb dJ13_getChars_11360_168 (lv_at hl 0 rfl) ?_
                refine va_gets hx hb (va_Z.narrow hTt hAN) hS hown (hts (.fieldLink RJ13 137 "java/lang/Integer" "DigitTens" "[B") (by decide +kernel)) (fun _ h9 => h9) dJ13_getChars_11360_170 ?_
                refine lv_iload hx hb dJ13_getChars_11360_173 (lv_at hl 1 rfl) ?_
                refine lv_ineg hx hb dJ13_getChars_11360_175 ?_
                rw [show ((-(-(nI w))) : Int32) = (nI w) from Int32.neg_neg]
                refine va_tb hx hb (va_T.narrow hTb hAN) hS (vp_in_nI (n := w) (N := 100) (by omega) (by decide +kernel)) rfl dJ13_getChars_11360_176 ?_
                refine va_bast hx hb hK hP hD hS 0 0 rfl rfl (vp_in_nI (n := ((q - 1) - 1)) (N := mm) (by omega) (by omega)) dJ13_getChars_11360_177 (fun H locs hP hD hS => ?_)
                have hP : va_P (dC, dI) xCl [(v, eY cB mm (upd f_3 (nI ((q - 1) - 1)).toNatClampNeg (vp_nar .byte (fT (nI w).toNatClampNeg))))] H := hP
                have hD : va_D A [(v, eY cB mm (upd f_3 (nI ((q - 1) - 1)).toNatClampNeg (vp_nar .byte (fT (nI w).toNatClampNeg))))] := hD
                obtain ⟨f_6, hf_6⟩ : ∃ z : Nat → Int32, z = (upd f_3 (nI ((q - 1) - 1)).toNatClampNeg (vp_nar .byte (fT (nI w).toNatClampNeg))) := ⟨_, rfl⟩
                have hf_7 : sb_Fit f_6 := by rw [hf_6]; exact sb_fitU hf_4 (sb_nar _)
                rw [← hf_6] at hP hD
                have hP : va_P (dC, dI) xCl [(v, eY cB mm f_6)] H := hP
                have hD : va_D A [(v, eY cB mm f_6)] := hD
                refine lv_iload hx hb dJ13_getChars_11360_178 (lv_at hl 3 rfl) ?_
                refine lv_if_eq (tgt := 192) hx hb dJ13_getChars_11360_180 (by decide +kernel) (fun _ => ?_) (fun c9 => absurd c9 (by decide +kernel))
                refine lv_iload hx hb dJ13_getChars_11360_192 (lv_at hl 0 rfl) ?_
                have hP := hP.sub (ws' := [(v, eY cB mm f_6)]) [0] rfl
                have hD := hD.sub (ws' := [(v, eY cB mm f_6)]) [0] (by decide +kernel) rfl
                refine W.widen (k := 0) (n := 0) (by omega) (by omega) ?_
                exact W.iret (v := (nI ((q - 1) - 1))) hx hb hr (fun t ht hW => ⟨⟨_, f_6, rfl, hf_7, by rw [ht]; exact hP, hD⟩, hS.F ht⟩) hS.2.2 dJ13_getChars_11360_194
            · skip
              have z_c_2 : ¬ w < 100 := fun z => c_2 ((sb_nlt (a := 100) (b := w) (by decide +kernel) (by omega)).mpr z)
              have hd2 := dgL_100 (w := w) (by omega) (by omega)
              refine lv_iload hx hb dJ13_getChars_11360_93 (lv_at hl 0 rfl) ?_
              refine lv_bipush (v := 100) hx hb dJ13_getChars_11360_95 (by decide +kernel) ?_
              refine lv_idiv hx hb dJ13_getChars_11360_97 (by decide +kernel) ?_
              rw [show (((-(nI w)) / 100) : Int32) = (-(nI (w / 100))) from sb_ndiv (by omega)]
              refine lv_istore (lv' := [(9, .int (-(nI (w / 100)))), (10, .int (-(nI w))), (3, .ref v), (7, .int (nI q)), (8, .int 0)]) hx hb dJ13_getChars_11360_98 hl (by decide +kernel) rfl (fun ls hl => ?_)
              refine lv_iload hx hb dJ13_getChars_11360_100 (lv_at hl 0 rfl) ?_
              refine lv_bipush (v := 100) hx hb dJ13_getChars_11360_102 (by decide +kernel) ?_
              refine lv_imul hx hb dJ13_getChars_11360_104 ?_
              refine lv_iload hx hb dJ13_getChars_11360_105 (lv_at hl 1 rfl) ?_
              refine lv_isub hx hb dJ13_getChars_11360_107 ?_
              rw [show ((((-(nI (w / 100))) * 100) - (-(nI w))) : Int32) = (nI (w % 100)) from sb_nrem (by omega)]
              refine lv_istore (lv' := [(6, .int (nI (w % 100))), (9, .int (-(nI (w / 100)))), (10, .int (-(nI w))), (3, .ref v), (7, .int (nI q)), (8, .int 0)]) hx hb dJ13_getChars_11360_108 hl (by decide +kernel) rfl (fun ls hl => ?_)
              refine lv_iload hx hb dJ13_getChars_11360_110 (lv_at hl 1 rfl) ?_
              refine lv_istore (lv' := [(10, .int (-(nI (w / 100)))), (6, .int (nI (w % 100))), (9, .int (-(nI (w / 100)))), (3, .ref v), (7, .int (nI q)), (8, .int 0)]) hx hb dJ13_getChars_11360_112 hl (by decide +kernel) rfl (fun ls hl => ?_)
              refine lv_aload_n hx hb dJ13_getChars_11360_114 rfl (lv_at hl 3 rfl) ?_
              refine lv_iinc (v := (nI (q - 1))) (lv' := [(7, .int (nI (q - 1))), (10, .int (-(nI (w / 100)))), (6, .int (nI (w % 100))), (9, .int (-(nI (w / 100)))), (3, .ref v), (8, .int 0)]) hx hb dJ13_getChars_11360_115 hl (k := 4) rfl (sb_m1 (by omega)) (by decide +kernel) rfl (fun ls hl => ?_)
              refine lv_iload hx hb dJ13_getChars_11360_118 (lv_at hl 0 rfl) ?_
              refine va_gets hx hb (va_Z.narrow hTo hAN) hS hown (hts (.fieldLink RJ13 133 "java/lang/Integer" "DigitOnes" "[B") (by decide +kernel)) (fun _ h9 => h9) dJ13_getChars_11360_120 ?_
              refine lv_iload hx hb dJ13_getChars_11360_123 (lv_at hl 2 rfl) ?_
              refine va_tb hx hb (va_T.narrow hTa hAN) hS (vp_in_nI (n := (w % 100)) (N := 100) (by omega) (by decide +kernel)) rfl dJ13_getChars_11360_125 ?_
              refine va_bast hx hb hK hP hD hS 0 0 rfl rfl (vp_in_nI (n := (q - 1)) (N := mm) (by omega) (by omega)) dJ13_getChars_11360_126 (fun H locs hP hD hS => ?_)
              have hP : va_P (dC, dI) xCl [(v, eY cB mm (upd f (nI (q - 1)).toNatClampNeg (vp_nar .byte (fO (nI (w % 100)).toNatClampNeg))))] H := hP
              have hD : va_D A [(v, eY cB mm (upd f (nI (q - 1)).toNatClampNeg (vp_nar .byte (fO (nI (w % 100)).toNatClampNeg))))] := hD
              obtain ⟨f_8, hf_8⟩ : ∃ z : Nat → Int32, z = (upd f (nI (q - 1)).toNatClampNeg (vp_nar .byte (fO (nI (w % 100)).toNatClampNeg))) := ⟨_, rfl⟩
              have hf_9 : sb_Fit f_8 := by rw [hf_8]; exact sb_fitU hf (sb_nar _)
              rw [← hf_8] at hP hD
              have hP : va_P (dC, dI) xCl [(v, eY cB mm f_8)] H := hP
              have hD : va_D A [(v, eY cB mm f_8)] := hD
              refine lv_aload_n hx hb dJ13_getChars_11360_127 rfl (lv_at hl 4 rfl) ?_
              refine lv_iinc (v := (nI ((q - 1) - 1))) (lv' := [(7, .int (nI ((q - 1) - 1))), (10, .int (-(nI (w / 100)))), (6, .int (nI (w % 100))), (9, .int (-(nI (w / 100)))), (3, .ref v), (8, .int 0)]) hx hb dJ13_getChars_11360_128 hl (k := 0) rfl (sb_m1 (by omega)) (by decide +kernel) rfl (fun ls hl => ?_)
              refine lv_iload hx hb dJ13_getChars_11360_131 (lv_at hl 0 rfl) ?_
              refine va_gets hx hb (va_Z.narrow hTt hAN) hS hown (hts (.fieldLink RJ13 137 "java/lang/Integer" "DigitTens" "[B") (by decide +kernel)) (fun _ h9 => h9) dJ13_getChars_11360_133 ?_
              refine lv_iload hx hb dJ13_getChars_11360_136 (lv_at hl 2 rfl) ?_
              refine va_tb hx hb (va_T.narrow hTb hAN) hS (vp_in_nI (n := (w % 100)) (N := 100) (by omega) (by decide +kernel)) rfl dJ13_getChars_11360_138 ?_
              refine va_bast hx hb hK hP hD hS 0 0 rfl rfl (vp_in_nI (n := ((q - 1) - 1)) (N := mm) (by omega) (by omega)) dJ13_getChars_11360_139 (fun H locs hP hD hS => ?_)
              have hP : va_P (dC, dI) xCl [(v, eY cB mm (upd f_8 (nI ((q - 1) - 1)).toNatClampNeg (vp_nar .byte (fT (nI (w % 100)).toNatClampNeg))))] H := hP
              have hD : va_D A [(v, eY cB mm (upd f_8 (nI ((q - 1) - 1)).toNatClampNeg (vp_nar .byte (fT (nI (w % 100)).toNatClampNeg))))] := hD
              obtain ⟨f_10, hf_10⟩ : ∃ z : Nat → Int32, z = (upd f_8 (nI ((q - 1) - 1)).toNatClampNeg (vp_nar .byte (fT (nI (w % 100)).toNatClampNeg))) := ⟨_, rfl⟩
              have hf_11 : sb_Fit f_10 := by rw [hf_10]; exact sb_fitU hf_9 (sb_nar _)
              rw [← hf_10] at hP hD
              have hP : va_P (dC, dI) xCl [(v, eY cB mm f_10)] H := hP
              have hD : va_D A [(v, eY cB mm f_10)] := hD
              refine lv_goto (tgt := 86) hx hb dJ13_getChars_11360_140 (by decide +kernel) ?_
              exact ih_b (w / 100) ((q - 1) - 1) f_10 _ _ _ (by omega) (by omega) (by omega) (by omega) hf_11 hP hD hS (lv_sub hl [1, 4, 0, 5] rfl)
        exact loop_b (w + 1) w q f _ _ _ (by omega) (by omega) (by omega) (by omega) hf hP hD hS (lv_sub hl [0, 2, 3, 4] rfl)
      · skip
        have z_c_1 : ¬ w < 2147483648 := fun z => c_1 ((jl_nlt (a := 2147483648) (b := w) (by decide +kernel) (by omega)).mpr z)
        have hd2 := dgL_100 (w := w) (by omega) (by omega)
        refine lv_lload_n hx hb dJ13_getChars_11360_32 rfl (lv_at hl 0 rfl) ?_
        refine lv_ldc2 (own := RJ13) (index := 131) (v := 100) hx hb hown (hts (.constantLong RJ13 131 (100)) (by decide +kernel)) dJ13_getChars_11360_33 ?_
        refine lv_ldiv hx hb dJ13_getChars_11360_36 (by decide +kernel) ?_
        rw [show (((-(lN w)) / 100) : Int64) = (-(lN (w / 100))) from jl_ndiv (by omega)]
        refine lv_lstore (lv' := [(4, .long (-(lN (w / 100)))), (0, .long (-(lN w))), (3, .ref v), (7, .int (nI q)), (8, .int 0)]) hx hb dJ13_getChars_11360_37 hl (by decide +kernel) rfl (fun ls hl => ?_)
        refine lv_lload hx hb dJ13_getChars_11360_39 (lv_at hl 0 rfl) ?_
        refine lv_ldc2 (own := RJ13) (index := 131) (v := 100) hx hb hown (hts (.constantLong RJ13 131 (100)) (by decide +kernel)) dJ13_getChars_11360_41 ?_
        refine lv_lmul hx hb dJ13_getChars_11360_44 ?_
        refine lv_lload_n hx hb dJ13_getChars_11360_45 rfl (lv_at hl 1 rfl) ?_
        refine lv_lsub hx hb dJ13_getChars_11360_46 ?_
        refine lv_l2i (v := ((((-(lN (w / 100))) * 100) - (-(lN w))).toInt32)) hx hb dJ13_getChars_11360_47 rfl ?_
        rw [show (((((-(lN (w / 100))) * 100) - (-(lN w))).toInt32) : Int32) = (nI (w % 100)) from jl_nrem (by omega)]
        refine lv_istore (lv' := [(6, .int (nI (w % 100))), (4, .long (-(lN (w / 100)))), (0, .long (-(lN w))), (3, .ref v), (7, .int (nI q)), (8, .int 0)]) hx hb dJ13_getChars_11360_48 hl (by decide +kernel) rfl (fun ls hl => ?_)
        refine lv_lload hx hb dJ13_getChars_11360_50 (lv_at hl 1 rfl) ?_
        refine lv_lstore_n (lv' := [(0, .long (-(lN (w / 100)))), (6, .int (nI (w % 100))), (4, .long (-(lN (w / 100)))), (3, .ref v), (7, .int (nI q)), (8, .int 0)]) hx hb dJ13_getChars_11360_52 rfl hl (by decide +kernel) rfl (fun ls hl => ?_)
        refine lv_aload_n hx hb dJ13_getChars_11360_53 rfl (lv_at hl 3 rfl) ?_
        refine lv_iinc (v := (nI (q - 1))) (lv' := [(7, .int (nI (q - 1))), (0, .long (-(lN (w / 100)))), (6, .int (nI (w % 100))), (4, .long (-(lN (w / 100)))), (3, .ref v), (8, .int 0)]) hx hb dJ13_getChars_11360_54 hl (k := 4) rfl (sb_m1 (by omega)) (by decide +kernel) rfl (fun ls hl => ?_)
        refine lv_iload hx hb dJ13_getChars_11360_57 (lv_at hl 0 rfl) ?_
        refine va_gets hx hb (va_Z.narrow hTo hAN) hS hown (hts (.fieldLink RJ13 133 "java/lang/Integer" "DigitOnes" "[B") (by decide +kernel)) (fun _ h9 => h9) dJ13_getChars_11360_59 ?_
        refine lv_iload hx hb dJ13_getChars_11360_62 (lv_at hl 2 rfl) ?_
        refine va_tb hx hb (va_T.narrow hTa hAN) hS (vp_in_nI (n := (w % 100)) (N := 100) (by omega) (by decide +kernel)) rfl dJ13_getChars_11360_64 ?_
        refine va_bast hx hb hK hP hD hS 0 0 rfl rfl (vp_in_nI (n := (q - 1)) (N := mm) (by omega) (by omega)) dJ13_getChars_11360_65 (fun H locs hP hD hS => ?_)
        have hP : va_P (dC, dI) xCl [(v, eY cB mm (upd f (nI (q - 1)).toNatClampNeg (vp_nar .byte (fO (nI (w % 100)).toNatClampNeg))))] H := hP
        have hD : va_D A [(v, eY cB mm (upd f (nI (q - 1)).toNatClampNeg (vp_nar .byte (fO (nI (w % 100)).toNatClampNeg))))] := hD
        obtain ⟨f_12, hf_12⟩ : ∃ z : Nat → Int32, z = (upd f (nI (q - 1)).toNatClampNeg (vp_nar .byte (fO (nI (w % 100)).toNatClampNeg))) := ⟨_, rfl⟩
        have hf_13 : sb_Fit f_12 := by rw [hf_12]; exact sb_fitU hf (sb_nar _)
        rw [← hf_12] at hP hD
        have hP : va_P (dC, dI) xCl [(v, eY cB mm f_12)] H := hP
        have hD : va_D A [(v, eY cB mm f_12)] := hD
        refine lv_aload_n hx hb dJ13_getChars_11360_66 rfl (lv_at hl 4 rfl) ?_
        refine lv_iinc (v := (nI ((q - 1) - 1))) (lv' := [(7, .int (nI ((q - 1) - 1))), (0, .long (-(lN (w / 100)))), (6, .int (nI (w % 100))), (4, .long (-(lN (w / 100)))), (3, .ref v), (8, .int 0)]) hx hb dJ13_getChars_11360_67 hl (k := 0) rfl (sb_m1 (by omega)) (by decide +kernel) rfl (fun ls hl => ?_)
        refine lv_iload hx hb dJ13_getChars_11360_70 (lv_at hl 0 rfl) ?_
        refine va_gets hx hb (va_Z.narrow hTt hAN) hS hown (hts (.fieldLink RJ13 137 "java/lang/Integer" "DigitTens" "[B") (by decide +kernel)) (fun _ h9 => h9) dJ13_getChars_11360_72 ?_
        refine lv_iload hx hb dJ13_getChars_11360_75 (lv_at hl 2 rfl) ?_
        refine va_tb hx hb (va_T.narrow hTb hAN) hS (vp_in_nI (n := (w % 100)) (N := 100) (by omega) (by decide +kernel)) rfl dJ13_getChars_11360_77 ?_
        refine va_bast hx hb hK hP hD hS 0 0 rfl rfl (vp_in_nI (n := ((q - 1) - 1)) (N := mm) (by omega) (by omega)) dJ13_getChars_11360_78 (fun H locs hP hD hS => ?_)
        have hP : va_P (dC, dI) xCl [(v, eY cB mm (upd f_12 (nI ((q - 1) - 1)).toNatClampNeg (vp_nar .byte (fT (nI (w % 100)).toNatClampNeg))))] H := hP
        have hD : va_D A [(v, eY cB mm (upd f_12 (nI ((q - 1) - 1)).toNatClampNeg (vp_nar .byte (fT (nI (w % 100)).toNatClampNeg))))] := hD
        obtain ⟨f_14, hf_14⟩ : ∃ z : Nat → Int32, z = (upd f_12 (nI ((q - 1) - 1)).toNatClampNeg (vp_nar .byte (fT (nI (w % 100)).toNatClampNeg))) := ⟨_, rfl⟩
        have hf_15 : sb_Fit f_14 := by rw [hf_14]; exact sb_fitU hf_13 (sb_nar _)
        rw [← hf_14] at hP hD
        have hP : va_P (dC, dI) xCl [(v, eY cB mm f_14)] H := hP
        have hD : va_D A [(v, eY cB mm f_14)] := hD
        refine lv_goto (tgt := 24) hx hb dJ13_getChars_11360_79 (by decide +kernel) ?_
        exact ih_a (w / 100) ((q - 1) - 1) f_14 _ _ _ (by omega) (by omega) (by omega) (by omega) hf_15 hP hD hS (lv_sub hl [1, 4, 0, 5] rfl)
  exact loop_a (w0 + 1) w0 q0 f _ _ _ (by omega) (by omega) (by omega) (by omega) hf hP hD hS (lv_sub hl [0, 4, 2, 1] rfl)
theorem cl_J5_append_66267_1 : ∀ w ∈ wsJ5_append_66267_r1, w ∈ wsJ5_append_66267 := fun _ h => (List.mem_cons_of_mem _ (List.mem_append_left _ (List.mem_append_left _ h)))
theorem cl_J5_append_66267_2 : ∀ w ∈ wsJ5_append_66267_r2, w ∈ wsJ5_append_66267 := fun _ h => (List.mem_cons_of_mem _ (List.mem_append_left _ (List.mem_append_right _ (List.mem_append_left _ h))))
theorem cl_J5_append_66267_3 : ∀ w ∈ wsJ5_append_66267_r3, w ∈ wsJ5_append_66267 := fun _ h => (List.mem_cons_of_mem _ (List.mem_append_left _ (List.mem_append_right _ (List.mem_append_right _ (List.mem_append_left _ h)))))
theorem cl_J5_append_66267_4 : ∀ w ∈ wsJ5_append_66267_r4, w ∈ wsJ5_append_66267 := fun _ h => (List.mem_cons_of_mem _ (List.mem_append_left _ (List.mem_append_right _ (List.mem_append_right _ (List.mem_append_right _ h)))))
theorem cl_J5_append_66267_5 : ∀ w ∈ wsJ40, w ∈ wsJ5_append_66267 := fun _ h => (List.mem_cons_of_mem _ (List.mem_append_right _ h))
set_option maxRecDepth 20000 in
theorem ggJ5_append_66267_J13_stringSize_95d88 : GoodIn wsJ5_append_66267 wsJ13_stringSize_95d88 := goodIn_sub (List.forall_mem_cons.mpr ⟨(cl_J5_append_66267_1 _ (List.mem_of_getElem? (i := 5) rfl)), List.forall_mem_cons.mpr ⟨(cl_J5_append_66267_1 _ (List.mem_of_getElem? (i := 6) rfl)), List.forall_mem_cons.mpr ⟨(cl_J5_append_66267_1 _ (List.mem_of_getElem? (i := 7) rfl)), fun _ h => absurd h List.not_mem_nil⟩⟩⟩) (by decide +kernel)
set_option maxRecDepth 20000 in
theorem gJ5_append_66267_J13_stringSize_95d88 : GoodIn wsJ5_append_66267 (va_wsS RJ5 254 yJ13_stringSize_95d88 wsJ13_stringSize_95d88) := goodIn_app (goodIn_sub (List.forall_mem_cons.mpr ⟨(cl_J5_append_66267_1 _ (List.mem_of_getElem? (i := 2) rfl)), List.forall_mem_cons.mpr ⟨(cl_J5_append_66267_1 _ (List.mem_of_getElem? (i := 3) rfl)), List.forall_mem_cons.mpr ⟨(cl_J5_append_66267_1 _ (List.mem_of_getElem? (i := 4) rfl)), fun _ h => absurd h List.not_mem_nil⟩⟩⟩) (by decide +kernel)) ggJ5_append_66267_J13_stringSize_95d88
set_option maxRecDepth 20000 in
theorem ggJ5_append_66267_J5_ensureCapacityInternal_d00df : GoodIn wsJ5_append_66267 wsJ5_ensureCapacityInternal_d00df := goodIn_sub (List.forall_mem_cons.mpr ⟨(cl_J5_append_66267_1 _ (List.mem_of_getElem? (i := 13) rfl)), fun w h => (List.mem_append.mp h).elim ((fun w h => (List.mem_append.mp h).elim ((List.forall_mem_cons.mpr ⟨(cl_J5_append_66267_1 _ (List.mem_of_getElem? (i := 1) rfl)), List.forall_mem_cons.mpr ⟨(cl_J5_append_66267_1 _ (List.mem_of_getElem? (i := 14) rfl)), List.forall_mem_cons.mpr ⟨(cl_J5_append_66267_1 _ (List.mem_of_getElem? (i := 15) rfl)), List.forall_mem_cons.mpr ⟨(cl_J5_append_66267_1 _ (List.mem_of_getElem? (i := 16) rfl)), List.forall_mem_cons.mpr ⟨(cl_J5_append_66267_1 _ (List.mem_of_getElem? (i := 17) rfl)), List.forall_mem_cons.mpr ⟨(cl_J5_append_66267_1 _ (List.mem_of_getElem? (i := 18) rfl)), List.forall_mem_cons.mpr ⟨(cl_J5_append_66267_1 _ (List.mem_of_getElem? (i := 12) rfl)), List.forall_mem_cons.mpr ⟨(cl_J5_append_66267_1 _ (List.mem_of_getElem? (i := 19) rfl)), List.forall_mem_cons.mpr ⟨(cl_J5_append_66267_1 _ (List.mem_of_getElem? (i := 20) rfl)), List.forall_mem_cons.mpr ⟨(cl_J5_append_66267_1 _ (List.mem_of_getElem? (i := 21) rfl)), List.forall_mem_cons.mpr ⟨(cl_J5_append_66267_1 _ (List.mem_of_getElem? (i := 22) rfl)), List.forall_mem_cons.mpr ⟨(cl_J5_append_66267_1 _ (List.mem_of_getElem? (i := 23) rfl)), List.forall_mem_cons.mpr ⟨(cl_J5_append_66267_2 _ (List.mem_of_getElem? (i := 0) rfl)), List.forall_mem_cons.mpr ⟨(cl_J5_append_66267_2 _ (List.mem_of_getElem? (i := 1) rfl)), List.forall_mem_cons.mpr ⟨(cl_J5_append_66267_2 _ (List.mem_of_getElem? (i := 2) rfl)), List.forall_mem_cons.mpr ⟨(cl_J5_append_66267_2 _ (List.mem_of_getElem? (i := 3) rfl)), List.forall_mem_cons.mpr ⟨(cl_J5_append_66267_2 _ (List.mem_of_getElem? (i := 4) rfl)), List.forall_mem_cons.mpr ⟨(cl_J5_append_66267_2 _ (List.mem_of_getElem? (i := 5) rfl)), List.forall_mem_cons.mpr ⟨(cl_J5_append_66267_2 _ (List.mem_of_getElem? (i := 6) rfl)), List.forall_mem_cons.mpr ⟨(cl_J5_append_66267_2 _ (List.mem_of_getElem? (i := 7) rfl)), List.forall_mem_cons.mpr ⟨(cl_J5_append_66267_2 _ (List.mem_of_getElem? (i := 8) rfl)), List.forall_mem_cons.mpr ⟨(cl_J5_append_66267_2 _ (List.mem_of_getElem? (i := 9) rfl)), List.forall_mem_cons.mpr ⟨(cl_J5_append_66267_2 _ (List.mem_of_getElem? (i := 10) rfl)), List.forall_mem_cons.mpr ⟨(cl_J5_append_66267_2 _ (List.mem_of_getElem? (i := 11) rfl)), fun _ h => absurd h List.not_mem_nil⟩⟩⟩⟩⟩⟩⟩⟩⟩⟩⟩⟩⟩⟩⟩⟩⟩⟩⟩⟩⟩⟩⟩⟩) w) ((List.forall_mem_cons.mpr ⟨(cl_J5_append_66267_2 _ (List.mem_of_getElem? (i := 12) rfl)), List.forall_mem_cons.mpr ⟨(cl_J5_append_66267_2 _ (List.mem_of_getElem? (i := 13) rfl)), List.forall_mem_cons.mpr ⟨(cl_J5_append_66267_2 _ (List.mem_of_getElem? (i := 14) rfl)), List.forall_mem_cons.mpr ⟨(cl_J5_append_66267_2 _ (List.mem_of_getElem? (i := 15) rfl)), List.forall_mem_cons.mpr ⟨(cl_J5_append_66267_2 _ (List.mem_of_getElem? (i := 16) rfl)), List.forall_mem_cons.mpr ⟨(cl_J5_append_66267_2 _ (List.mem_of_getElem? (i := 17) rfl)), List.forall_mem_cons.mpr ⟨(cl_J5_append_66267_2 _ (List.mem_of_getElem? (i := 18) rfl)), List.forall_mem_cons.mpr ⟨(cl_J5_append_66267_2 _ (List.mem_of_getElem? (i := 19) rfl)), List.forall_mem_cons.mpr ⟨(cl_J5_append_66267_2 _ (List.mem_of_getElem? (i := 20) rfl)), List.forall_mem_cons.mpr ⟨(cl_J5_append_66267_2 _ (List.mem_of_getElem? (i := 21) rfl)), List.forall_mem_cons.mpr ⟨(cl_J5_append_66267_2 _ (List.mem_of_getElem? (i := 22) rfl)), List.forall_mem_cons.mpr ⟨(cl_J5_append_66267_2 _ (List.mem_of_getElem? (i := 23) rfl)), List.forall_mem_cons.mpr ⟨(cl_J5_append_66267_3 _ (List.mem_of_getElem? (i := 0) rfl)), List.forall_mem_cons.mpr ⟨(cl_J5_append_66267_3 _ (List.mem_of_getElem? (i := 1) rfl)), List.forall_mem_cons.mpr ⟨(cl_J5_append_66267_3 _ (List.mem_of_getElem? (i := 2) rfl)), fun _ h => absurd h List.not_mem_nil⟩⟩⟩⟩⟩⟩⟩⟩⟩⟩⟩⟩⟩⟩⟩) w)) w) ((cl_J5_append_66267_5) w)⟩) (by decide +kernel)
set_option maxRecDepth 20000 in
theorem gJ5_append_66267_J5_ensureCapacityInternal_d00df_u100J4 : GoodIn wsJ5_append_66267 (va_wsU RJ5 100 RJ4 "java/lang/AbstractStringBuilder" ⟨"java/lang/AbstractStringBuilder", "ensureCapacityInternal", "(I)V"⟩ yJ5_ensureCapacityInternal_d00df wsJ5_ensureCapacityInternal_d00df) := goodIn_app (goodIn_of _ (by decide +kernel)) ggJ5_append_66267_J5_ensureCapacityInternal_d00df
set_option maxRecDepth 20000 in
theorem ggJ5_append_66267_J5_isLatin1_aae02 : GoodIn wsJ5_append_66267 wsJ5_isLatin1_aae02 := goodIn_sub (List.forall_mem_cons.mpr ⟨(cl_J5_append_66267_3 _ (List.mem_of_getElem? (i := 7) rfl)), fun w h => (List.mem_append.mp h).elim ((List.forall_mem_cons.mpr ⟨(cl_J5_append_66267_3 _ (List.mem_of_getElem? (i := 8) rfl)), List.forall_mem_cons.mpr ⟨(cl_J5_append_66267_1 _ (List.mem_of_getElem? (i := 14) rfl)), fun _ h => absurd h List.not_mem_nil⟩⟩) w) ((cl_J5_append_66267_5) w)⟩) (by decide +kernel)
set_option maxRecDepth 20000 in
theorem gJ5_append_66267_J5_isLatin1_aae02_u83J4 : GoodIn wsJ5_append_66267 (va_wsU RJ5 83 RJ4 "java/lang/AbstractStringBuilder" ⟨"java/lang/AbstractStringBuilder", "isLatin1", "()Z"⟩ yJ5_isLatin1_aae02 wsJ5_isLatin1_aae02) := goodIn_app (goodIn_of _ (by decide +kernel)) ggJ5_append_66267_J5_isLatin1_aae02
set_option maxRecDepth 20000 in
theorem ggJ5_append_66267_J13_getChars_11360 : GoodIn wsJ5_append_66267 wsJ13_getChars_11360 := goodIn_sub (List.forall_mem_cons.mpr ⟨(cl_J5_append_66267_3 _ (List.mem_of_getElem? (i := 11) rfl)), List.forall_mem_cons.mpr ⟨(cl_J5_append_66267_3 _ (List.mem_of_getElem? (i := 12) rfl)), List.forall_mem_cons.mpr ⟨(cl_J5_append_66267_3 _ (List.mem_of_getElem? (i := 13) rfl)), List.forall_mem_cons.mpr ⟨(cl_J5_append_66267_3 _ (List.mem_of_getElem? (i := 14) rfl)), List.forall_mem_cons.mpr ⟨(cl_J5_append_66267_3 _ (List.mem_of_getElem? (i := 15) rfl)), fun _ h => absurd h List.not_mem_nil⟩⟩⟩⟩⟩) (by decide +kernel)
set_option maxRecDepth 20000 in
theorem gJ5_append_66267_J13_getChars_11360 : GoodIn wsJ5_append_66267 (va_wsS RJ5 259 yJ13_getChars_11360 wsJ13_getChars_11360) := goodIn_app (goodIn_sub (List.forall_mem_cons.mpr ⟨(cl_J5_append_66267_3 _ (List.mem_of_getElem? (i := 9) rfl)), List.forall_mem_cons.mpr ⟨(cl_J5_append_66267_3 _ (List.mem_of_getElem? (i := 10) rfl)), List.forall_mem_cons.mpr ⟨(cl_J5_append_66267_1 _ (List.mem_of_getElem? (i := 4) rfl)), fun _ h => absurd h List.not_mem_nil⟩⟩⟩) (by decide +kernel)) ggJ5_append_66267_J13_getChars_11360
set_option maxRecDepth 20000 in
theorem ggJ5_append_66267_J2_getChars_1ba55 : GoodIn wsJ5_append_66267 wsJ2_getChars_1ba55 := goodIn_sub (List.forall_mem_cons.mpr ⟨(cl_J5_append_66267_3 _ (List.mem_of_getElem? (i := 19) rfl)), fun w h => (List.mem_append.mp h).elim ((List.forall_mem_cons.mpr ⟨(cl_J5_append_66267_3 _ (List.mem_of_getElem? (i := 20) rfl)), List.forall_mem_cons.mpr ⟨(cl_J5_append_66267_3 _ (List.mem_of_getElem? (i := 21) rfl)), List.forall_mem_cons.mpr ⟨(cl_J5_append_66267_3 _ (List.mem_of_getElem? (i := 22) rfl)), List.forall_mem_cons.mpr ⟨(cl_J5_append_66267_3 _ (List.mem_of_getElem? (i := 18) rfl)), List.forall_mem_cons.mpr ⟨(cl_J5_append_66267_3 _ (List.mem_of_getElem? (i := 23) rfl)), List.forall_mem_cons.mpr ⟨(cl_J5_append_66267_4 _ (List.mem_of_getElem? (i := 0) rfl)), List.forall_mem_cons.mpr ⟨(cl_J5_append_66267_4 _ (List.mem_of_getElem? (i := 1) rfl)), List.forall_mem_cons.mpr ⟨(cl_J5_append_66267_4 _ (List.mem_of_getElem? (i := 2) rfl)), List.forall_mem_cons.mpr ⟨(cl_J5_append_66267_4 _ (List.mem_of_getElem? (i := 3) rfl)), List.forall_mem_cons.mpr ⟨(cl_J5_append_66267_4 _ (List.mem_of_getElem? (i := 4) rfl)), List.forall_mem_cons.mpr ⟨(cl_J5_append_66267_4 _ (List.mem_of_getElem? (i := 5) rfl)), List.forall_mem_cons.mpr ⟨(cl_J5_append_66267_4 _ (List.mem_of_getElem? (i := 6) rfl)), List.forall_mem_cons.mpr ⟨(cl_J5_append_66267_4 _ (List.mem_of_getElem? (i := 7) rfl)), List.forall_mem_cons.mpr ⟨(cl_J5_append_66267_4 _ (List.mem_of_getElem? (i := 8) rfl)), List.forall_mem_cons.mpr ⟨(cl_J5_append_66267_4 _ (List.mem_of_getElem? (i := 9) rfl)), List.forall_mem_cons.mpr ⟨(cl_J5_append_66267_4 _ (List.mem_of_getElem? (i := 10) rfl)), List.forall_mem_cons.mpr ⟨(cl_J5_append_66267_4 _ (List.mem_of_getElem? (i := 11) rfl)), List.forall_mem_cons.mpr ⟨(cl_J5_append_66267_4 _ (List.mem_of_getElem? (i := 12) rfl)), List.forall_mem_cons.mpr ⟨(cl_J5_append_66267_4 _ (List.mem_of_getElem? (i := 13) rfl)), List.forall_mem_cons.mpr ⟨(cl_J5_append_66267_4 _ (List.mem_of_getElem? (i := 14) rfl)), List.forall_mem_cons.mpr ⟨(cl_J5_append_66267_4 _ (List.mem_of_getElem? (i := 15) rfl)), List.forall_mem_cons.mpr ⟨(cl_J5_append_66267_4 _ (List.mem_of_getElem? (i := 16) rfl)), List.forall_mem_cons.mpr ⟨(cl_J5_append_66267_4 _ (List.mem_of_getElem? (i := 17) rfl)), List.forall_mem_cons.mpr ⟨(cl_J5_append_66267_4 _ (List.mem_of_getElem? (i := 18) rfl)), fun _ h => absurd h List.not_mem_nil⟩⟩⟩⟩⟩⟩⟩⟩⟩⟩⟩⟩⟩⟩⟩⟩⟩⟩⟩⟩⟩⟩⟩⟩) w) ((List.forall_mem_cons.mpr ⟨(cl_J5_append_66267_4 _ (List.mem_of_getElem? (i := 19) rfl)), List.forall_mem_cons.mpr ⟨(cl_J5_append_66267_4 _ (List.mem_of_getElem? (i := 20) rfl)), List.forall_mem_cons.mpr ⟨(cl_J5_append_66267_4 _ (List.mem_of_getElem? (i := 21) rfl)), List.forall_mem_cons.mpr ⟨(cl_J5_append_66267_4 _ (List.mem_of_getElem? (i := 22) rfl)), List.forall_mem_cons.mpr ⟨(cl_J5_append_66267_4 _ (List.mem_of_getElem? (i := 23) rfl)), fun _ h => absurd h List.not_mem_nil⟩⟩⟩⟩⟩) w)⟩) (by decide +kernel)
set_option maxRecDepth 20000 in
theorem gJ5_append_66267_J2_getChars_1ba55 : GoodIn wsJ5_append_66267 (va_wsS RJ5 262 yJ2_getChars_1ba55 wsJ2_getChars_1ba55) := goodIn_app (goodIn_sub (List.forall_mem_cons.mpr ⟨(cl_J5_append_66267_3 _ (List.mem_of_getElem? (i := 16) rfl)), List.forall_mem_cons.mpr ⟨(cl_J5_append_66267_3 _ (List.mem_of_getElem? (i := 17) rfl)), List.forall_mem_cons.mpr ⟨(cl_J5_append_66267_3 _ (List.mem_of_getElem? (i := 18) rfl)), fun _ h => absurd h List.not_mem_nil⟩⟩⟩) (by decide +kernel)) ggJ5_append_66267_J2_getChars_1ba55
noncomputable def dz_p04c_10 : List (Nat × Instr × Nat) := [(0, (.aload_n 0, 1)), (1, (.getfield 79, 3)), (4, (.istore_n 3, 1)), (5, (.iload_n 3, 1)), (6, (.lload_n 1, 1)), (7, (.invokestatic 254, 3)), (10, (.iadd, 1)), (11, (.istore 4, 2)), (13, (.aload_n 0, 1)), (14, (.iload 4, 2)), (16, (.invokevirtual 100, 3)), (19, (.aload_n 0, 1)), (20, (.invokevirtual 83, 3)), (23, (.ifCond .eq 17, 3)), (26, (.lload_n 1, 1)), (27, (.iload 4, 2)), (29, (.aload_n 0, 1)), (30, (.getfield 15, 3)), (33, (.invokestatic 259, 3)), (36, (.pop, 1)), (37, (.goto 15, 3)), (40, (.lload_n 1, 1)), (41, (.iload_n 3, 1)), (42, (.iload 4, 2)), (44, (.aload_n 0, 1)), (45, (.getfield 15, 3)), (48, (.invokestatic 262, 3)), (51, (.pop, 1)), (52, (.aload_n 0, 1)), (53, (.iload 4, 2)), (55, (.putfield 79, 3)), (58, (.aload_n 0, 1)), (59, (.areturn, 1))]
theorem dy_p04c_10 : dz_ok cJ5_append_66267 dz_p04c_10 = true := by decide +kernel
theorem dJ5_append_66267_0 : decode cJ5_append_66267 0 = .ok (.aload_n 0, 1) := dz_at (i := 0) dy_p04c_10 rfl
theorem dJ5_append_66267_1 : decode cJ5_append_66267 1 = .ok (.getfield 79, 3) := dz_at (i := 1) dy_p04c_10 rfl
theorem dJ5_append_66267_4 : decode cJ5_append_66267 4 = .ok (.istore_n 3, 1) := dz_at (i := 2) dy_p04c_10 rfl
theorem dJ5_append_66267_5 : decode cJ5_append_66267 5 = .ok (.iload_n 3, 1) := dz_at (i := 3) dy_p04c_10 rfl
theorem dJ5_append_66267_6 : decode cJ5_append_66267 6 = .ok (.lload_n 1, 1) := dz_at (i := 4) dy_p04c_10 rfl
theorem dJ5_append_66267_7 : decode cJ5_append_66267 7 = .ok (.invokestatic 254, 3) := dz_at (i := 5) dy_p04c_10 rfl
theorem dJ5_append_66267_10 : decode cJ5_append_66267 10 = .ok (.iadd, 1) := dz_at (i := 6) dy_p04c_10 rfl
theorem dJ5_append_66267_11 : decode cJ5_append_66267 11 = .ok (.istore 4, 2) := dz_at (i := 7) dy_p04c_10 rfl
theorem dJ5_append_66267_13 : decode cJ5_append_66267 13 = .ok (.aload_n 0, 1) := dz_at (i := 8) dy_p04c_10 rfl
theorem dJ5_append_66267_14 : decode cJ5_append_66267 14 = .ok (.iload 4, 2) := dz_at (i := 9) dy_p04c_10 rfl
theorem dJ5_append_66267_16 : decode cJ5_append_66267 16 = .ok (.invokevirtual 100, 3) := dz_at (i := 10) dy_p04c_10 rfl
theorem dJ5_append_66267_19 : decode cJ5_append_66267 19 = .ok (.aload_n 0, 1) := dz_at (i := 11) dy_p04c_10 rfl
theorem dJ5_append_66267_20 : decode cJ5_append_66267 20 = .ok (.invokevirtual 83, 3) := dz_at (i := 12) dy_p04c_10 rfl
theorem dJ5_append_66267_23 : decode cJ5_append_66267 23 = .ok (.ifCond .eq 17, 3) := dz_at (i := 13) dy_p04c_10 rfl
theorem dJ5_append_66267_26 : decode cJ5_append_66267 26 = .ok (.lload_n 1, 1) := dz_at (i := 14) dy_p04c_10 rfl
theorem dJ5_append_66267_27 : decode cJ5_append_66267 27 = .ok (.iload 4, 2) := dz_at (i := 15) dy_p04c_10 rfl
theorem dJ5_append_66267_29 : decode cJ5_append_66267 29 = .ok (.aload_n 0, 1) := dz_at (i := 16) dy_p04c_10 rfl
theorem dJ5_append_66267_30 : decode cJ5_append_66267 30 = .ok (.getfield 15, 3) := dz_at (i := 17) dy_p04c_10 rfl
theorem dJ5_append_66267_33 : decode cJ5_append_66267 33 = .ok (.invokestatic 259, 3) := dz_at (i := 18) dy_p04c_10 rfl
theorem dJ5_append_66267_36 : decode cJ5_append_66267 36 = .ok (.pop, 1) := dz_at (i := 19) dy_p04c_10 rfl
theorem dJ5_append_66267_37 : decode cJ5_append_66267 37 = .ok (.goto 15, 3) := dz_at (i := 20) dy_p04c_10 rfl
theorem dJ5_append_66267_40 : decode cJ5_append_66267 40 = .ok (.lload_n 1, 1) := dz_at (i := 21) dy_p04c_10 rfl
theorem dJ5_append_66267_41 : decode cJ5_append_66267 41 = .ok (.iload_n 3, 1) := dz_at (i := 22) dy_p04c_10 rfl
theorem dJ5_append_66267_42 : decode cJ5_append_66267 42 = .ok (.iload 4, 2) := dz_at (i := 23) dy_p04c_10 rfl
theorem dJ5_append_66267_44 : decode cJ5_append_66267 44 = .ok (.aload_n 0, 1) := dz_at (i := 24) dy_p04c_10 rfl
theorem dJ5_append_66267_45 : decode cJ5_append_66267 45 = .ok (.getfield 15, 3) := dz_at (i := 25) dy_p04c_10 rfl
theorem dJ5_append_66267_48 : decode cJ5_append_66267 48 = .ok (.invokestatic 262, 3) := dz_at (i := 26) dy_p04c_10 rfl
theorem dJ5_append_66267_51 : decode cJ5_append_66267 51 = .ok (.pop, 1) := dz_at (i := 27) dy_p04c_10 rfl
theorem dJ5_append_66267_52 : decode cJ5_append_66267 52 = .ok (.aload_n 0, 1) := dz_at (i := 28) dy_p04c_10 rfl
theorem dJ5_append_66267_53 : decode cJ5_append_66267 53 = .ok (.iload 4, 2) := dz_at (i := 29) dy_p04c_10 rfl
theorem dJ5_append_66267_55 : decode cJ5_append_66267 55 = .ok (.putfield 79, 3) := dz_at (i := 30) dy_p04c_10 rfl
theorem dJ5_append_66267_58 : decode cJ5_append_66267 58 = .ok (.aload_n 0, 1) := dz_at (i := 31) dy_p04c_10 rfl
theorem dJ5_append_66267_59 : decode cJ5_append_66267 59 = .ok (.areturn, 1) := dz_at (i := 32) dy_p04c_10 rfl
set_option maxHeartbeats 4000000 in
set_option maxRecDepth 100000 in
theorem k_J5_append_66267 (l : Launch) (dC : Nat → ClassId) (dI : Nat → Nat → Nat) (cB : ClassId) (h : Nat) (v : Nat) (n : Nat) (mm : Nat) (f : Nat → Int32) (w : Nat) (sz N : Nat) (hm : mm = 16 ∨ mm = 34) (hf : sb_Fit f) (hwb : w < 10000000000000000) (hn : n + dgL w ≤ 34) : Met l yJ5_append_66267 wsJ5_append_66267 ({ frames := 4, cells := 1, slots := 34, locals := 144 }) (va_Pc [.ref h, .long (lN w)] (xT (dC, dI) xCl [(h, eB v (nI n)), (v, eY cB mm f)] [(cB, .byte)] sz N)) (va_Qr (fun (u : Nat × Nat × (Nat → Int32)) => (u.2.1 = 16 ∨ u.2.1 = 34) ∧ n + dgL w ≤ u.2.1 ∧ sb_Fit u.2.2) (fun (u : Nat × Nat × (Nat → Int32)) a t => a = h ∧ xW (dC, dI) xCl [(h, eB u.1 (nI (n + dgL w))), (u.1, eY cB u.2.1 u.2.2)] (va_A [(h, eB v (nI n)), (v, eY cB mm f)] sz) t) (va_A [(h, eB v (nI n)), (v, eY cB mm f)] sz)) 1 34 (va_A [(h, eB v (nI n)), (v, eY cB mm f)] sz) := by
  refine Met.ofW (cc := cJ5_append_66267) (maxL := 5) (ret := (some (.object "java/lang/AbstractStringBuilder"))) (by decide +kernel) rfl ?_
  intro p e s m args below meth c s₁ B hml hv
  obtain ⟨rfl, ⟨hsz, hP, hK, hD0, hN, hG⟩, hT⟩ := hv
  have hx := B.exec
  have hb := B.bytes
  have hr := B.returns
  have hts := atoms_spec (ws := wsJ5_append_66267) B.pre
  have hown : s.vm.findClass RJ5 = some m.cls := findClass_of_methodNamed B.named
  have hlocks := B.notSynchronized
  subst hsz
  have hAN : ∀ q, va_A [(h, eB v (nI n)), (v, eY cB mm f)] s.heap.size q → N ≤ q := xA_N hD0 hN
  have hD := hD0.self (sz := s.heap.size)
  generalize hAe : va_A [(h, eB v (nI n)), (v, eY cB mm f)] s.heap.size = A at hD hAN ⊢
  have hA : ∀ q : Nat, s.heap.size ≤ q → A q := fun q h => by rw [← hAe]; exact Or.inr h
  have hS : va_S A s.heap s.heap [] := va_S.rf
  have hP : va_P (dC, dI) xCl [(h, eB v (nI n)), (v, eY cB mm f)] s.heap := hP
  obtain ⟨hTc, ⟨tO, tT, fO, fT, hTo, hTt, hTa, hTb, hTf, hTg⟩, ⟨adK, adV, hTs, hTr0, hTr1, hTr2⟩, ⟨aE, hTe⟩, hTn⟩ := id hT
  have hl := lv_entry ([.ref h, .long (lN w)]) (n := 5) (Nat.le_of_ble_eq_true rfl)
  rw [lg_entry_eq]
  generalize (lg_sl ([.ref h, .long (lN w)]) ++ List.replicate (5 - (lg_sl ([.ref h, .long (lN w)])).length) Slot.unset).toArray = ls at hl ⊢
  have hl : lv_has ls 5 [(0, .ref h), (1, .long (lN w))] := hl
  refine lv_aload_n hx hb dJ5_append_66267_0 rfl (lv_at hl 0 rfl) ?_
  refine va_get (D := (dC, dI)) (ci := 1) (v := .int (nI n)) (C := RJ4) (T := TJ4) (N := 4) hx hb hts (by decide +kernel) hown hK hP 0 rfl rfl 3 (by decide +kernel) (hts (.fieldLink RJ5 79 "java/lang/AbstractStringBuilder" "count" "I") (by decide +kernel)) (fun _ h9 => h9) rfl dJ5_append_66267_1 ?_
  refine lv_istore_n (lv' := [(3, .int (nI n)), (0, .ref h), (1, .long (lN w))]) hx hb dJ5_append_66267_4 rfl hl (by decide +kernel) rfl (fun ls hl => ?_)
  refine lv_iload_n hx hb dJ5_append_66267_5 rfl (lv_at hl 0 rfl) ?_
  refine lv_lload_n hx hb dJ5_append_66267_6 rfl (lv_at hl 2 rfl) ?_
  have hPc := xP_nil (D := (dC, dI)) (cl := xCl) (H := s.heap)
  have hDc := xD_nil (A := A)
  have hKc := hK.sub (tys' := [(cB, .byte)]) [0] rfl
  have hFc := va_free (wc := []) hD hS hA [] rfl
  refine va_calli (va_runS (As := [.long (lN w)]) (rest := [.int (nI n)]) ⟨hx, hb, hml, hown, hts⟩ (k_J13_stringSize_95d88 l dC dI cB w s.heap.size N (by omega)) (va_cwS 1 hts gJ5_append_66267_J13_stringSize_95d88 rfl rfl rfl (by decide +kernel) ⟨Nat.le_of_ble_eq_true rfl, Nat.le_of_ble_eq_true rfl⟩) (xT.preS hKc hPc hDc hAN (Nat.le_trans hN hS.1) (hG.kept hS hAN) (hT.kept hS hAN)) rfl rfl hl.1 rfl (lv_room (Nat.le_of_ble_eq_true rfl)) dJ5_append_66267_7 ⟨(show _ ≤ 1 by omega), (show _ ≤ 34 by omega)⟩) hS (fun q _ h => hFc q h) hFc (fun r_1 u_2 t H locs ht hvm hw hB hz hk hS => ?_)
  obtain ⟨hP1, hD1⟩ := hB
  rw [ht] at hP1
  obtain ⟨hP, hD⟩ := va_join (wr := [(h, eB v (nI n)), (v, eY cB mm f)]) (w1 := []) hP hD [] [0, 1] rfl rfl (by decide +kernel) (by decide +kernel) hk hFc hP1 hD1
  have hP : va_P (dC, dI) xCl [(h, eB v (nI n)), (v, eY cB mm f)] H := hP
  have hD : va_D A [(h, eB v (nI n)), (v, eY cB mm f)] := hD
  have hw : r_1 = (nI (dgL w)) := hw
  rw [hw]
  refine lv_iadd hx hb dJ5_append_66267_10 ?_
  rw [show (((nI n) + (nI (dgL w))) : Int32) = (nI (n + dgL w)) from nI_add _ _]
  refine lv_istore (lv' := [(4, .int (nI (n + dgL w))), (3, .int (nI n)), (0, .ref h), (1, .long (lN w))]) hx hb dJ5_append_66267_11 hl (by decide +kernel) rfl (fun ls hl => ?_)
  refine lv_aload_n hx hb dJ5_append_66267_13 rfl (lv_at hl 2 rfl) ?_
  refine lv_iload hx hb dJ5_append_66267_14 (lv_at hl 0 rfl) ?_
  have hPc := hP.sub (ws' := [(h, eB v (nI n)), (v, eY cB mm f)]) [0, 1] rfl
  have hDc := hD.sub (ws' := [(h, eB v (nI n)), (v, eY cB mm f)]) [0, 1] (by decide +kernel) rfl
  have hKc := hK.sub (tys' := [(cB, .byte)]) [0] rfl
  have hFc := va_free (wc := [(h, eB v (nI n)), (v, eY cB mm f)]) hD hS hA [0, 1] rfl
  refine va_callv (va_runU (As := [.int (nI (n + dgL w))]) (rest := []) ⟨hx, hb, hml, hown, hts⟩ (k_J5_ensureCapacityInternal_d00df l dC dI cB h v (nI n) mm f (n + dgL w) H.size N hm hf (by omega)) (va_cwU 1 hts gJ5_append_66267_J5_ensureCapacityInternal_d00df_u100J4 rfl rfl rfl rfl (by decide +kernel) ⟨Nat.le_of_ble_eq_true rfl, Nat.le_of_ble_eq_true rfl⟩) (xT.preV hKc hPc hDc hAN (Nat.le_trans hN hS.1) (hG.kept hS hAN) (hT.kept hS hAN) (ci := 1) (q0 := 0) rfl rfl) rfl rfl hl.1 rfl (lv_room (Nat.le_of_ble_eq_true rfl)) dJ5_append_66267_16 ⟨(show _ ≤ 1 by omega), (show _ ≤ 34 by omega)⟩) hS (fun q _ h => hFc q h) hFc (fun u_7 t H locs ht hvm hw hB hz hk hS => ?_)
  obtain ⟨hP1, hD1⟩ := hB
  rw [ht] at hP1
  obtain ⟨v2_3, m2_4, f2_5⟩ := u_7
  obtain ⟨hP, hD⟩ := va_join (wr := []) (w1 := [(h, eB v2_3 (nI n)), (v2_3, eY cB m2_4 f2_5)]) hP hD [0, 1] [] rfl rfl (by decide +kernel) (by decide +kernel) hk hFc hP1 hD1
  have hP : va_P (dC, dI) xCl [(h, eB v2_3 (nI n)), (v2_3, eY cB m2_4 f2_5)] H := hP
  have hD : va_D A [(h, eB v2_3 (nI n)), (v2_3, eY cB m2_4 f2_5)] := hD
  obtain ⟨hm_m2_4, hq_m2_4, hf_m2_4⟩ : (m2_4 = 16 ∨ m2_4 = 34) ∧ (n + dgL w) ≤ m2_4 ∧ sb_Fit f2_5 := hw
  refine lv_aload_n hx hb dJ5_append_66267_19 rfl (lv_at hl 2 rfl) ?_
  have hPc := hP.sub (ws' := [(h, eB v2_3 (nI n))]) [0] rfl
  have hDc := hD.sub (ws' := [(h, eB v2_3 (nI n))]) [0] (by decide +kernel) rfl
  have hKc := hK.sub (tys' := [(cB, .byte)]) [0] rfl
  have hFc := va_free (wc := [(h, eB v2_3 (nI n))]) hD hS hA [0] rfl
  refine va_calli (va_runU (As := []) (rest := []) ⟨hx, hb, hml, hown, hts⟩ (k_J5_isLatin1_aae02 l dC dI cB h v2_3 (nI n) H.size N) (va_cwU 0 hts gJ5_append_66267_J5_isLatin1_aae02_u83J4 rfl rfl rfl rfl (by decide +kernel) ⟨Nat.le_of_ble_eq_true rfl, Nat.le_of_ble_eq_true rfl⟩) (xT.preV hKc hPc hDc hAN (Nat.le_trans hN hS.1) (hG.kept hS hAN) (hT.kept hS hAN) (ci := 1) (q0 := 0) rfl rfl) rfl rfl hl.1 rfl (lv_room (Nat.le_of_ble_eq_true rfl)) dJ5_append_66267_20 ⟨(show _ ≤ 1 by omega), (show _ ≤ 34 by omega)⟩) hS (fun q _ h => hFc q h) hFc (fun r_9 u_10 t H locs ht hvm hw hB hz hk hS => ?_)
  obtain ⟨hP1, hD1⟩ := hB
  rw [ht] at hP1
  obtain ⟨hP, hD⟩ := va_join (wr := [(v2_3, eY cB m2_4 f2_5)]) (w1 := [(h, eB v2_3 (nI n))]) hP hD [0] [1] rfl rfl (by decide +kernel) (by decide +kernel) hk hFc hP1 hD1
  have hP : va_P (dC, dI) xCl [(v2_3, eY cB m2_4 f2_5), (h, eB v2_3 (nI n))] H := hP
  have hD : va_D A [(v2_3, eY cB m2_4 f2_5), (h, eB v2_3 (nI n))] := hD
  have hw : r_9 = 1 := hw
  rw [hw]
  refine lv_if_eq (tgt := 40) hx hb dJ5_append_66267_23 (by decide +kernel) (fun c9 => absurd c9 (by decide +kernel)) (fun _ => ?_)
  refine lv_lload_n hx hb dJ5_append_66267_26 rfl (lv_at hl 3 rfl) ?_
  refine lv_iload hx hb dJ5_append_66267_27 (lv_at hl 0 rfl) ?_
  refine lv_aload_n hx hb dJ5_append_66267_29 rfl (lv_at hl 2 rfl) ?_
  refine va_get (D := (dC, dI)) (ci := 1) (v := .ref v2_3) (C := RJ4) (T := TJ4) (N := 4) hx hb hts (by decide +kernel) hown hK hP 1 rfl rfl 0 (by decide +kernel) (hts (.fieldLink RJ5 15 "java/lang/AbstractStringBuilder" "value" "[B") (by decide +kernel)) (fun _ h9 => h9) rfl dJ5_append_66267_30 ?_
  have hPc := hP.sub (ws' := [(v2_3, eY cB m2_4 f2_5)]) [0] rfl
  have hDc := hD.sub (ws' := [(v2_3, eY cB m2_4 f2_5)]) [0] (by decide +kernel) rfl
  have hKc := hK.sub (tys' := [(cB, .byte)]) [0] rfl
  have hFc := va_free (wc := [(v2_3, eY cB m2_4 f2_5)]) hD hS hA [0] rfl
  refine va_calli (va_runS (As := [.long (lN w), .int (nI (n + dgL w)), .ref v2_3]) (rest := []) ⟨hx, hb, hml, hown, hts⟩ (k_J13_getChars_11360 l dC dI cB w (n + dgL w) v2_3 m2_4 f2_5 H.size N (by omega) (by omega) (by omega) (by omega) hf_m2_4) (va_cwS 3 hts gJ5_append_66267_J13_getChars_11360 rfl rfl rfl (by decide +kernel) ⟨Nat.le_of_ble_eq_true rfl, Nat.le_of_ble_eq_true rfl⟩) (xT.preS hKc hPc hDc hAN (Nat.le_trans hN hS.1) (hG.kept hS hAN) (hT.kept hS hAN)) rfl rfl hl.1 rfl (lv_room (Nat.le_of_ble_eq_true rfl)) dJ5_append_66267_33 ⟨(show _ ≤ 1 by omega), (show _ ≤ 34 by omega)⟩) hS (fun q _ h => hFc q h) hFc (fun r_12 u_13 t H locs ht hvm hw hB hz hk hS => ?_)
  obtain ⟨hP1, hD1⟩ := hB
  rw [ht] at hP1
  obtain ⟨f2_11, rfl⟩ : ∃ z, z = u_13 := ⟨_, rfl⟩
  obtain ⟨hP, hD⟩ := va_join (wr := [(h, eB v2_3 (nI n))]) (w1 := [(v2_3, eY cB m2_4 f2_11)]) hP hD [0] [1] rfl rfl (by decide +kernel) (by decide +kernel) hk hFc hP1 hD1
  have hP : va_P (dC, dI) xCl [(h, eB v2_3 (nI n)), (v2_3, eY cB m2_4 f2_11)] H := hP
  have hD : va_D A [(h, eB v2_3 (nI n)), (v2_3, eY cB m2_4 f2_11)] := hD
  have hf_f2_11 : sb_Fit f2_11 := hw
  refine lv_pop hx hb dJ5_append_66267_36 rfl ?_
  refine lv_goto (tgt := 52) hx hb dJ5_append_66267_37 (by decide +kernel) ?_
  refine lv_aload_n hx hb dJ5_append_66267_52 rfl (lv_at hl 2 rfl) ?_
  refine lv_iload hx hb dJ5_append_66267_53 (lv_at hl 0 rfl) ?_
  refine va_put (D := (dC, dI)) (ci := 1) (v := .int (nI (n + dgL w))) (ty := .int) (C := RJ4) (T := TJ4) (N := 4) hx hb hts (by decide +kernel) tyJ4 tyJ4_ok nmJ4 hown hK hP hD hS 0 rfl rfl 3 (by decide +kernel) (hts (.fieldLink RJ5 79 "java/lang/AbstractStringBuilder" "count" "I") (by decide +kernel)) (fun _ h9 => h9) rfl (by decide +kernel) rfl rfl (Nat.le_of_ble_eq_true rfl) dJ5_append_66267_55 (fun H locs hP hD hS => ?_)
  have hP : va_P (dC, dI) xCl [(h, eB v2_3 (nI (n + dgL w))), (v2_3, eY cB m2_4 f2_11)] H := hP
  have hD : va_D A [(h, eB v2_3 (nI (n + dgL w))), (v2_3, eY cB m2_4 f2_11)] := hD
  refine lv_aload_n hx hb dJ5_append_66267_58 rfl (lv_at hl 2 rfl) ?_
  have hP := hP.sub (ws' := [(h, eB v2_3 (nI (n + dgL w))), (v2_3, eY cB m2_4 f2_11)]) [0, 1] rfl
  have hD := hD.sub (ws' := [(h, eB v2_3 (nI (n + dgL w))), (v2_3, eY cB m2_4 f2_11)]) [0, 1] (by decide +kernel) rfl
  refine W.widen (k := 1) (n := 34) (by omega) (by omega) ?_
  exact W.aret (v := .ref h) hx hb hr (Or.inl ⟨_, rfl⟩) (Or.inr ⟨_, rfl⟩) (fun t ht hW => ⟨⟨(v2_3, m2_4, f2_11), _, rfl, ⟨hm_m2_4, hq_m2_4, hf_f2_11⟩, ⟨rfl, by rw [ht]; exact hP, hD⟩⟩, hS.F ht⟩) hS.2.2 dJ5_append_66267_59
theorem cl_J4_append_f7089_1 : ∀ w ∈ wsJ4_append_f7089_r1, w ∈ wsJ4_append_f7089 := fun _ h => (List.mem_cons_of_mem _ (List.mem_append_left _ (List.mem_append_left _ h)))
theorem cl_J4_append_f7089_2 : ∀ w ∈ wsJ4_append_f7089_r2, w ∈ wsJ4_append_f7089 := fun _ h => (List.mem_cons_of_mem _ (List.mem_append_left _ (List.mem_append_right _ (List.mem_append_left _ h))))
theorem cl_J4_append_f7089_3 : ∀ w ∈ wsJ4_append_f7089_r3, w ∈ wsJ4_append_f7089 := fun _ h => (List.mem_cons_of_mem _ (List.mem_append_left _ (List.mem_append_right _ (List.mem_append_right _ (List.mem_append_left _ h)))))
theorem cl_J4_append_f7089_4 : ∀ w ∈ wsJ4_append_f7089_r4, w ∈ wsJ4_append_f7089 := fun _ h => (List.mem_cons_of_mem _ (List.mem_append_left _ (List.mem_append_right _ (List.mem_append_right _ (List.mem_append_right _ (List.mem_append_left _ h))))))
theorem cl_J4_append_f7089_5 : ∀ w ∈ wsJ4_append_f7089_r5, w ∈ wsJ4_append_f7089 := fun _ h => (List.mem_cons_of_mem _ (List.mem_append_left _ (List.mem_append_right _ (List.mem_append_right _ (List.mem_append_right _ (List.mem_append_right _ h))))))
theorem cl_J4_append_f7089_6 : ∀ w ∈ wsJ40, w ∈ wsJ4_append_f7089 := fun _ h => (List.mem_cons_of_mem _ (List.mem_append_right _ h))
set_option maxRecDepth 20000 in
theorem ggJ4_append_f7089_J5_append_66267 : GoodIn wsJ4_append_f7089 wsJ5_append_66267 := goodIn_sub (List.forall_mem_cons.mpr ⟨(cl_J4_append_f7089_1 _ (List.mem_of_getElem? (i := 5) rfl)), fun w h => (List.mem_append.mp h).elim ((fun w h => (List.mem_append.mp h).elim ((List.forall_mem_cons.mpr ⟨(cl_J4_append_f7089_1 _ (List.mem_of_getElem? (i := 6) rfl)), List.forall_mem_cons.mpr ⟨(cl_J4_append_f7089_1 _ (List.mem_of_getElem? (i := 7) rfl)), List.forall_mem_cons.mpr ⟨(cl_J4_append_f7089_1 _ (List.mem_of_getElem? (i := 8) rfl)), List.forall_mem_cons.mpr ⟨(cl_J4_append_f7089_1 _ (List.mem_of_getElem? (i := 9) rfl)), List.forall_mem_cons.mpr ⟨(cl_J4_append_f7089_1 _ (List.mem_of_getElem? (i := 10) rfl)), List.forall_mem_cons.mpr ⟨(cl_J4_append_f7089_1 _ (List.mem_of_getElem? (i := 11) rfl)), List.forall_mem_cons.mpr ⟨(cl_J4_append_f7089_1 _ (List.mem_of_getElem? (i := 12) rfl)), List.forall_mem_cons.mpr ⟨(cl_J4_append_f7089_1 _ (List.mem_of_getElem? (i := 13) rfl)), List.forall_mem_cons.mpr ⟨(cl_J4_append_f7089_1 _ (List.mem_of_getElem? (i := 14) rfl)), List.forall_mem_cons.mpr ⟨(cl_J4_append_f7089_1 _ (List.mem_of_getElem? (i := 15) rfl)), List.forall_mem_cons.mpr ⟨(cl_J4_append_f7089_1 _ (List.mem_of_getElem? (i := 16) rfl)), List.forall_mem_cons.mpr ⟨(cl_J4_append_f7089_1 _ (List.mem_of_getElem? (i := 17) rfl)), List.forall_mem_cons.mpr ⟨(cl_J4_append_f7089_1 _ (List.mem_of_getElem? (i := 4) rfl)), List.forall_mem_cons.mpr ⟨(cl_J4_append_f7089_1 _ (List.mem_of_getElem? (i := 18) rfl)), List.forall_mem_cons.mpr ⟨(cl_J4_append_f7089_1 _ (List.mem_of_getElem? (i := 19) rfl)), List.forall_mem_cons.mpr ⟨(cl_J4_append_f7089_1 _ (List.mem_of_getElem? (i := 20) rfl)), List.forall_mem_cons.mpr ⟨(cl_J4_append_f7089_1 _ (List.mem_of_getElem? (i := 21) rfl)), List.forall_mem_cons.mpr ⟨(cl_J4_append_f7089_1 _ (List.mem_of_getElem? (i := 22) rfl)), List.forall_mem_cons.mpr ⟨(cl_J4_append_f7089_1 _ (List.mem_of_getElem? (i := 23) rfl)), List.forall_mem_cons.mpr ⟨(cl_J4_append_f7089_2 _ (List.mem_of_getElem? (i := 0) rfl)), List.forall_mem_cons.mpr ⟨(cl_J4_append_f7089_2 _ (List.mem_of_getElem? (i := 1) rfl)), List.forall_mem_cons.mpr ⟨(cl_J4_append_f7089_2 _ (List.mem_of_getElem? (i := 2) rfl)), List.forall_mem_cons.mpr ⟨(cl_J4_append_f7089_2 _ (List.mem_of_getElem? (i := 3) rfl)), List.forall_mem_cons.mpr ⟨(cl_J4_append_f7089_2 _ (List.mem_of_getElem? (i := 4) rfl)), fun _ h => absurd h List.not_mem_nil⟩⟩⟩⟩⟩⟩⟩⟩⟩⟩⟩⟩⟩⟩⟩⟩⟩⟩⟩⟩⟩⟩⟩⟩) w) ((fun w h => (List.mem_append.mp h).elim ((List.forall_mem_cons.mpr ⟨(cl_J4_append_f7089_2 _ (List.mem_of_getElem? (i := 5) rfl)), List.forall_mem_cons.mpr ⟨(cl_J4_append_f7089_2 _ (List.mem_of_getElem? (i := 6) rfl)), List.forall_mem_cons.mpr ⟨(cl_J4_append_f7089_2 _ (List.mem_of_getElem? (i := 7) rfl)), List.forall_mem_cons.mpr ⟨(cl_J4_append_f7089_2 _ (List.mem_of_getElem? (i := 8) rfl)), List.forall_mem_cons.mpr ⟨(cl_J4_append_f7089_2 _ (List.mem_of_getElem? (i := 9) rfl)), List.forall_mem_cons.mpr ⟨(cl_J4_append_f7089_2 _ (List.mem_of_getElem? (i := 10) rfl)), List.forall_mem_cons.mpr ⟨(cl_J4_append_f7089_2 _ (List.mem_of_getElem? (i := 11) rfl)), List.forall_mem_cons.mpr ⟨(cl_J4_append_f7089_2 _ (List.mem_of_getElem? (i := 12) rfl)), List.forall_mem_cons.mpr ⟨(cl_J4_append_f7089_2 _ (List.mem_of_getElem? (i := 13) rfl)), List.forall_mem_cons.mpr ⟨(cl_J4_append_f7089_2 _ (List.mem_of_getElem? (i := 14) rfl)), List.forall_mem_cons.mpr ⟨(cl_J4_append_f7089_2 _ (List.mem_of_getElem? (i := 15) rfl)), List.forall_mem_cons.mpr ⟨(cl_J4_append_f7089_2 _ (List.mem_of_getElem? (i := 16) rfl)), List.forall_mem_cons.mpr ⟨(cl_J4_append_f7089_2 _ (List.mem_of_getElem? (i := 17) rfl)), List.forall_mem_cons.mpr ⟨(cl_J4_append_f7089_2 _ (List.mem_of_getElem? (i := 18) rfl)), List.forall_mem_cons.mpr ⟨(cl_J4_append_f7089_2 _ (List.mem_of_getElem? (i := 19) rfl)), List.forall_mem_cons.mpr ⟨(cl_J4_append_f7089_2 _ (List.mem_of_getElem? (i := 20) rfl)), List.forall_mem_cons.mpr ⟨(cl_J4_append_f7089_2 _ (List.mem_of_getElem? (i := 21) rfl)), List.forall_mem_cons.mpr ⟨(cl_J4_append_f7089_2 _ (List.mem_of_getElem? (i := 22) rfl)), List.forall_mem_cons.mpr ⟨(cl_J4_append_f7089_2 _ (List.mem_of_getElem? (i := 23) rfl)), List.forall_mem_cons.mpr ⟨(cl_J4_append_f7089_3 _ (List.mem_of_getElem? (i := 0) rfl)), List.forall_mem_cons.mpr ⟨(cl_J4_append_f7089_3 _ (List.mem_of_getElem? (i := 1) rfl)), List.forall_mem_cons.mpr ⟨(cl_J4_append_f7089_3 _ (List.mem_of_getElem? (i := 2) rfl)), List.forall_mem_cons.mpr ⟨(cl_J4_append_f7089_3 _ (List.mem_of_getElem? (i := 3) rfl)), List.forall_mem_cons.mpr ⟨(cl_J4_append_f7089_3 _ (List.mem_of_getElem? (i := 4) rfl)), fun _ h => absurd h List.not_mem_nil⟩⟩⟩⟩⟩⟩⟩⟩⟩⟩⟩⟩⟩⟩⟩⟩⟩⟩⟩⟩⟩⟩⟩⟩) w) ((fun w h => (List.mem_append.mp h).elim ((List.forall_mem_cons.mpr ⟨(cl_J4_append_f7089_3 _ (List.mem_of_getElem? (i := 5) rfl)), List.forall_mem_cons.mpr ⟨(cl_J4_append_f7089_3 _ (List.mem_of_getElem? (i := 6) rfl)), List.forall_mem_cons.mpr ⟨(cl_J4_append_f7089_3 _ (List.mem_of_getElem? (i := 7) rfl)), List.forall_mem_cons.mpr ⟨(cl_J4_append_f7089_3 _ (List.mem_of_getElem? (i := 8) rfl)), List.forall_mem_cons.mpr ⟨(cl_J4_append_f7089_3 _ (List.mem_of_getElem? (i := 9) rfl)), List.forall_mem_cons.mpr ⟨(cl_J4_append_f7089_3 _ (List.mem_of_getElem? (i := 10) rfl)), List.forall_mem_cons.mpr ⟨(cl_J4_append_f7089_3 _ (List.mem_of_getElem? (i := 11) rfl)), List.forall_mem_cons.mpr ⟨(cl_J4_append_f7089_3 _ (List.mem_of_getElem? (i := 12) rfl)), List.forall_mem_cons.mpr ⟨(cl_J4_append_f7089_3 _ (List.mem_of_getElem? (i := 13) rfl)), List.forall_mem_cons.mpr ⟨(cl_J4_append_f7089_3 _ (List.mem_of_getElem? (i := 14) rfl)), List.forall_mem_cons.mpr ⟨(cl_J4_append_f7089_3 _ (List.mem_of_getElem? (i := 15) rfl)), List.forall_mem_cons.mpr ⟨(cl_J4_append_f7089_3 _ (List.mem_of_getElem? (i := 16) rfl)), List.forall_mem_cons.mpr ⟨(cl_J4_append_f7089_3 _ (List.mem_of_getElem? (i := 17) rfl)), List.forall_mem_cons.mpr ⟨(cl_J4_append_f7089_3 _ (List.mem_of_getElem? (i := 18) rfl)), List.forall_mem_cons.mpr ⟨(cl_J4_append_f7089_3 _ (List.mem_of_getElem? (i := 19) rfl)), List.forall_mem_cons.mpr ⟨(cl_J4_append_f7089_3 _ (List.mem_of_getElem? (i := 20) rfl)), List.forall_mem_cons.mpr ⟨(cl_J4_append_f7089_3 _ (List.mem_of_getElem? (i := 21) rfl)), List.forall_mem_cons.mpr ⟨(cl_J4_append_f7089_3 _ (List.mem_of_getElem? (i := 22) rfl)), List.forall_mem_cons.mpr ⟨(cl_J4_append_f7089_3 _ (List.mem_of_getElem? (i := 23) rfl)), List.forall_mem_cons.mpr ⟨(cl_J4_append_f7089_4 _ (List.mem_of_getElem? (i := 0) rfl)), List.forall_mem_cons.mpr ⟨(cl_J4_append_f7089_4 _ (List.mem_of_getElem? (i := 1) rfl)), List.forall_mem_cons.mpr ⟨(cl_J4_append_f7089_4 _ (List.mem_of_getElem? (i := 2) rfl)), List.forall_mem_cons.mpr ⟨(cl_J4_append_f7089_4 _ (List.mem_of_getElem? (i := 3) rfl)), List.forall_mem_cons.mpr ⟨(cl_J4_append_f7089_4 _ (List.mem_of_getElem? (i := 4) rfl)), fun _ h => absurd h List.not_mem_nil⟩⟩⟩⟩⟩⟩⟩⟩⟩⟩⟩⟩⟩⟩⟩⟩⟩⟩⟩⟩⟩⟩⟩⟩) w) ((List.forall_mem_cons.mpr ⟨(cl_J4_append_f7089_4 _ (List.mem_of_getElem? (i := 5) rfl)), List.forall_mem_cons.mpr ⟨(cl_J4_append_f7089_4 _ (List.mem_of_getElem? (i := 6) rfl)), List.forall_mem_cons.mpr ⟨(cl_J4_append_f7089_4 _ (List.mem_of_getElem? (i := 7) rfl)), List.forall_mem_cons.mpr ⟨(cl_J4_append_f7089_4 _ (List.mem_of_getElem? (i := 8) rfl)), List.forall_mem_cons.mpr ⟨(cl_J4_append_f7089_4 _ (List.mem_of_getElem? (i := 9) rfl)), List.forall_mem_cons.mpr ⟨(cl_J4_append_f7089_4 _ (List.mem_of_getElem? (i := 10) rfl)), List.forall_mem_cons.mpr ⟨(cl_J4_append_f7089_4 _ (List.mem_of_getElem? (i := 11) rfl)), List.forall_mem_cons.mpr ⟨(cl_J4_append_f7089_4 _ (List.mem_of_getElem? (i := 12) rfl)), List.forall_mem_cons.mpr ⟨(cl_J4_append_f7089_4 _ (List.mem_of_getElem? (i := 13) rfl)), List.forall_mem_cons.mpr ⟨(cl_J4_append_f7089_4 _ (List.mem_of_getElem? (i := 14) rfl)), List.forall_mem_cons.mpr ⟨(cl_J4_append_f7089_4 _ (List.mem_of_getElem? (i := 15) rfl)), List.forall_mem_cons.mpr ⟨(cl_J4_append_f7089_4 _ (List.mem_of_getElem? (i := 16) rfl)), List.forall_mem_cons.mpr ⟨(cl_J4_append_f7089_4 _ (List.mem_of_getElem? (i := 17) rfl)), List.forall_mem_cons.mpr ⟨(cl_J4_append_f7089_4 _ (List.mem_of_getElem? (i := 18) rfl)), List.forall_mem_cons.mpr ⟨(cl_J4_append_f7089_4 _ (List.mem_of_getElem? (i := 19) rfl)), List.forall_mem_cons.mpr ⟨(cl_J4_append_f7089_4 _ (List.mem_of_getElem? (i := 20) rfl)), List.forall_mem_cons.mpr ⟨(cl_J4_append_f7089_4 _ (List.mem_of_getElem? (i := 21) rfl)), List.forall_mem_cons.mpr ⟨(cl_J4_append_f7089_4 _ (List.mem_of_getElem? (i := 22) rfl)), List.forall_mem_cons.mpr ⟨(cl_J4_append_f7089_4 _ (List.mem_of_getElem? (i := 23) rfl)), List.forall_mem_cons.mpr ⟨(cl_J4_append_f7089_5 _ (List.mem_of_getElem? (i := 0) rfl)), List.forall_mem_cons.mpr ⟨(cl_J4_append_f7089_5 _ (List.mem_of_getElem? (i := 1) rfl)), List.forall_mem_cons.mpr ⟨(cl_J4_append_f7089_5 _ (List.mem_of_getElem? (i := 2) rfl)), List.forall_mem_cons.mpr ⟨(cl_J4_append_f7089_5 _ (List.mem_of_getElem? (i := 3) rfl)), List.forall_mem_cons.mpr ⟨(cl_J4_append_f7089_5 _ (List.mem_of_getElem? (i := 4) rfl)), fun _ h => absurd h List.not_mem_nil⟩⟩⟩⟩⟩⟩⟩⟩⟩⟩⟩⟩⟩⟩⟩⟩⟩⟩⟩⟩⟩⟩⟩⟩) w)) w)) w)) w) ((cl_J4_append_f7089_6) w)⟩) (by decide +kernel)
set_option maxRecDepth 20000 in
theorem gJ4_append_f7089_J5_append_66267_s56 : GoodIn wsJ4_append_f7089 (va_wsSU RJ4 56 yJ5_append_66267 wsJ5_append_66267) := goodIn_app (goodIn_of _ (by decide +kernel)) ggJ4_append_f7089_J5_append_66267
noncomputable def dz_p04c_11 : List (Nat × Instr × Nat) := [(0, (.aload_n 0, 1)), (1, (.lload_n 1, 1)), (2, (.invokespecial 56, 3)), (5, (.pop, 1)), (6, (.aload_n 0, 1)), (7, (.areturn, 1))]
theorem dy_p04c_11 : dz_ok cJ4_append_f7089 dz_p04c_11 = true := by decide +kernel
theorem dJ4_append_f7089_0 : decode cJ4_append_f7089 0 = .ok (.aload_n 0, 1) := dz_at (i := 0) dy_p04c_11 rfl
theorem dJ4_append_f7089_1 : decode cJ4_append_f7089 1 = .ok (.lload_n 1, 1) := dz_at (i := 1) dy_p04c_11 rfl
theorem dJ4_append_f7089_2 : decode cJ4_append_f7089 2 = .ok (.invokespecial 56, 3) := dz_at (i := 2) dy_p04c_11 rfl
theorem dJ4_append_f7089_5 : decode cJ4_append_f7089 5 = .ok (.pop, 1) := dz_at (i := 3) dy_p04c_11 rfl
theorem dJ4_append_f7089_6 : decode cJ4_append_f7089 6 = .ok (.aload_n 0, 1) := dz_at (i := 4) dy_p04c_11 rfl
theorem dJ4_append_f7089_7 : decode cJ4_append_f7089 7 = .ok (.areturn, 1) := dz_at (i := 5) dy_p04c_11 rfl
set_option maxHeartbeats 4000000 in
set_option maxRecDepth 100000 in
theorem k_J4_append_f7089 (l : Launch) (dC : Nat → ClassId) (dI : Nat → Nat → Nat) (cB : ClassId) (h : Nat) (v : Nat) (n : Nat) (mm : Nat) (f : Nat → Int32) (w : Nat) (sz N : Nat) (hm : mm = 16 ∨ mm = 34) (hf : sb_Fit f) (hwb : w < 10000000000000000) (hn : n + dgL w ≤ 34) : Met l yJ4_append_f7089 wsJ4_append_f7089 ({ frames := 5, cells := 1, slots := 34, locals := 168 }) (va_Pc [.ref h, .long (lN w)] (xT (dC, dI) xCl [(h, eB v (nI n)), (v, eY cB mm f)] [(cB, .byte)] sz N)) (va_Qr (fun (u : Nat × Nat × (Nat → Int32)) => (u.2.1 = 16 ∨ u.2.1 = 34) ∧ n + dgL w ≤ u.2.1 ∧ sb_Fit u.2.2) (fun (u : Nat × Nat × (Nat → Int32)) a t => a = h ∧ xW (dC, dI) xCl [(h, eB u.1 (nI (n + dgL w))), (u.1, eY cB u.2.1 u.2.2)] (va_A [(h, eB v (nI n)), (v, eY cB mm f)] sz) t) (va_A [(h, eB v (nI n)), (v, eY cB mm f)] sz)) 1 34 (va_A [(h, eB v (nI n)), (v, eY cB mm f)] sz) := by
  refine Met.ofW (cc := cJ4_append_f7089) (maxL := 3) (ret := (some (.object "java/lang/StringBuilder"))) (by decide +kernel) rfl ?_
  intro p e s m args below meth c s₁ B hml hv
  obtain ⟨rfl, ⟨hsz, hP, hK, hD0, hN, hG⟩, hT⟩ := hv
  have hx := B.exec
  have hb := B.bytes
  have hr := B.returns
  have hts := atoms_spec (ws := wsJ4_append_f7089) B.pre
  have hown : s.vm.findClass RJ4 = some m.cls := findClass_of_methodNamed B.named
  have hlocks := B.notSynchronized
  subst hsz
  have hAN : ∀ q, va_A [(h, eB v (nI n)), (v, eY cB mm f)] s.heap.size q → N ≤ q := xA_N hD0 hN
  have hD := hD0.self (sz := s.heap.size)
  generalize hAe : va_A [(h, eB v (nI n)), (v, eY cB mm f)] s.heap.size = A at hD hAN ⊢
  have hA : ∀ q : Nat, s.heap.size ≤ q → A q := fun q h => by rw [← hAe]; exact Or.inr h
  have hS : va_S A s.heap s.heap [] := va_S.rf
  have hP : va_P (dC, dI) xCl [(h, eB v (nI n)), (v, eY cB mm f)] s.heap := hP
  obtain ⟨hTc, ⟨tO, tT, fO, fT, hTo, hTt, hTa, hTb, hTf, hTg⟩, ⟨adK, adV, hTs, hTr0, hTr1, hTr2⟩, ⟨aE, hTe⟩, hTn⟩ := id hT
  have hl := lv_entry ([.ref h, .long (lN w)]) (n := 3) (Nat.le_of_ble_eq_true rfl)
  rw [lg_entry_eq]
  generalize (lg_sl ([.ref h, .long (lN w)]) ++ List.replicate (3 - (lg_sl ([.ref h, .long (lN w)])).length) Slot.unset).toArray = ls at hl ⊢
  have hl : lv_has ls 3 [(0, .ref h), (1, .long (lN w))] := hl
  refine lv_aload_n hx hb dJ4_append_f7089_0 rfl (lv_at hl 0 rfl) ?_
  refine lv_lload_n hx hb dJ4_append_f7089_1 rfl (lv_at hl 1 rfl) ?_
  have hPc := hP.sub (ws' := [(h, eB v (nI n)), (v, eY cB mm f)]) [0, 1] rfl
  have hDc := hD.sub (ws' := [(h, eB v (nI n)), (v, eY cB mm f)]) [0, 1] (by decide +kernel) rfl
  have hKc := hK.sub (tys' := [(cB, .byte)]) [0] rfl
  have hFc := va_free (wc := [(h, eB v (nI n)), (v, eY cB mm f)]) hD hS hA [0, 1] rfl
  refine va_callr (va_runSU (hK.1 1 _ rfl).2 (As := [.long (lN w)]) (rest := []) ⟨hx, hb, hml, hown, hts⟩ (k_J5_append_66267 l dC dI cB h v n mm f w s.heap.size N hm hf (by omega) (by omega)) (va_cwSU 1 hts gJ4_append_f7089_J5_append_66267_s56 rfl rfl rfl (by decide +kernel) ⟨Nat.le_of_ble_eq_true rfl, Nat.le_of_ble_eq_true rfl⟩) (xT.preV hKc hPc hDc hAN (Nat.le_trans hN hS.1) (hG.kept hS hAN) (hT.kept hS hAN) (ci := 1) (q0 := 0) rfl rfl) rfl rfl hl.1 rfl (lv_room (Nat.le_of_ble_eq_true rfl)) dJ4_append_f7089_2 ⟨(show _ ≤ 1 by omega), (show _ ≤ 34 by omega)⟩) hS (fun q _ h => hFc q h) hFc (fun u_5 r_4 t H locs ht hvm hw hB hz hk hS => ?_)
  obtain ⟨he_r_4, hP1, hD1⟩ := hB
  rw [ht] at hP1
  obtain ⟨v2_1, m2_2, f2_3⟩ := u_5
  obtain ⟨hP, hD⟩ := va_join (wr := []) (w1 := [(h, eB v2_1 (nI (n + dgL w))), (v2_1, eY cB m2_2 f2_3)]) hP hD [0, 1] [] rfl rfl (by decide +kernel) (by decide +kernel) hk hFc hP1 hD1
  have hP : va_P (dC, dI) xCl [(h, eB v2_1 (nI (n + dgL w))), (v2_1, eY cB m2_2 f2_3)] H := hP
  have hD : va_D A [(h, eB v2_1 (nI (n + dgL w))), (v2_1, eY cB m2_2 f2_3)] := hD
  obtain ⟨hm_m2_2, hq_m2_2, hf_m2_2⟩ : (m2_2 = 16 ∨ m2_2 = 34) ∧ n + dgL w ≤ m2_2 ∧ sb_Fit f2_3 := hw
  rw [he_r_4]
  refine lv_pop hx hb dJ4_append_f7089_5 rfl ?_
  refine lv_aload_n hx hb dJ4_append_f7089_6 rfl (lv_at hl 0 rfl) ?_
  have hP := hP.sub (ws' := [(h, eB v2_1 (nI (n + dgL w))), (v2_1, eY cB m2_2 f2_3)]) [0, 1] rfl
  have hD := hD.sub (ws' := [(h, eB v2_1 (nI (n + dgL w))), (v2_1, eY cB m2_2 f2_3)]) [0, 1] (by decide +kernel) rfl
  refine W.widen (k := 1) (n := 34) (by omega) (by omega) ?_
  exact W.aret (v := .ref h) hx hb hr (Or.inl ⟨_, rfl⟩) (Or.inr ⟨_, rfl⟩) (fun t ht hW => ⟨⟨(v2_1, m2_2, f2_3), _, rfl, ⟨hm_m2_2, hq_m2_2, hf_m2_2⟩, ⟨rfl, by rw [ht]; exact hP, hD⟩⟩, hS.F ht⟩) hS.2.2 dJ4_append_f7089_7
