/-! QUARTERs: both sides count the same -/
noncomputable def bF (w : Bool) : Nat := if w then 52 else 23
noncomputable def bE (w : Bool) : Nat := if w then 1021 else 125
noncomputable def bH (w : Bool) : Nat := if w then 29 else 23
noncomputable def bD (w : Bool) : Nat := if w then 1000000000 else 16000000
noncomputable def qS (w : Bool) (n m : Nat) : Int32 := if n < bB w then nI m else -(nI m)
noncomputable def qN (w : Bool) (n : Nat) : Int32 :=
  if n % bB w = 0 then 0
  else if n / bP w % bQ w < bE w then -2147483648
  else if n / bP w % bQ w - bE w ≤ bH w then
    (if (bP w + n % bP w) % 2 ^ (bF w - (n / bP w % bQ w - bE w)) = 0 then
      (if (bP w + n % bP w) / 2 ^ (bF w - (n / bP w % bQ w - bE w)) ≤ bD w then qS w n ((bP w + n % bP w) / 2 ^ (bF w - (n / bP w % bQ w - bE w))) else -2147483648)
    else -2147483648)
  else -2147483648
theorem mq_k (w : Bool) : wEq w = nI (bE w) ∧ wFd w = nI (bF w) ∧ (wQb w).toInt64 = lN (bD w) ∧ mMo w = lN (bD w) ∧ bP w = 2 ^ bF w ∧ bF w ≤ 52 ∧ bE w ≤ 1021 ∧ bH w ≤ bF w ∧ bD w < 2 ^ (bH w + 1) ∧ bD w ≤ 1000000000 ∧ ((jLshl 1 ((mEx w) - 1)) - 3) + ((mFr w).toInt64) = lN (bE w + bF w) ∧ mFr w = nI (bF w) := by
  cases w <;> (refine ⟨?_, ?_, ?_, ?_, ?_, ?_, ?_, ?_, ?_, ?_, ?_, ?_⟩ <;> decide)
theorem mq_h (w : Bool) : o_X1_highestDigit ((wQb w).toInt64) = nI (bH w) := by cases w <;> decide +kernel
theorem mq_sign {w : Bool} {n : Nat} (h : n < 2 * bB w) : o_X1_hasSign w (lN n) = true ↔ ¬ n < bB w := by
  rw [o_X1_hasSign]
  by_cases c : n < bB w
  · rw [if_pos ((mo_sg h).mpr c)]
    exact ⟨fun z => absurd z (by decide), fun z => absurd c z⟩
  · rw [if_neg (fun z => c ((mo_sg h).mp z))]
    exact ⟨fun _ => c, fun _ => rfl⟩
theorem mq_neg32 (m : Nat) : (-(lN m)).toInt32 = -(nI m) := by
  rw [Int64.toInt32_neg, lN_i]
theorem mq_full (w : Bool) (n : Nat) : (jLshl 1 (wFd w)) ||| (o_X1_fraction w (lN n)) = lN (bP w + n % bP w) ∧ (jLshl 1 (mFr w)) + (o_X4_fraction w (lN n)) = lN (bP w + n % bP w) ∧ bP w + n % bP w < 2 * bP w := by
  have h := (mp_split w n).2.2.2
  refine ⟨?_, ?_, by omega⟩
  · rw [mp_fr]
    cases w
    · rw [show jLshl 1 (wFd false) = lN (2 ^ 23 * 1) by decide]
      exact fb_or_sumL 1 h
    · rw [show jLshl 1 (wFd true) = lN (2 ^ 52 * 1) by decide]
      exact fb_or_sumL 1 h
  · rw [mp_fr4, show jLshl 1 (mFr w) = lN (bP w) by cases w <;> decide]
    exact lN_add _ _
theorem mq_class {w : Bool} {n : Nat} (hn : n < 2 * bB w) : o_X1_quarters w (lN n) = qN w n := by
  obtain ⟨k1, k2, k3, k4, k5, k6, k7, k8, k9, k10, k11, k12⟩ := mq_k w
  obtain ⟨s1, s2, s3, s4⟩ := mp_split w n
  obtain ⟨q1, q2, q3, q4, q5, q6⟩ := mp_q w
  obtain ⟨f1, f2, f3⟩ := mq_full w n
  rw [o_X1_quarters, qN, mq_h, f1, mp_ex hn, k1, k2, k3]
  generalize he : n / bP w % bQ w = e at *
  generalize hm : bP w + n % bP w = m at *
  by_cases c0 : n % bB w = 0
  · rw [if_pos ((mo_zero hn).mpr c0), if_pos c0]
  · rw [if_neg (fun z => c0 ((mo_zero hn).mp z)), if_neg c0]
    have t : (nI e - nI (bE w)).toInt = (e : Int) - (bE w : Nat) := pk_sub_toInt (by omega) (by omega)
    by_cases c1 : e < bE w
    · rw [if_pos c1, if_pos (Int32.lt_iff_toInt_lt.mpr (by rw [t, show (0 : Int32).toInt = 0 by decide]; omega))]
    · rw [if_neg c1, if_neg (fun z => by
        have z2 := Int32.lt_iff_toInt_lt.mp z
        rw [t, show (0 : Int32).toInt = 0 by decide] at z2
        omega)]
      rw [pk_sub (show bE w ≤ e by omega)]
      by_cases c2 : e - bE w ≤ bH w
      · rw [if_pos c2, if_pos (nI_le c2 (by omega)), pk_sub (show e - bE w ≤ bF w by omega)]
        generalize hk : bF w - (e - bE w) = k at *
        have hm63 : m < 9223372036854775808 := by omega
        have hk64 : k < 64 := by omega
        rw [mp_shr hm63 hk64, mp_shl _ hk64]
        have d1 := Nat.div_add_mod m (2 ^ k)
        have d3 : m / 2 ^ k * 2 ^ k ≤ m := Nat.div_mul_le_self _ _
        have d4 : m / 2 ^ k ≤ m := Nat.div_le_self _ _
        by_cases c3 : m % 2 ^ k = 0
        · have e3 : m / 2 ^ k * 2 ^ k = m := by rw [Nat.mul_comm]; omega
          rw [if_pos c3, if_pos (by rw [e3])]
          by_cases c4 : m / 2 ^ k ≤ bD w
          · rw [if_pos c4, if_pos ((pk_lLE (by omega) (by omega)).mpr c4), qS]
            by_cases c5 : n < bB w
            · rw [if_pos c5, if_neg (fun z => ((mq_sign hn).mp z) c5), lN_i]
            · rw [if_neg c5, if_pos ((mq_sign hn).mpr c5), mq_neg32]
          · rw [if_neg c4, if_neg (fun z => c4 ((pk_lLE (by omega) (by omega)).mp z))]
        · rw [if_neg c3, if_neg (fun z => by
            have z2 := mo_inj (by omega) (by omega) z
            rw [Nat.mul_comm] at z2
            omega)]
      · rw [if_neg c2, if_neg (fun z => c2 (by
          have z2 := Int32.le_iff_toInt_le.mp z
          rw [nI_toInt (by omega), nI_toInt (by omega)] at z2
          omega))]
/-- what the count's loop ends with -/
noncomputable def qF (w : Bool) (n m : Nat) : Int32 := if m ≤ bD w then qS w n m else -2147483648
theorem mq_fin {w : Bool} {n m : Nat} (hn : n < 2 * bB w) (hm : m < 9223372036854775808) : (if lN m ≤ (mMo w) then (if (o_X4_isBelowZero w (lN n)) = true then ((-(lN m)).toInt32) else (lN m).toInt32) else (-2147483648)) = qF w n m := by
  obtain ⟨k1, k2, k3, k4, k5, k6, k7, k8, k9, k10, k11, k12⟩ := mq_k w
  rw [qF, k4]
  by_cases c4 : m ≤ bD w
  · rw [if_pos c4, if_pos ((pk_lLE (by omega) (by omega)).mpr c4), qS]
    by_cases c5 : n < bB w
    · rw [if_pos c5, if_neg (fun z => ((mo_neg hn).mp z) c5), lN_i]
    · rw [if_neg c5, if_pos ((mo_neg hn).mpr c5), mq_neg32]
  · rw [if_neg c4, if_neg (fun z => c4 ((pk_lLE (by omega) (by omega)).mp z))]
theorem mq_loop {w : Bool} {n : Nat} (hn : n < 2 * bB w) : ∀ (k N e m : Nat), k ≤ N → e + k = bE w + bF w → m < 9223372036854775808 → L_count w (lN n) N (lN m) (lN e) = if m % 2 ^ k = 0 then qF w n (m / 2 ^ k) else -2147483648 := by
  obtain ⟨k1, k2, k3, k4, k5, k6, k7, k8, k9, k10, k11, k12⟩ := mq_k w
  intro k
  induction k with
  | zero =>
    intro N e m _ he hm
    rw [Nat.pow_zero, Nat.mod_one, if_pos rfl, Nat.div_one]
    cases N with
    | zero => rw [L_count]; exact mq_fin hn hm
    | succ N =>
      rw [L_count, k11, if_pos (by rw [show bE w + bF w = e by omega]; exact Int64.le_refl _)]
      exact mq_fin hn hm
  | succ k ih =>
    intro N e m hN he hm
    cases N with
    | zero => omega
    | succ N =>
      rw [L_count, k11, if_neg (fun z => by
        have z2 := (pk_lLE (by omega) (by omega)).mp z
        omega)]
      rw [show (2 : Int64) = lN 2 from rfl, pk_lRem hm (by decide) (by decide), pk_lDiv hm (by decide) (by decide), lN_1]
      have p1 : m % 2 ^ (k + 1) = m % 2 + 2 * (m / 2 % 2 ^ k) := by rw [Nat.pow_succ, Nat.mul_comm, Nat.mod_mul]
      have p2 : m / 2 ^ (k + 1) = m / 2 / 2 ^ k := by rw [Nat.pow_succ, Nat.mul_comm, Nat.div_div_eq_div_mul]
      by_cases c : m % 2 = 0
      · rw [if_pos ((mp_l0 (by omega)).mpr c), ih N (e + 1) (m / 2) (by omega) (by omega) (by omega), p2]
        by_cases d : m / 2 % 2 ^ k = 0
        · rw [if_pos d, if_pos (by omega)]
        · rw [if_neg d, if_neg (by omega)]
      · rw [if_neg (fun z => c ((mp_l0 (by omega)).mp z)), if_neg (by omega)]
theorem mq_model {w : Bool} {n : Nat} (hn : n < 2 * bB w) : o_X4_count w (lN n) = qN w n := by
  obtain ⟨k1, k2, k3, k4, k5, k6, k7, k8, k9, k10, k11, k12⟩ := mq_k w
  obtain ⟨s1, s2, s3, s4⟩ := mp_split w n
  obtain ⟨q1, q2, q3, q4, q5, q6⟩ := mp_q w
  obtain ⟨f1, f2, f3⟩ := mq_full w n
  have hr := mo_r (w := w) n
  have hw : bE w + bH w < bQ w - 1 ∧ bE w + bF w < bQ w := by cases w <;> decide
  rw [o_X4_count, qN, mo_size hn, mp_ex4 hn, s2, f2, k11]
  by_cases c0 : n % bB w = 0
  · rw [if_pos ((mp_l0 (by omega)).mpr c0), if_pos c0]
  · rw [if_neg (fun z => c0 ((mp_l0 (by omega)).mp z)), if_neg c0]
    have hend : o_X4_isEndless w (lN n) = true → n / bP w % bQ w = bQ w - 1 := by
      intro z
      by_cases a : n / bP w % bQ w = bQ w - 1
      · exact a
      · rw [o_X4_isEndless, mo_size hn, mp_end4] at z
        by_cases b : lN (n % bB w) = lN ((bQ w - 1) * bP w)
        · have hb : (bQ w - 1) * bP w < 18446744073709551616 := by
            have : (bQ w - 1) * bP w ≤ bQ w * bP w := Nat.mul_le_mul_right _ (by omega)
            omega
          have z2 := mo_inj (by omega) hb b
          have z3 : (bQ w - 1) * bP w / bP w = bQ w - 1 := Nat.mul_div_cancel _ (by omega)
          rw [← z2, s2] at z3
          exact z3
        · rw [if_neg b] at z
          exact absurd z (by decide)
    generalize he : n / bP w % bQ w = e at *
    have hf3 := f3
    have hE0 : 0 < bE w := by cases w <;> decide
    generalize hm : bP w + n % bP w = m at *
    have hpm : bP w ≤ m := by omega
    by_cases c1 : e = 0
    · rw [if_pos ((mp_l0 (by omega)).mpr c1), if_pos (show e < bE w by omega)]
    · rw [if_neg (fun z => c1 ((mp_l0 (by omega)).mp z))]
      by_cases c2 : o_X4_isEndless w (lN n) = true
      · have := hend c2
        rw [if_pos c2, if_neg (show ¬ e < bE w by omega), if_neg (show ¬ e - bE w ≤ bH w by omega)]
      · rw [if_neg c2]
        by_cases c3 : e ≤ bE w + bF w
        · rw [if_pos ((pk_lLE (by omega) (by omega)).mpr c3), mq_loop hn (bE w + bF w - e) 1100 e m (by omega) (by omega) (by omega)]
          by_cases c4 : e < bE w
          · rw [if_pos c4]
            have hk : 2 * bP w ≤ 2 ^ (bE w + bF w - e) := by
              rw [k5, Nat.mul_comm, ← Nat.pow_succ]
              exact Nat.pow_le_pow_right (by decide) (by omega)
            rw [if_neg (by rw [Nat.mod_eq_of_lt (by omega)]; omega)]
          · rw [if_neg c4]
            have hke : bE w + bF w - e = bF w - (e - bE w) := by omega
            rw [hke]
            by_cases c5 : e - bE w ≤ bH w
            · rw [if_pos c5]
              rfl
            · rw [if_neg c5]
              have hp : bP w = 2 ^ (e - bE w) * 2 ^ (bF w - (e - bE w)) := by
                rw [k5, ← Nat.pow_add]
                congr 1
                omega
              have hge : 2 ^ (e - bE w) ≤ m / 2 ^ (bF w - (e - bE w)) := by
                rw [Nat.le_div_iff_mul_le (Nat.pow_pos (by decide)), ← hp]
                exact hpm
              have h2 : 2 ^ (bH w + 1) ≤ 2 ^ (e - bE w) := Nat.pow_le_pow_right (by decide) (by omega)
              rw [qF, if_neg (show ¬ m / 2 ^ (bF w - (e - bE w)) ≤ bD w by omega)]
              split <;> rfl
        · rw [if_neg (fun z => c3 ((pk_lLE (by omega) (by omega)).mp z)), if_neg (show ¬ e < bE w by omega), if_neg (show ¬ e - bE w ≤ bH w by omega)]
/-- QUARTERs, by both -/
theorem mq_count {w : Bool} {d : Int64} (h : okN w d) : o_X4_count w d = o_X1_quarters w d := by
  obtain ⟨n, hn, rfl⟩ := mo_of h
  rw [mq_class hn, mq_model hn]
