/-! the parts of a cell's digits, on both sides -/
noncomputable def bP (w : Bool) : Nat := if w then 4503599627370496 else 8388608
noncomputable def bQ (w : Bool) : Nat := if w then 2048 else 256
theorem mp_ushr {n k : Nat} (hn : n < 18446744073709551616) (hk : k < 64) : jLushr (lN n) (nI k) = lN (n / 2 ^ k) := wb_shr hn hk
theorem mp_shl (n : Nat) {k : Nat} (hk : k < 64) : jLshl (lN n) (nI k) = lN (n * 2 ^ k) := wb_shl n hk
theorem mp_shr {n k : Nat} (hn : n < 9223372036854775808) (hk : k < 64) : jLshr (lN n) (nI k) = lN (n / 2 ^ k) := by
  apply Int64.toInt_inj.mp
  have h2 : n / 2 ^ k < 9223372036854775808 := Nat.lt_of_le_of_lt (Nat.div_le_self _ _) hn
  rw [mo_toInt h2]
  have e : (jLshr (lN n) (nI k)).toInt = (lN n).toInt >>> (((nI k).toInt64 &&& 63).toBitVec.smod 64).toNat := by
    show (lN n >>> ((nI k).toInt64 &&& 63)).toInt = _
    exact BitVec.toInt_sshiftRight ..
  rw [e, wb_c k hk, wb_tb, wb_sm k hk, BitVec.toNat_ofNat, Nat.mod_eq_of_lt (by omega), mo_toInt hn, Int.shiftRight_eq_div_pow]
  norm_cast
theorem mp_and32 (m k : Nat) : nI m &&& nI (2 ^ k - 1) = nI (m % 2 ^ k) := by
  apply Int32.toBitVec_inj.1
  show BitVec.ofNat 32 m &&& BitVec.ofNat 32 (2 ^ k - 1) = BitVec.ofNat 32 (m % 2 ^ k)
  rw [← Nat.and_two_pow_sub_one_eq_mod]
  apply BitVec.eq_of_getLsbD_eq
  intro i hi
  rw [BitVec.getLsbD_and, BitVec.getLsbD_ofNat, BitVec.getLsbD_ofNat, BitVec.getLsbD_ofNat, Nat.testBit_and]
  cases decide (i < 32) <;> simp
theorem mp_ex {w : Bool} {n : Nat} (h : n < 2 * bB w) : o_X1_exponent w (lN n) = nI (n / bP w % bQ w) := by
  have hn := mo_lt h
  rw [o_X1_exponent]
  cases w
  · rw [show wFd false = nI 23 by decide, mp_ushr hn (by decide), lN_i, show wEo false = nI (2 ^ 8 - 1) by decide, mp_and32]
    rfl
  · rw [show wFd true = nI 52 by decide, mp_ushr hn (by decide), lN_i, show wEo true = nI (2 ^ 11 - 1) by decide, mp_and32]
    rfl
theorem mp_fr (w : Bool) (n : Nat) : o_X1_fraction w (lN n) = lN (n % bP w) := by
  rw [o_X1_fraction]
  cases w
  · exact fb_maskL n 23
  · exact fb_maskL n 52
theorem mp_fr4 (w : Bool) (n : Nat) : o_X4_fraction w (lN n) = lN (n % bP w) := by
  rw [o_X4_fraction]
  cases w
  · rw [show jLshl 1 (mFr false) - 1 = lN (2 ^ 23 - 1) by decide]
    exact fb_maskL n 23
  · rw [show jLshl 1 (mFr true) - 1 = lN (2 ^ 52 - 1) by decide]
    exact fb_maskL n 52
theorem mp_ex4 {w : Bool} {n : Nat} (h : n < 2 * bB w) : o_X4_exponent w (lN n) = lN (n % bB w / bP w) := by
  rw [o_X4_exponent, mo_size h]
  cases w
  · rw [show mFr false = nI 23 by decide, mp_shr (mo_r n) (by decide)]
    rfl
  · rw [show mFr true = nI 52 by decide, mp_shr (mo_r n) (by decide)]
    rfl
theorem mp_split (w : Bool) (n : Nat) : n % bB w = n / bP w % bQ w * bP w + n % bP w ∧ n % bB w / bP w = n / bP w % bQ w ∧ n / bP w % bQ w < bQ w ∧ n % bP w < bP w := by
  cases w
  · show n % 2147483648 = n / 8388608 % 256 * 8388608 + n % 8388608 ∧ n % 2147483648 / 8388608 = n / 8388608 % 256 ∧ n / 8388608 % 256 < 256 ∧ n % 8388608 < 8388608
    omega
  · show n % 9223372036854775808 = n / 4503599627370496 % 2048 * 4503599627370496 + n % 4503599627370496 ∧ n % 9223372036854775808 / 4503599627370496 = n / 4503599627370496 % 2048 ∧ n / 4503599627370496 % 2048 < 2048 ∧ n % 4503599627370496 < 4503599627370496
    omega
theorem mp_end4 (w : Bool) : o_X4_endless w = lN ((bQ w - 1) * bP w) := by cases w <;> decide
theorem mp_eo (w : Bool) : wEo w = nI (bQ w - 1) := by cases w <;> decide
theorem mp_q (w : Bool) : 1 < bQ w ∧ bQ w ≤ 2048 ∧ 0 < bP w ∧ bP w ≤ 4503599627370496 ∧ bQ w * bP w = bB w ∧ bB w ≤ 9223372036854775808 := by cases w <;> decide
theorem mp_l0 {m : Nat} (h : m < 18446744073709551616) : lN m = 0 ↔ m = 0 := by
  constructor
  · intro z
    exact mo_inj h (by decide) (z.trans (show (0 : Int64) = lN 0 from rfl))
  · rintro rfl
    rfl
/-- ENDLESS, by both -/
theorem mp_endless {w : Bool} {d : Int64} (h : okN w d) : o_X4_isEndless w d = o_X1_isEndless w d := by
  obtain ⟨n, hn, rfl⟩ := mo_of h
  obtain ⟨s1, s2, s3, s4⟩ := mp_split w n
  obtain ⟨q1, q2, q3, q4, q5, q6⟩ := mp_q w
  have hr := mo_r (w := w) n
  rw [o_X4_isEndless, o_X1_isEndless, mo_size hn, mp_end4, mp_ex hn, mp_fr, mp_eo]
  have e1 : nI (n / bP w % bQ w) = nI (bQ w - 1) ↔ n / bP w % bQ w = bQ w - 1 := nI_eq (by omega) (by omega)
  have e2 := mp_l0 (m := n % bP w) (by omega)
  have hb : (bQ w - 1) * bP w < 18446744073709551616 := by
    have : (bQ w - 1) * bP w ≤ bQ w * bP w := Nat.mul_le_mul_right _ (by omega)
    omega
  by_cases a : n / bP w % bQ w = bQ w - 1
  · rw [if_pos (e1.mpr a)]
    by_cases b : n % bP w = 0
    · rw [if_pos (e2.mpr b), if_pos (by rw [s1, a, b]; rfl)]
    · rw [if_neg (fun z => b (e2.mp z)), if_neg (fun z => by
        have z2 := mo_inj (by omega) hb z
        rw [s1, a] at z2
        omega)]
  · rw [if_neg (fun z => a (e1.mp z)), if_neg (fun z => by
      have z2 := mo_inj (by omega) hb z
      have z3 : (bQ w - 1) * bP w / bP w = bQ w - 1 := Nat.mul_div_cancel _ (by omega)
      rw [← z2, s2] at z3
      exact a z3)]
/-- spoiled digits, by both -/
theorem mp_spoiled {w : Bool} {d : Int64} (h : okN w d) : o_X4_isSpoiled w d = o_X1_isSpoiled w d := by
  obtain ⟨n, hn, rfl⟩ := mo_of h
  obtain ⟨s1, s2, s3, s4⟩ := mp_split w n
  obtain ⟨q1, q2, q3, q4, q5, q6⟩ := mp_q w
  have hr := mo_r (w := w) n
  rw [o_X4_isSpoiled, o_X1_isSpoiled, mo_size hn, mp_end4, mp_ex hn, mp_fr, mp_eo]
  have e1 : nI (n / bP w % bQ w) = nI (bQ w - 1) ↔ n / bP w % bQ w = bQ w - 1 := nI_eq (by omega) (by omega)
  have e2 := mp_l0 (m := n % bP w) (by omega)
  have hm : (bQ w - 1) * bP w + bP w = bQ w * bP w := by
    rw [Nat.sub_mul, Nat.one_mul]
    have : bP w ≤ bQ w * bP w := Nat.le_mul_of_pos_left _ (by omega)
    omega
  have e3 : lN (n % bB w) ≤ lN ((bQ w - 1) * bP w) ↔ n % bB w ≤ (bQ w - 1) * bP w := pk_lLE (by omega) (by omega)
  by_cases a : n / bP w % bQ w = bQ w - 1
  · rw [if_pos (e1.mpr a)]
    by_cases b : n % bP w = 0
    · rw [if_pos (e2.mpr b), if_pos (e3.mpr (by rw [s1, a, b]; exact Nat.le_refl _))]
    · rw [if_neg (fun z => b (e2.mp z)), if_neg (fun z => by
        have z2 := e3.mp z
        rw [s1, a] at z2
        omega)]
  · rw [if_neg (fun z => a (e1.mp z)), if_pos (e3.mpr (by
      have z4 : n / bP w % bQ w + 1 ≤ bQ w - 1 := by omega
      have z5 : (n / bP w % bQ w + 1) * bP w ≤ (bQ w - 1) * bP w := Nat.mul_le_mul_right _ z4
      rw [Nat.add_mul, Nat.one_mul] at z5
      omega))]
theorem mp_known (w : Bool) (p : Int32) : o_X4_known w p = o_X1_known w p := by
  rw [o_X4_known, o_X1_known, mo_sign]
  have e2 : jLshl ((wEo w).toInt64) (wFd w) = o_X4_endless w := by cases w <;> decide
  have e4 : jLshl 1 (wFd w) = jLshl 1 (mFr w) := by cases w <;> rfl
  rw [e2, e4, Int64.or_comm (o_X4_endless w)]
/-- the greatest and the least, by both -/
theorem mp_end {w : Bool} {f : Nat → Int64} (h : okF w f) (b : Bool) : ∀ (n i : Nat) (v : Int64), i + n = 8 → okN w v → L_mend w f b n i v = L_xend w f b n i v ∧ okN w (L_xend w f b n i v) := by
  intro n
  induction n with
  | zero => intro i v _ hv; exact ⟨rfl, hv⟩
  | succ n ih =>
    intro i v hi hv
    have hf := h i (by omega)
    rw [L_mend, L_xend, mo_order hf hv, mo_ord, o_X1_greater, o_X1_lesser, mo_ord]
    by_cases c : b = true
    · rw [if_pos c, if_pos c]
      by_cases d1 : (o_X1_standing w v).toInt < (o_X1_standing w (f i)).toInt
      · rw [if_neg (show ¬ (o_X1_standing w (f i)).toInt < (o_X1_standing w v).toInt by omega), if_pos d1, if_pos rfl, if_pos d1, if_neg (by decide)]
        exact ih _ _ (by omega) hf
      · by_cases d2 : (o_X1_standing w (f i)).toInt < (o_X1_standing w v).toInt
        · rw [if_pos d2, if_neg (by decide), if_neg d1, if_pos d2, if_pos (by decide)]
          exact ih _ _ (by omega) hv
        · rw [if_neg d2, if_neg d1, if_neg (by decide), if_neg d1, if_neg d2, if_pos (by decide)]
          exact ih _ _ (by omega) hv
    · rw [if_neg c, if_neg c]
      by_cases d1 : (o_X1_standing w v).toInt < (o_X1_standing w (f i)).toInt
      · rw [if_neg (show ¬ (o_X1_standing w (f i)).toInt < (o_X1_standing w v).toInt by omega), if_pos d1, if_neg (by decide), if_pos d1, if_pos (by decide)]
        exact ih _ _ (by omega) hv
      · by_cases d2 : (o_X1_standing w (f i)).toInt < (o_X1_standing w v).toInt
        · rw [if_pos d2, if_pos rfl, if_neg d1, if_pos d2, if_neg (by decide)]
          exact ih _ _ (by omega) hf
        · rw [if_neg d2, if_neg d1, if_neg (by decide), if_neg d1, if_neg d2, if_pos (by decide)]
          exact ih _ _ (by omega) hv
/-! QUARTERs: both sides count the same -/
noncomputable def bF (w : Bool) : Nat := if w then 52 else 23
noncomputable def bE (w : Bool) : Nat := if w then 1021 else 125
noncomputable def bH (w : Bool) : Nat := if w then 29 else 23
noncomputable def bD (w : Bool) : Nat := if w then 1000000000 else 16000000
noncomputable def qS (w : Bool) (n m : Nat) : Int32 := if n < bB w then nI m else -(nI m)
noncomputable def qN (w : Bool) (n : Nat) : Int32 :=
  if n % bB w = 0 then 0
  else if n / bP w % bQ w < bE w then -2147483648
  else if n / bP w % bQ w - bE w ≤ bH w then
    (if (bP w + n % bP w) % 2 ^ (bF w - (n / bP w % bQ w - bE w)) = 0 then
      (if (bP w + n % bP w) / 2 ^ (bF w - (n / bP w % bQ w - bE w)) ≤ bD w then qS w n ((bP w + n % bP w) / 2 ^ (bF w - (n / bP w % bQ w - bE w))) else -2147483648)
    else -2147483648)
  else -2147483648
theorem mq_k (w : Bool) : wEq w = nI (bE w) ∧ wFd w = nI (bF w) ∧ (wQb w).toInt64 = lN (bD w) ∧ mMo w = lN (bD w) ∧ bP w = 2 ^ bF w ∧ bF w ≤ 52 ∧ bE w ≤ 1021 ∧ bH w ≤ bF w ∧ bD w < 2 ^ (bH w + 1) ∧ bD w ≤ 1000000000 ∧ ((jLshl 1 ((mEx w) - 1)) - 3) + ((mFr w).toInt64) = lN (bE w + bF w) ∧ mFr w = nI (bF w) := by
  cases w <;> (refine ⟨?_, ?_, ?_, ?_, ?_, ?_, ?_, ?_, ?_, ?_, ?_, ?_⟩ <;> decide)
theorem mq_h (w : Bool) : o_X1_highestDigit ((wQb w).toInt64) = nI (bH w) := by cases w <;> decide +kernel
theorem mq_sign {w : Bool} {n : Nat} (h : n < 2 * bB w) : o_X1_hasSign w (lN n) = true ↔ ¬ n < bB w := by
  rw [o_X1_hasSign]
  by_cases c : n < bB w
  · rw [if_pos ((mo_sg h).mpr c)]
    exact ⟨fun z => absurd z (by decide), fun z => absurd c z⟩
  · rw [if_neg (fun z => c ((mo_sg h).mp z))]
    exact ⟨fun _ => c, fun _ => rfl⟩
theorem mq_neg32 (m : Nat) : (-(lN m)).toInt32 = -(nI m) := by
  rw [Int64.toInt32_neg, lN_i]
theorem mq_full (w : Bool) (n : Nat) : (jLshl 1 (wFd w)) ||| (o_X1_fraction w (lN n)) = lN (bP w + n % bP w) ∧ (jLshl 1 (mFr w)) + (o_X4_fraction w (lN n)) = lN (bP w + n % bP w) ∧ bP w + n % bP w < 2 * bP w := by
  have h := (mp_split w n).2.2.2
  refine ⟨?_, ?_, by omega⟩
  · rw [mp_fr]
    cases w
    · rw [show jLshl 1 (wFd false) = lN (2 ^ 23 * 1) by decide]
      exact fb_or_sumL 1 h
    · rw [show jLshl 1 (wFd true) = lN (2 ^ 52 * 1) by decide]
      exact fb_or_sumL 1 h
  · rw [mp_fr4, show jLshl 1 (mFr w) = lN (bP w) by cases w <;> decide]
    exact lN_add _ _
theorem mq_class {w : Bool} {n : Nat} (hn : n < 2 * bB w) : o_X1_quarters w (lN n) = qN w n := by
  obtain ⟨k1, k2, k3, k4, k5, k6, k7, k8, k9, k10, k11, k12⟩ := mq_k w
  obtain ⟨s1, s2, s3, s4⟩ := mp_split w n
  obtain ⟨q1, q2, q3, q4, q5, q6⟩ := mp_q w
  obtain ⟨f1, f2, f3⟩ := mq_full w n
  rw [o_X1_quarters, qN, mq_h, f1, mp_ex hn, k1, k2, k3]
  generalize he : n / bP w % bQ w = e at *
  generalize hm : bP w + n % bP w = m at *
  by_cases c0 : n % bB w = 0
  · rw [if_pos ((mo_zero hn).mpr c0), if_pos c0]
  · rw [if_neg (fun z => c0 ((mo_zero hn).mp z)), if_neg c0]
    have t : (nI e - nI (bE w)).toInt = (e : Int) - (bE w : Nat) := pk_sub_toInt (by omega) (by omega)
    by_cases c1 : e < bE w
    · rw [if_pos c1, if_pos (Int32.lt_iff_toInt_lt.mpr (by rw [t, show (0 : Int32).toInt = 0 by decide]; omega))]
    · rw [if_neg c1, if_neg (fun z => by
        have z2 := Int32.lt_iff_toInt_lt.mp z
        rw [t, show (0 : Int32).toInt = 0 by decide] at z2
        omega)]
      rw [pk_sub (show bE w ≤ e by omega)]
      by_cases c2 : e - bE w ≤ bH w
      · rw [if_pos c2, if_pos (nI_le c2 (by omega)), pk_sub (show e - bE w ≤ bF w by omega)]
        generalize hk : bF w - (e - bE w) = k at *
        have hm63 : m < 9223372036854775808 := by omega
        have hk64 : k < 64 := by omega
        rw [mp_shr hm63 hk64, mp_shl _ hk64]
        have d1 := Nat.div_add_mod m (2 ^ k)
        have d3 : m / 2 ^ k * 2 ^ k ≤ m := Nat.div_mul_le_self _ _
        have d4 : m / 2 ^ k ≤ m := Nat.div_le_self _ _
        by_cases c3 : m % 2 ^ k = 0
        · have e3 : m / 2 ^ k * 2 ^ k = m := by rw [Nat.mul_comm]; omega
          rw [if_pos c3, if_pos (by rw [e3])]
          by_cases c4 : m / 2 ^ k ≤ bD w
          · rw [if_pos c4, if_pos ((pk_lLE (by omega) (by omega)).mpr c4), qS]
            by_cases c5 : n < bB w
            · rw [if_pos c5, if_neg (fun z => ((mq_sign hn).mp z) c5), lN_i]
            · rw [if_neg c5, if_pos ((mq_sign hn).mpr c5), mq_neg32]
          · rw [if_neg c4, if_neg (fun z => c4 ((pk_lLE (by omega) (by omega)).mp z))]
        · rw [if_neg c3, if_neg (fun z => by
            have z2 := mo_inj (by omega) (by omega) z
            rw [Nat.mul_comm] at z2
            omega)]
      · rw [if_neg c2, if_neg (fun z => c2 (by
          have z2 := Int32.le_iff_toInt_le.mp z
          rw [nI_toInt (by omega), nI_toInt (by omega)] at z2
          omega))]
/-- what the count's loop ends with -/
noncomputable def qF (w : Bool) (n m : Nat) : Int32 := if m ≤ bD w then qS w n m else -2147483648
theorem mq_fin {w : Bool} {n m : Nat} (hn : n < 2 * bB w) (hm : m < 9223372036854775808) : (if lN m ≤ (mMo w) then (if (o_X4_isBelowZero w (lN n)) = true then ((-(lN m)).toInt32) else (lN m).toInt32) else (-2147483648)) = qF w n m := by
  obtain ⟨k1, k2, k3, k4, k5, k6, k7, k8, k9, k10, k11, k12⟩ := mq_k w
  rw [qF, k4]
  by_cases c4 : m ≤ bD w
  · rw [if_pos c4, if_pos ((pk_lLE (by omega) (by omega)).mpr c4), qS]
    by_cases c5 : n < bB w
    · rw [if_pos c5, if_neg (fun z => ((mo_neg hn).mp z) c5), lN_i]
    · rw [if_neg c5, if_pos ((mo_neg hn).mpr c5), mq_neg32]
  · rw [if_neg c4, if_neg (fun z => c4 ((pk_lLE (by omega) (by omega)).mp z))]
theorem mq_loop {w : Bool} {n : Nat} (hn : n < 2 * bB w) : ∀ (k N e m : Nat), k ≤ N → e + k = bE w + bF w → m < 9223372036854775808 → L_count w (lN n) N (lN m) (lN e) = if m % 2 ^ k = 0 then qF w n (m / 2 ^ k) else -2147483648 := by
  obtain ⟨k1, k2, k3, k4, k5, k6, k7, k8, k9, k10, k11, k12⟩ := mq_k w
  intro k
  induction k with
  | zero =>
    intro N e m _ he hm
    rw [Nat.pow_zero, Nat.mod_one, if_pos rfl, Nat.div_one]
    cases N with
    | zero => rw [L_count]; exact mq_fin hn hm
    | succ N =>
      rw [L_count, k11, if_pos (by rw [show bE w + bF w = e by omega]; exact Int64.le_refl _)]
      exact mq_fin hn hm
  | succ k ih =>
    intro N e m hN he hm
    cases N with
    | zero => omega
    | succ N =>
      rw [L_count, k11, if_neg (fun z => by
        have z2 := (pk_lLE (by omega) (by omega)).mp z
        omega)]
      rw [show (2 : Int64) = lN 2 from rfl, pk_lRem hm (by decide) (by decide), pk_lDiv hm (by decide) (by decide), lN_1]
      have p1 : m % 2 ^ (k + 1) = m % 2 + 2 * (m / 2 % 2 ^ k) := by rw [Nat.pow_succ, Nat.mul_comm, Nat.mod_mul]
      have p2 : m / 2 ^ (k + 1) = m / 2 / 2 ^ k := by rw [Nat.pow_succ, Nat.mul_comm, Nat.div_div_eq_div_mul]
      by_cases c : m % 2 = 0
      · rw [if_pos ((mp_l0 (by omega)).mpr c), ih N (e + 1) (m / 2) (by omega) (by omega) (by omega), p2]
        by_cases d : m / 2 % 2 ^ k = 0
        · rw [if_pos d, if_pos (by omega)]
        · rw [if_neg d, if_neg (by omega)]
      · rw [if_neg (fun z => c ((mp_l0 (by omega)).mp z)), if_neg (by omega)]
theorem mq_model {w : Bool} {n : Nat} (hn : n < 2 * bB w) : o_X4_count w (lN n) = qN w n := by
  obtain ⟨k1, k2, k3, k4, k5, k6, k7, k8, k9, k10, k11, k12⟩ := mq_k w
  obtain ⟨s1, s2, s3, s4⟩ := mp_split w n
  obtain ⟨q1, q2, q3, q4, q5, q6⟩ := mp_q w
  obtain ⟨f1, f2, f3⟩ := mq_full w n
  have hr := mo_r (w := w) n
  have hw : bE w + bH w < bQ w - 1 ∧ bE w + bF w < bQ w := by cases w <;> decide
  rw [o_X4_count, qN, mo_size hn, mp_ex4 hn, s2, f2, k11]
  by_cases c0 : n % bB w = 0
  · rw [if_pos ((mp_l0 (by omega)).mpr c0), if_pos c0]
  · rw [if_neg (fun z => c0 ((mp_l0 (by omega)).mp z)), if_neg c0]
    have hend : o_X4_isEndless w (lN n) = true → n / bP w % bQ w = bQ w - 1 := by
      intro z
      by_cases a : n / bP w % bQ w = bQ w - 1
      · exact a
      · rw [o_X4_isEndless, mo_size hn, mp_end4] at z
        by_cases b : lN (n % bB w) = lN ((bQ w - 1) * bP w)
        · have hb : (bQ w - 1) * bP w < 18446744073709551616 := by
            have : (bQ w - 1) * bP w ≤ bQ w * bP w := Nat.mul_le_mul_right _ (by omega)
            omega
          have z2 := mo_inj (by omega) hb b
          have z3 : (bQ w - 1) * bP w / bP w = bQ w - 1 := Nat.mul_div_cancel _ (by omega)
          rw [← z2, s2] at z3
          exact z3
        · rw [if_neg b] at z
          exact absurd z (by decide)
    generalize he : n / bP w % bQ w = e at *
    have hf3 := f3
    have hE0 : 0 < bE w := by cases w <;> decide
    generalize hm : bP w + n % bP w = m at *
    have hpm : bP w ≤ m := by omega
    by_cases c1 : e = 0
    · rw [if_pos ((mp_l0 (by omega)).mpr c1), if_pos (show e < bE w by omega)]
    · rw [if_neg (fun z => c1 ((mp_l0 (by omega)).mp z))]
      by_cases c2 : o_X4_isEndless w (lN n) = true
      · have := hend c2
        rw [if_pos c2, if_neg (show ¬ e < bE w by omega), if_neg (show ¬ e - bE w ≤ bH w by omega)]
      · rw [if_neg c2]
        by_cases c3 : e ≤ bE w + bF w
        · rw [if_pos ((pk_lLE (by omega) (by omega)).mpr c3), mq_loop hn (bE w + bF w - e) 1100 e m (by omega) (by omega) (by omega)]
          by_cases c4 : e < bE w
          · rw [if_pos c4]
            have hk : 2 * bP w ≤ 2 ^ (bE w + bF w - e) := by
              rw [k5, Nat.mul_comm, ← Nat.pow_succ]
              exact Nat.pow_le_pow_right (by decide) (by omega)
            rw [if_neg (by rw [Nat.mod_eq_of_lt (by omega)]; omega)]
          · rw [if_neg c4]
            have hke : bE w + bF w - e = bF w - (e - bE w) := by omega
            rw [hke]
            by_cases c5 : e - bE w ≤ bH w
            · rw [if_pos c5]
              rfl
            · rw [if_neg c5]
              have hp : bP w = 2 ^ (e - bE w) * 2 ^ (bF w - (e - bE w)) := by
                rw [k5, ← Nat.pow_add]
                congr 1
                omega
              have hge : 2 ^ (e - bE w) ≤ m / 2 ^ (bF w - (e - bE w)) := by
                rw [Nat.le_div_iff_mul_le (Nat.pow_pos (by decide)), ← hp]
                exact hpm
              have h2 : 2 ^ (bH w + 1) ≤ 2 ^ (e - bE w) := Nat.pow_le_pow_right (by decide) (by omega)
              rw [qF, if_neg (show ¬ m / 2 ^ (bF w - (e - bE w)) ≤ bD w by omega)]
              split <;> rfl
        · rw [if_neg (fun z => c3 ((pk_lLE (by omega) (by omega)).mp z)), if_neg (show ¬ e < bE w by omega), if_neg (show ¬ e - bE w ≤ bH w by omega)]
/-- QUARTERs, by both -/
theorem mq_count {w : Bool} {d : Int64} (h : okN w d) : o_X4_count w d = o_X1_quarters w d := by
  obtain ⟨n, hn, rfl⟩ := mo_of h
  rw [mq_class hn, mq_model hn]
/-! the digits of QUARTERs: both sides make the same -/
theorem mr_hd {m : Nat} (hm : m < 4294967296) : ∀ (n i h : Nat), i + n = 32 → h < i → 2 ^ h ≤ m → (∀ j, h < j → j < i → m < 2 ^ j) → ∃ h', L_hd (lN m) n i (nI h) = nI h' ∧ h' < 32 ∧ 2 ^ h' ≤ m ∧ ∀ j, h' < j → j < 32 → m < 2 ^ j := by
  intro n
  induction n with
  | zero =>
    intro i h hi hh h1 h2
    exact ⟨h, rfl, by omega, h1, fun j a b => h2 j a (by omega)⟩
  | succ n ih =>
    intro i h hi hh h1 h2
    rw [L_hd, mp_shr (by omega) (by omega)]
    have hp : 0 < 2 ^ i := Nat.pow_pos (by decide)
    by_cases c : m < 2 ^ i
    · rw [if_pos (by rw [Nat.div_eq_of_lt c]; rfl)]
      refine ih (i + 1) h (by omega) (by omega) h1 (fun j a b => ?_)
      by_cases d : j = i
      · rw [d]; exact c
      · exact h2 j a (by omega)
    · have hq : 0 < m / 2 ^ i := Nat.div_pos (by omega) hp
      have hq2 : m / 2 ^ i ≤ m := Nat.div_le_self _ _
      rw [if_neg (fun z => by have := (mp_l0 (by omega)).mp z; omega)]
      exact ih (i + 1) i (by omega) (by omega) (by omega) (fun j a b => by omega)
theorem mr_high {m : Nat} (h0 : 0 < m) (hm : m < 4294967296) : ∃ h, o_X1_highestDigit (lN m) = nI h ∧ 2 ^ h ≤ m ∧ m < 2 ^ (h + 1) := by
  obtain ⟨h, e, h1, h2, h3⟩ := mr_hd hm 31 1 0 rfl (by decide) (by rw [Nat.pow_zero]; omega) (fun j a b => by omega)
  refine ⟨h, ?_, h2, ?_⟩
  · rw [o_X1_highestDigit]
    exact e
  · by_cases c : h + 1 < 32
    · exact h3 (h + 1) (by omega) c
    · have : h = 31 := by omega
      rw [this]
      exact hm
/-- the digits of m quarters whose highest digit stands at h -/
noncomputable def rV (w : Bool) (m h : Nat) : Nat := bP w * (bE w + h) + (m * 2 ^ (bF w - h) - bP w)
theorem mr_span {w : Bool} {m h : Nat} (hh : h ≤ bF w) (h1 : 2 ^ h ≤ m) (h2 : m < 2 ^ (h + 1)) : bP w ≤ m * 2 ^ (bF w - h) ∧ m * 2 ^ (bF w - h) < 2 * bP w := by
  obtain ⟨k1, k2, k3, k4, k5, k6, k7, k8, k9, k10, k11, k12⟩ := mq_k w
  have e1 : 2 ^ h * 2 ^ (bF w - h) = bP w := by rw [k5, ← Nat.pow_add]; congr 1; omega
  have e2 : 2 ^ (h + 1) * 2 ^ (bF w - h) = 2 * bP w := by rw [Nat.pow_succ, Nat.mul_comm (2 ^ h) 2, Nat.mul_assoc, e1]
  have hp : 0 < 2 ^ (bF w - h) := Nat.pow_pos (by decide)
  exact ⟨by rw [← e1]; exact Nat.mul_le_mul_right _ h1, by rw [← e2]; exact Nat.mul_lt_mul_of_pos_right h2 hp⟩
theorem mr_V {w : Bool} {m h : Nat} (hh : h ≤ bF w) (hb : bE w + h < bQ w - 1) (h1 : 2 ^ h ≤ m) (h2 : m < 2 ^ (h + 1)) : rV w m h < bB w ∧ rV w m h / bP w = bE w + h ∧ 0 < rV w m h := by
  obtain ⟨s1, s2⟩ := mr_span (w := w) hh h1 h2
  obtain ⟨q1, q2, q3, q4, q5, q6⟩ := mp_q w
  have hE0 : 0 < bE w := by cases w <;> decide
  have e : rV w m h / bP w = bE w + h := by
    rw [rV, Nat.mul_add_div q3, Nat.div_eq_of_lt (by omega)]
    rfl
  refine ⟨?_, e, ?_⟩
  · rw [rV, ← q5]
    have : bP w * (bE w + h) + bP w ≤ bP w * bQ w := by
      rw [← Nat.mul_succ]
      exact Nat.mul_le_mul_left _ (by omega)
    rw [Nat.mul_comm (bQ w)]
    omega
  · rw [rV]
    have : 0 < bP w * (bE w + h) := Nat.mul_pos q3 (by omega)
    omega
theorem mr_class {w : Bool} {m h : Nat} (hd : o_X1_highestDigit (lN m) = nI h) (hm : m < 4294967296) (hh : h ≤ bF w) (h1 : 2 ^ h ≤ m) (h2 : m < 2 ^ (h + 1)) : (jLshl (((wEq w) + (o_X1_highestDigit (lN m))).toInt64) (wFd w)) ||| ((jLshl (lN m) ((wFd w) - (o_X1_highestDigit (lN m)))) &&& (wFo w)) = lN (rV w m h) := by
  obtain ⟨k1, k2, k3, k4, k5, k6, k7, k8, k9, k10, k11, k12⟩ := mq_k w
  obtain ⟨s1, s2⟩ := mr_span (w := w) hh h1 h2
  rw [hd, k1, k2, nI_add, nI_l (by omega), mp_shl _ (by omega), pk_sub hh, mp_shl _ (by omega)]
  have e : lN (m * 2 ^ (bF w - h)) &&& wFo w = lN (m * 2 ^ (bF w - h) - bP w) := by
    have e1 : lN (m * 2 ^ (bF w - h)) &&& wFo w = lN (m * 2 ^ (bF w - h) % bP w) := by
      cases w
      · exact fb_maskL _ 23
      · exact fb_maskL _ 52
    rw [e1, Nat.mod_eq_sub_mod s1, Nat.mod_eq_of_lt (by omega)]
  rw [e, Nat.mul_comm, fb_or_sumL _ (by rw [← k5]; omega), rV, k5]
theorem mr_loop (w : Bool) (p : Int64) : ∀ (k N m x : Nat), k ≤ N → k ≤ x → x < 4294967296 → bP w ≤ m * 2 ^ k → m * 2 ^ k < 2 * bP w → L_made w p N (lN m) (lN x) = if 0 ≤ p then (((jLshl (lN (x - k)) (mFr w)) + (lN (m * 2 ^ k) - (jLshl 1 (mFr w)))) ||| 0) else (((jLshl (lN (x - k)) (mFr w)) + (lN (m * 2 ^ k) - (jLshl 1 (mFr w)))) ||| (o_X4_sign w)) := by
  have e1 : jLshl 1 (mFr w) = lN (bP w) := by cases w <;> decide
  obtain ⟨q1, q2, q3, q4, q5, q6⟩ := mp_q w
  intro k
  induction k with
  | zero =>
    intro N m x _ _ hx h1 h2
    rw [Nat.pow_zero, Nat.mul_one] at h1 h2 ⊢
    rw [Nat.sub_zero]
    cases N with
    | zero => rw [L_made]
    | succ N => rw [L_made, if_pos (by rw [e1]; exact (pk_lLE (by omega) (by omega)).mpr h1)]
  | succ k ih =>
    intro N m x hN hk hx h1 h2
    have hp : 0 < 2 ^ k := Nat.pow_pos (by decide)
    rw [Nat.pow_succ] at h1 h2
    have h3 : m * 2 ^ k < bP w := by rw [← Nat.mul_assoc] at h2; omega
    have h4 : m ≤ m * 2 ^ k := Nat.le_mul_of_pos_right _ hp
    cases N with
    | zero => omega
    | succ N =>
      rw [L_made, if_neg (fun z => by
        rw [e1] at z
        have := (pk_lLE (by omega) (by omega)).mp z
        omega)]
      have e2 : m * 2 * 2 ^ k = m * 2 ^ (k + 1) := by rw [Nat.pow_succ, Nat.mul_assoc, Nat.mul_comm 2]
      rw [show (2 : Int64) = lN 2 from rfl, lN_mul, show (1 : Int64) = lN 1 from rfl, lN_sub (show 1 ≤ x by omega)]
      rw [show (lN 1 : Int64) = 1 from rfl]
      rw [ih N (m * 2) (x - 1) (by omega) (by omega) (by omega) (by rw [e2, Nat.pow_succ]; exact h1) (by rw [e2, Nat.pow_succ]; exact h2), e2, show x - 1 - k = x - (k + 1) by omega]
theorem mr_model {w : Bool} {p : Int64} {m h : Nat} (hh : h ≤ bF w) (h1 : 2 ^ h ≤ m) (h2 : m < 2 ^ (h + 1)) (hb : bE w + h < bQ w - 1) : L_made w p 53 (lN m) (((jLshl 1 ((mEx w) - 1)) - 3) + ((mFr w).toInt64)) = if 0 ≤ p then lN (rV w m h) else lN (bB w + rV w m h) := by
  obtain ⟨k1, k2, k3, k4, k5, k6, k7, k8, k9, k10, k11, k12⟩ := mq_k w
  obtain ⟨s1, s2⟩ := mr_span (w := w) hh h1 h2
  obtain ⟨v1, v2, v3⟩ := mr_V hh hb h1 h2
  have e1 : jLshl 1 (mFr w) = lN (bP w) := by cases w <;> decide
  have e2 : jLshl (lN (bE w + bF w - (bF w - h))) (mFr w) + (lN (m * 2 ^ (bF w - h)) - jLshl 1 (mFr w)) = lN (rV w m h) := by
    rw [e1, k12, mp_shl _ (by omega), lN_sub s1, lN_add, rV, show bE w + bF w - (bF w - h) = bE w + h by omega, Nat.mul_comm (bE w + h), k5]
  rw [k11, mr_loop w p (bF w - h) 53 m (bE w + bF w) (by omega) (by omega) (by omega) s1 s2, e2]
  by_cases c : 0 ≤ p
  · rw [if_pos c, if_pos c, show (0 : Int64) = lN 0 from rfl, fb_orL, Nat.or_zero]
  · rw [if_neg c, if_neg c, mo_sign, mo_sg0, Int64.or_comm]
    cases w
    · exact fb_or_sumL (k := 31) 1 v1
    · exact fb_or_sumL (k := 63) 1 v1
theorem mr_i64 {q : Int32} {m : Nat} (h : q.toInt = (m : Int)) : q.toInt64 = lN m := by
  apply Int64.toInt_inj.mp
  have := q.toInt_lt
  rw [Int32.toInt_toInt64, mo_toInt (by omega), h]
theorem mr_i64n {q : Int32} {m : Nat} (h : q.toInt = -(m : Int)) : -q.toInt64 = lN m := by
  apply Int64.toInt_inj.mp
  have := q.le_toInt
  rw [Int64.toInt_neg, Int32.toInt_toInt64, mo_toInt (by omega), h]
  rw [Int.bmod_eq_of_le (by omega) (by omega)]
  omega
theorem mr_i64le (q : Int32) : 0 ≤ q.toInt64 ↔ 0 ≤ q := by
  rw [Int64.le_iff_toInt_le, Int32.le_iff_toInt_le, Int32.toInt_toInt64]
  rfl
/-- a QUARTER's digits, by both; they are well -/
theorem mr_made {w : Bool} {q : Int32} (h1 : -(bD w : Int) ≤ q.toInt) (h2 : q.toInt ≤ bD w) : o_X4_made w q.toInt64 = o_X1_ofQuarters w q ∧ ∃ n, n < 2 * bB w ∧ o_X1_ofQuarters w q = lN n ∧ n / bP w % bQ w < bQ w - 1 := by
  obtain ⟨k1, k2, k3, k4, k5, k6, k7, k8, k9, k10, k11, k12⟩ := mq_k w
  obtain ⟨q1, q2, q3, q4, q5, q6⟩ := mp_q w
  have hw : bE w + bH w < bQ w - 1 := by cases w <;> decide
  have z0 : q = 0 ↔ q.toInt = 0 := by
    constructor
    · rintro rfl; decide
    · intro z; exact Int32.toInt_inj.mp (by rw [z]; decide)
  have z1 : q.toInt64 = 0 ↔ q = 0 := by
    rw [z0]
    constructor
    · intro z
      have := congrArg Int64.toInt z
      rw [Int32.toInt_toInt64] at this
      exact this
    · intro z; exact Int64.toInt_inj.mp (by rw [Int32.toInt_toInt64, z]; decide)
  rw [o_X4_made, o_X1_ofQuarters]
  by_cases c : q = 0
  · rw [if_pos (z1.mpr c), if_pos c]
    refine ⟨rfl, 0, by have := mo_bpos w; omega, rfl, ?_⟩
    rw [Nat.zero_div, Nat.zero_mod]
    omega
  · rw [if_neg (fun z => c (z1.mp z)), if_neg c]
    have hne : q.toInt ≠ 0 := fun z => c (z0.mpr z)
    have key : ∀ m : Nat, 0 < m → m ≤ bD w → ∃ h, o_X1_highestDigit (lN m) = nI h ∧ 2 ^ h ≤ m ∧ m < 2 ^ (h + 1) ∧ h ≤ bF w ∧ bE w + h < bQ w - 1 := by
      intro m a b
      obtain ⟨h, e, e1, e2⟩ := mr_high a (by omega)
      have : h ≤ bH w := by
        by_cases d : h ≤ bH w
        · exact d
        · have : 2 ^ (bH w + 1) ≤ 2 ^ h := Nat.pow_le_pow_right (by decide) (by omega)
          omega
      exact ⟨h, e, e1, e2, by omega, by omega⟩
    by_cases s : 0 ≤ q
    · have s2 : 0 ≤ q.toInt := by have := Int32.le_iff_toInt_le.mp s; exact this
      obtain ⟨m, hm⟩ : ∃ m : Nat, q.toInt = (m : Int) := ⟨q.toInt.toNat, by omega⟩
      obtain ⟨h, e, e1, e2, e3, e4⟩ := key m (by omega) (by omega)
      obtain ⟨v1, v2, v3⟩ := mr_V e3 e4 e1 e2
      rw [if_pos ((mr_i64le q).mpr s), if_pos s, mr_i64 hm, mr_model e3 e1 e2 e4, mr_class e (by omega) e3 e1 e2, if_pos (by rw [← mr_i64 hm]; exact (mr_i64le q).mpr s)]
      exact ⟨rfl, rV w m h, by omega, rfl, by rw [v2, Nat.mod_eq_of_lt (by omega)]; exact e4⟩
    · have s2 : ¬ 0 ≤ q.toInt := fun z => s (Int32.le_iff_toInt_le.mpr z)
      obtain ⟨m, hm⟩ : ∃ m : Nat, q.toInt = -(m : Int) := ⟨(-q.toInt).toNat, by omega⟩
      obtain ⟨h, e, e1, e2, e3, e4⟩ := key m (by omega) (by omega)
      obtain ⟨v1, v2, v3⟩ := mr_V e3 e4 e1 e2
      rw [if_neg (fun z => s ((mr_i64le q).mp z)), if_neg s, mr_i64n hm, mr_model e3 e1 e2 e4, mr_class e (by omega) e3 e1 e2, if_neg (fun z => s ((mr_i64le q).mp z))]
      have eo : wSg w ||| lN (rV w m h) = lN (bB w + rV w m h) := by
        rw [mo_sg0]
        cases w
        · exact fb_or_sumL (k := 31) 1 v1
        · exact fb_or_sumL (k := 63) 1 v1
      rw [eo]
      refine ⟨rfl, bB w + rV w m h, by omega, rfl, ?_⟩
      have e5 : (bB w + rV w m h) / bP w = bQ w + rV w m h / bP w := by
        rw [← q5, Nat.mul_comm (bQ w), Nat.mul_add_div q3]
      rw [e5, v2, Nat.add_mod_left, Nat.mod_eq_of_lt (by omega)]
      exact e4
/-! sums, and looking for, by both sides -/
noncomputable def okV (w : Bool) (d : Int64) : Prop := okN w d ∧ o_X1_isSpoiled w d = false
theorem ms_rng {w : Bool} {d : Int64} (h : okN w d) (hq : o_X1_isQuarter w d = true) : -(bD w : Int) ≤ (o_X1_quarters w d).toInt ∧ (o_X1_quarters w d).toInt ≤ bD w := by
  obtain ⟨n, hn, rfl⟩ := mo_of h
  obtain ⟨k1, k2, k3, k4, k5, k6, k7, k8, k9, k10, k11, k12⟩ := mq_k w
  have hne : ¬ o_X1_quarters w (lN n) = -2147483648 := by
    intro z
    rw [o_X1_isQuarter, if_pos z] at hq
    exact absurd hq (by decide)
  rw [mq_class hn] at hne ⊢
  have key : ∀ m : Nat, m ≤ bD w → -(bD w : Int) ≤ (qS w n m).toInt ∧ (qS w n m).toInt ≤ bD w := by
    intro m hm
    rw [qS]
    by_cases c : n < bB w
    · rw [if_pos c, nI_toInt (by omega)]
      omega
    · rw [if_neg c, sb_negT (by omega)]
      omega
  rw [qN] at hne ⊢
  by_cases c0 : n % bB w = 0
  · rw [if_pos c0]
    have : (0 : Int32).toInt = 0 := by decide
    omega
  · rw [if_neg c0] at hne ⊢
    by_cases c1 : n / bP w % bQ w < bE w
    · rw [if_pos c1] at hne; exact absurd rfl hne
    · rw [if_neg c1] at hne ⊢
      by_cases c2 : n / bP w % bQ w - bE w ≤ bH w
      · rw [if_pos c2] at hne ⊢
        by_cases c3 : (bP w + n % bP w) % 2 ^ (bF w - (n / bP w % bQ w - bE w)) = 0
        · rw [if_pos c3] at hne ⊢
          by_cases c4 : (bP w + n % bP w) / 2 ^ (bF w - (n / bP w % bQ w - bE w)) ≤ bD w
          · rw [if_pos c4]
            exact key _ c4
          · rw [if_neg c4] at hne; exact absurd rfl hne
        · rw [if_neg c3] at hne; exact absurd rfl hne
      · rw [if_neg c2] at hne; exact absurd rfl hne
theorem ms_noq {w : Bool} {d : Int64} (h : okN w d) (he : o_X1_isEndless w d = true) : ¬ o_X1_isQuarter w d = true := by
  obtain ⟨n, hn, rfl⟩ := mo_of h
  obtain ⟨s1, s2, s3, s4⟩ := mp_split w n
  obtain ⟨q1, q2, q3, q4, q5, q6⟩ := mp_q w
  have hw : bE w + bH w < bQ w - 1 ∧ 0 < bE w := by cases w <;> decide
  have e1 : n / bP w % bQ w = bQ w - 1 := by
    rw [o_X1_isEndless, mp_ex hn, mp_eo] at he
    by_cases a : nI (n / bP w % bQ w) = nI (bQ w - 1)
    · exact (nI_eq (by omega) (by omega)).mp a
    · rw [if_neg a] at he; exact absurd he (by decide)
  intro z
  rw [o_X1_isQuarter, mq_class hn, qN, e1] at z
  have hz : ¬ n % bB w = 0 := by
    intro q
    rw [q, e1] at s1
    have : 0 < (bQ w - 1) * bP w := Nat.mul_pos (by omega) q3
    omega
  rw [if_neg hz, if_neg (show ¬ bQ w - 1 < bE w by omega), if_neg (show ¬ bQ w - 1 - bE w ≤ bH w by omega), if_pos rfl] at z
  exact absurd z (by decide)
theorem ms_isq {w : Bool} {d : Int64} (h : okN w d) : o_X4_isQuarter w d = o_X1_isQuarter w d := by
  rw [o_X4_isQuarter, o_X1_isQuarter, mq_count h]
theorem ms_have {w : Bool} {a b : Int64} (ha : okN w a) (hb : okN w b) : o_X4_haveSum w a b = o_X1_haveSum w a b := by
  have e1 : (-(wQb w)).toInt64 = -(mMo w) := by cases w <;> decide
  have e2 : (wQb w).toInt64 = mMo w := by cases w <;> decide
  rw [o_X4_haveSum, o_X1_haveSum, mp_endless ha, mp_endless hb, ms_isq ha, ms_isq hb, mq_count ha, mq_count hb, e1, e2]
  by_cases c1 : o_X1_isEndless w a = true
  · rw [if_pos c1, if_pos c1]
    by_cases c2 : o_X1_isEndless w b = true
    · rw [if_pos c2, if_neg (ms_noq hb c2)]
    · rw [if_neg c2]
      by_cases c3 : a = b
      · rw [c3] at c1; exact absurd c1 c2
      · rw [if_neg c3]
        by_cases c4 : o_X1_isQuarter w b = true
        · rw [if_pos c4, c4]
        · rw [if_neg c4]
          exact Bool.eq_false_iff.mpr c4
  · rw [if_neg c1, if_neg c1]
    by_cases c2 : o_X1_isEndless w b = true
    · rw [if_pos c2, if_pos c2]
    · rw [if_neg c2, if_neg c2]
      by_cases c3 : o_X1_isQuarter w a = true
      · rw [if_pos c3, if_pos c3]
        by_cases c4 : o_X1_isQuarter w b = true
        · rw [if_pos c4, if_pos c4]
          by_cases d1 : mMo w < (o_X1_quarters w a).toInt64 + (o_X1_quarters w b).toInt64
          · rw [if_pos d1]
            by_cases d2 : (o_X1_quarters w a).toInt64 + (o_X1_quarters w b).toInt64 < -mMo w
            · rw [if_pos d2]
            · rw [if_neg d2, if_pos d1]
          · rw [if_neg d1]
            by_cases d2 : (o_X1_quarters w a).toInt64 + (o_X1_quarters w b).toInt64 < -mMo w
            · rw [if_pos d2, if_pos d2]
            · rw [if_neg d2, if_neg d2, if_neg d1]
        · rw [if_neg c4, if_neg c4]
      · rw [if_neg c3, if_neg c3]
theorem ms_okq {w : Bool} {q : Int32} (h1 : -(bD w : Int) ≤ q.toInt) (h2 : q.toInt ≤ bD w) : okV w (o_X1_ofQuarters w q) := by
  obtain ⟨n, hn, e, hx⟩ := (mr_made h1 h2).2
  obtain ⟨q1, q2, q3, q4, q5, q6⟩ := mp_q w
  rw [e]
  refine ⟨?_, ?_⟩
  · intro hw
    subst hw
    have h3 : n < 4294967296 := hn
    rw [mo_toInt (by omega)]
    omega
  · rw [o_X1_isSpoiled, mp_ex hn, mp_eo, if_neg (fun z => by
      have := (nI_eq (by omega) (by omega)).mp z
      omega)]
theorem ms_sum {w : Bool} {a b : Int64} (ha : okV w a) (hb : okV w b) (h : o_X1_haveSum w a b = true) : o_X4_sum w a b = o_X1_sum w a b ∧ okV w (o_X1_sum w a b) := by
  rw [o_X4_sum, o_X1_sum, mp_endless ha.1, mp_endless hb.1, mq_count ha.1, mq_count hb.1, mo_sign]
  by_cases c1 : o_X1_isEndless w a = true
  · rw [if_pos c1, if_pos c1]
    exact ⟨rfl, ha⟩
  · rw [if_neg c1, if_neg c1]
    by_cases c2 : o_X1_isEndless w b = true
    · rw [if_pos c2, if_pos c2]
      exact ⟨rfl, hb⟩
    · rw [if_neg c2, if_neg c2]
      have key : o_X4_made w ((o_X1_quarters w a).toInt64 + (o_X1_quarters w b).toInt64) = o_X1_ofQuarters w (o_X1_quarters w a + o_X1_quarters w b) ∧ okV w (o_X1_ofQuarters w (o_X1_quarters w a + o_X1_quarters w b)) := by
        obtain ⟨k1, k2, k3, k4, k5, k6, k7, k8, k9, k10, k11, k12⟩ := mq_k w
        rw [o_X1_haveSum, if_neg c1, if_neg c2] at h
        by_cases c3 : o_X1_isQuarter w a = true
        · rw [if_pos c3] at h
          by_cases c4 : o_X1_isQuarter w b = true
          · rw [if_pos c4] at h
            obtain ⟨a1, a2⟩ := ms_rng ha.1 c3
            obtain ⟨b1, b2⟩ := ms_rng hb.1 c4
            have e1 : (o_X1_quarters w a + o_X1_quarters w b).toInt = (o_X1_quarters w a).toInt + (o_X1_quarters w b).toInt := by
              rw [Int32.toInt_add]
              exact Int.bmod_eq_of_le (by omega) (by omega)
            have e2 : (o_X1_quarters w a).toInt64 + (o_X1_quarters w b).toInt64 = (o_X1_quarters w a + o_X1_quarters w b).toInt64 := by
              apply Int64.toInt_inj.mp
              rw [Int64.toInt_add, Int32.toInt_toInt64, Int32.toInt_toInt64, Int32.toInt_toInt64, e1]
              exact Int.bmod_eq_of_le (by omega) (by omega)
            have e3 : ((-(wQb w)).toInt64).toInt = -(bD w : Int) := by cases w <;> decide
            have e4 : ((wQb w).toInt64).toInt = (bD w : Int) := by cases w <;> decide
            have e5 : ((o_X1_quarters w a).toInt64 + (o_X1_quarters w b).toInt64).toInt = (o_X1_quarters w a).toInt + (o_X1_quarters w b).toInt := by rw [e2, Int32.toInt_toInt64, e1]
            by_cases d1 : (o_X1_quarters w a).toInt64 + (o_X1_quarters w b).toInt64 < (-(wQb w)).toInt64
            · rw [if_pos d1] at h; exact absurd h (by decide)
            · rw [if_neg d1] at h
              by_cases d2 : (wQb w).toInt64 < (o_X1_quarters w a).toInt64 + (o_X1_quarters w b).toInt64
              · rw [if_pos d2] at h; exact absurd h (by decide)
              · rw [Int64.lt_iff_toInt_lt, e3, e5] at d1
                rw [Int64.lt_iff_toInt_lt, e4, e5] at d2
                have r1 : -(bD w : Int) ≤ (o_X1_quarters w a + o_X1_quarters w b).toInt := by rw [e1]; omega
                have r2 : (o_X1_quarters w a + o_X1_quarters w b).toInt ≤ bD w := by rw [e1]; omega
                rw [e2]
                exact ⟨(mr_made r1 r2).1, ms_okq r1 r2⟩
          · rw [if_neg c4] at h; exact absurd h (by decide)
        · rw [if_neg c3] at h; exact absurd h (by decide)
      by_cases c3 : a = wSg w
      · rw [if_pos c3, if_pos c3]
        by_cases c4 : b = wSg w
        · rw [if_pos c4, if_pos c4]
          exact ⟨c3, by rw [← c3]; exact ha⟩
        · rw [if_neg c4, if_neg c4]
          exact key
      · rw [if_neg c3, if_neg c3]
        exact key
theorem ms_known (w : Bool) (p : Int32) : okV w (o_X1_known w p) := by
  have h : ∀ d : Int64, d ∈ [0, wSg w, jLshl ((wEo w).toInt64) (wFd w), (wSg w) ||| (jLshl ((wEo w).toInt64) (wFd w)), (jLshl ((wEo w).toInt64) (wFd w)) - 1, 1, jLshl 1 (wFd w)] → (w = false → 0 ≤ d.toInt ∧ d.toInt < 4294967296) ∧ o_X1_isSpoiled w d = false := by
    cases w
    · decide
    · decide
  have g : o_X1_known w p ∈ [0, wSg w, jLshl ((wEo w).toInt64) (wFd w), (wSg w) ||| (jLshl ((wEo w).toInt64) (wFd w)), (jLshl ((wEo w).toInt64) (wFd w)) - 1, 1, jLshl 1 (wFd w)] := by
    rw [o_X1_known]
    repeat' split
    all_goals simp
  exact h _ g
/-- the first and the last like cell -/
theorem ms_first {f : Nat → Int64} {k : Nat} (hk : k < 8) : ∀ (n i : Nat) (v u : Int32), i + n = 8 → ((u = -1 ∧ v = nI k ∧ i ≤ k ∧ ∀ j, j < i → f j ≠ f k) ∨ (∃ j, j < i ∧ u = nI j ∧ v = nI j)) → L_xfind f (nI k) false n i v = L_mfind f (f k) false n i u := by
  intro n
  induction n with
  | zero =>
    intro i v u hi h
    rcases h with ⟨_, _, h3, _⟩ | ⟨j, _, h2, h3⟩
    · omega
    · rw [L_xfind, L_mfind, h2, h3]
  | succ n ih =>
    intro i v u hi h
    have hc : (nI k).toNatClampNeg = k := nI_clamp (by omega)
    rw [L_xfind, L_mfind, hc, if_neg (show ¬ false = true by decide), if_neg (show ¬ false = true by decide)]
    rcases h with ⟨h1, h2, h3, h4⟩ | ⟨j, h1, h2, h3⟩
    · subst h1 h2
      rw [if_neg (show ¬ (0 : Int32) ≤ -1 by decide)]
      by_cases c : f i = f k
      · rw [if_pos c]
        by_cases d : k ≤ i
        · have e : i = k := by omega
          rw [if_pos (nI_le d (by omega)), if_pos c]
          exact ih (i + 1) (nI k) (nI i) (by omega) (Or.inr ⟨k, by omega, by rw [e], rfl⟩)
        · rw [if_neg (nI_ge (by omega) (by omega)), if_pos c]
          exact ih _ _ _ (by omega) (Or.inr ⟨i, by omega, rfl, rfl⟩)
      · rw [if_neg c]
        have hne : i ≠ k := fun z => c (by rw [z])
        rw [if_neg (nI_ge (by omega) (by omega)), if_neg c]
        refine ih _ _ _ (by omega) (Or.inl ⟨rfl, rfl, by omega, fun j hj => ?_⟩)
        by_cases d : j = i
        · rw [d]; exact c
        · exact h4 j (by omega)
    · subst h2 h3
      rw [if_pos (nI_le (by omega) (by omega)), if_pos (nI_pos' (by omega))]
      have g := ih (i + 1) (nI j) (nI j) (by omega) (Or.inr ⟨j, by omega, rfl, rfl⟩)
      by_cases c : f i = f k
      · rw [if_pos c]; exact g
      · rw [if_neg c]; exact g
theorem ms_last {f : Nat → Int64} {k : Nat} (hk : k < 8) : ∀ (n i : Nat) (v u : Int32), i + n = 8 → ((i ≤ k ∧ v = nI k) ∨ (k < i ∧ v = u ∧ ∃ j, j < i ∧ v = nI j)) → L_xfind f (nI k) true n i v = L_mfind f (f k) true n i u := by
  intro n
  induction n with
  | zero =>
    intro i v u hi h
    rcases h with ⟨h1, _⟩ | ⟨_, h2, _⟩
    · omega
    · rw [L_xfind, L_mfind, h2]
  | succ n ih =>
    intro i v u hi h
    have hc : (nI k).toNatClampNeg = k := nI_clamp (by omega)
    rw [L_xfind, L_mfind, hc, if_pos rfl, if_pos rfl]
    rcases h with ⟨h1, h2⟩ | ⟨h1, h2, j, h3, h4⟩
    · subst h2
      rw [if_pos (nI_le h1 (by omega))]
      by_cases c : f i = f k
      · rw [if_pos c]
        by_cases d : i = k
        · subst d
          exact ih _ _ _ (by omega) (Or.inr ⟨by omega, rfl, i, by omega, rfl⟩)
        · exact ih _ _ _ (by omega) (Or.inl ⟨by omega, rfl⟩)
      · rw [if_neg c]
        have hne : i ≠ k := fun z => c (by rw [z])
        exact ih _ _ _ (by omega) (Or.inl ⟨by omega, rfl⟩)
    · subst h2
      rw [h4, if_neg (nI_ge (by omega) (by omega))]
      by_cases c : f i = f k
      · rw [if_pos c, if_pos c]
        exact ih _ _ _ (by omega) (Or.inr ⟨by omega, rfl, i, by omega, rfl⟩)
      · rw [if_neg c, if_neg c]
        exact ih _ _ _ (by omega) (Or.inr ⟨by omega, rfl, j, by omega, rfl⟩)
theorem ms_find {f : Nat → Int64} {p : Int32} (h : vp_in p 8) (b : Bool) : L_xfind f p b 8 0 p = o_X4_find f (f p.toNatClampNeg) b := by
  obtain ⟨e, hk⟩ := xm_nI h
  rw [o_X4_find]
  generalize p.toNatClampNeg = k at *
  subst e
  cases b
  · exact ms_first hk 8 0 _ _ rfl (Or.inl ⟨rfl, rfl, by omega, fun j hj => by omega⟩)
  · exact ms_last hk 8 0 _ _ rfl (Or.inl ⟨by omega, rfl⟩)
/-- is there a known one -/
theorem ms_hasX {w : Bool} {f : Nat → Int64} {p : Int32} : ∀ (n i : Nat), i + n = 8 → ((L_xhas w f p n i).2 = true ↔ ∃ j, i ≤ j ∧ j < 8 ∧ f j = o_X1_known w p) := by
  intro n
  induction n with
  | zero =>
    intro i hi
    rw [L_xhas]
    exact ⟨fun z => absurd z (by decide), fun ⟨j, a, b, _⟩ => by omega⟩
  | succ n ih =>
    intro i hi
    rw [L_xhas]
    by_cases c : f i = o_X1_known w p
    · rw [if_pos c]
      exact ⟨fun _ => ⟨i, by omega, by omega, c⟩, fun _ => rfl⟩
    · rw [if_neg c, ih (i + 1) (by omega)]
      constructor
      · rintro ⟨j, a, b, d⟩
        exact ⟨j, by omega, b, d⟩
      · rintro ⟨j, a, b, d⟩
        refine ⟨j, ?_, b, d⟩
        by_cases z : j = i
        · rw [z] at d; exact absurd d c
        · omega
theorem ms_hasM {f : Nat → Int64} {x : Int64} : ∀ (n i : Nat) (u : Int32), i + n = 8 → (u = -1 ∨ ∃ j, j < 8 ∧ u = nI j) → (0 ≤ L_mfind f x false n i u ↔ u ≠ -1 ∨ ∃ j, i ≤ j ∧ j < 8 ∧ f j = x) := by
  intro n
  induction n with
  | zero =>
    intro i u hi h
    rw [L_mfind]
    rcases h with h | ⟨j, h1, h2⟩
    · rw [h]
      exact ⟨fun z => absurd z (by decide), fun z => by rcases z with z | ⟨j, a, b, _⟩; exact absurd rfl z; omega⟩
    · rw [h2]
      refine ⟨fun _ => Or.inl (fun z => ?_), fun _ => nI_pos' (by omega)⟩
      have := congrArg Int32.toInt z
      rw [nI_toInt (by omega), show (-1 : Int32).toInt = -1 by decide] at this
      omega
  | succ n ih =>
    intro i u hi h
    rw [L_mfind, if_neg (show ¬ false = true by decide)]
    have step : ∀ u2 : Int32, (u2 ≠ -1 ∨ ∃ j, i + 1 ≤ j ∧ j < 8 ∧ f j = x) → ¬ f i = x → (u2 ≠ -1 ∨ ∃ j, i ≤ j ∧ j < 8 ∧ f j = x) := by
      intro u2 z _
      rcases z with z | ⟨j, a, b, d⟩
      · exact Or.inl z
      · exact Or.inr ⟨j, by omega, b, d⟩
    by_cases c : f i = x
    · rw [if_pos c]
      rcases h with h | ⟨j, h1, h2⟩
      · rw [h, if_neg (show ¬ (0 : Int32) ≤ -1 by decide), ih (i + 1) (nI i) (by omega) (Or.inr ⟨i, by omega, rfl⟩)]
        refine ⟨fun _ => Or.inr ⟨i, by omega, by omega, c⟩, fun _ => Or.inl (fun z => ?_)⟩
        have := congrArg Int32.toInt z
        rw [nI_toInt (by omega), show (-1 : Int32).toInt = -1 by decide] at this
        omega
      · rw [h2, if_pos (nI_pos' (by omega)), ih (i + 1) (nI j) (by omega) (Or.inr ⟨j, h1, rfl⟩)]
        have hne : nI j ≠ -1 := fun z => by
          have := congrArg Int32.toInt z
          rw [nI_toInt (by omega), show (-1 : Int32).toInt = -1 by decide] at this
          omega
        exact ⟨fun _ => Or.inl hne, fun _ => Or.inl hne⟩
    · rw [if_neg c, ih (i + 1) u (by omega) h]
      constructor
      · exact fun z => step u z c
      · intro z
        rcases z with z | ⟨j, a, b, d⟩
        · exact Or.inl z
        · refine Or.inr ⟨j, ?_, b, d⟩
          by_cases e : j = i
          · rw [e] at d; exact absurd d c
          · omega
theorem ms_has {w : Bool} {f : Nat → Int64} {p : Int32} : (L_xhas w f p 8 0).2 = true ↔ 0 ≤ o_X4_find f (o_X4_known w p) false := by
  rw [o_X4_find, mp_known, ms_hasX 8 0 rfl, ms_hasM 8 0 (-1) rfl (Or.inl rfl)]
  exact ⟨fun z => Or.inr z, fun z => z.resolve_left (fun q => q rfl)⟩
/-! rows of kit/laws/COUNTS.to-paste (starting texts: how many places have a property), then both sorts end alike -/
noncomputable def fb_ct (p : Nat → Bool) : Nat → Nat
  | 0 => 0
  | n + 1 => fb_ct p n + (if p n then 1 else 0)
theorem fb_ct_succ (p : Nat → Bool) (n : Nat) : fb_ct p (n + 1) = fb_ct p n + (if p n then 1 else 0) := rfl
theorem fb_ct_le (p : Nat → Bool) : ∀ n, fb_ct p n ≤ n
  | 0 => Nat.le_refl _
  | n + 1 => by
    have h := fb_ct_le p n
    rw [fb_ct_succ]
    split <;> omega
theorem fb_ct_step (p : Nat → Bool) (m : Nat) : ∀ n, fb_ct p m ≤ fb_ct p (m + n)
  | 0 => Nat.le_refl _
  | n + 1 => by
    have h := fb_ct_step p m n
    show fb_ct p m ≤ fb_ct p (m + n + 1)
    rw [fb_ct_succ]
    omega
theorem fb_ct_mono (p : Nat → Bool) {m n : Nat} (h : m ≤ n) : fb_ct p m ≤ fb_ct p n := by
  have := fb_ct_step p m (n - m)
  rwa [Nat.add_sub_cancel' h] at this
theorem fb_ct_cong {p q : Nat → Bool} : ∀ {n : Nat}, (∀ k, k < n → p k = q k) → fb_ct p n = fb_ct q n
  | 0, _ => rfl
  | n + 1, h => by
    rw [fb_ct_succ, fb_ct_succ, fb_ct_cong (fun k hk => h k (by omega)), h n (by omega)]
/-- one place changed -/
theorem fb_ct_out (p : Nat → Bool) (b : Bool) {i n : Nat} (h : n ≤ i) : fb_ct (fun k => if k = i then b else p k) n = fb_ct p n :=
  fb_ct_cong fun k hk => if_neg (by omega)
theorem fb_ct_upd (p : Nat → Bool) (b : Bool) {i : Nat} : ∀ {n : Nat}, i < n → fb_ct (fun k => if k = i then b else p k) n + (if p i then 1 else 0) = fb_ct p n + (if b then 1 else 0)
  | 0, h => absurd h (Nat.not_lt_zero i)
  | n + 1, h => by
    rw [fb_ct_succ, fb_ct_succ]
    rcases Nat.lt_or_ge i n with q | q
    · have := fb_ct_upd p b q
      have e : (if n = i then b else p n) = p n := if_neg (by omega)
      rw [e]
      omega
    · have e : i = n := by omega
      subst e
      rw [fb_ct_out p b (Nat.le_refl _)]
      simp only [if_true]
      omega
theorem fb_ct_sub {p q : Nat → Bool} : ∀ {n : Nat}, (∀ k, k < n → p k = true → q k = true) → fb_ct p n ≤ fb_ct q n
  | 0, _ => Nat.le_refl _
  | n + 1, h => by
    have h1 := fb_ct_sub (n := n) (p := p) (q := q) (fun k hk => h k (by omega))
    have h2 := h n (by omega)
    rw [fb_ct_succ, fb_ct_succ]
    cases hp : p n <;> cases hq : q n <;> simp_all <;> omega
theorem fb_ct_or {p q : Nat → Bool} : ∀ {n : Nat}, (∀ k, k < n → ¬ (p k = true ∧ q k = true)) → fb_ct (fun k => p k || q k) n = fb_ct p n + fb_ct q n
  | 0, _ => rfl
  | n + 1, h => by
    have h1 := fb_ct_or (n := n) (p := p) (q := q) (fun k hk => h k (by omega))
    have h2 := h n (by omega)
    rw [fb_ct_succ, fb_ct_succ, fb_ct_succ, h1]
    cases hp : p n <;> cases hq : q n <;> simp_all <;> omega
theorem fb_ct_not (p : Nat → Bool) : ∀ n, fb_ct p n + fb_ct (fun k => !p k) n = n
  | 0 => rfl
  | n + 1 => by
    have h := fb_ct_not p n
    rw [fb_ct_succ, fb_ct_succ]
    cases p n <;> simp <;> omega
theorem fb_ct_split (p : Nat → Bool) (m : Nat) : ∀ n, fb_ct p (m + n) = fb_ct p m + fb_ct (fun k => p (m + k)) n
  | 0 => rfl
  | n + 1 => by
    have h := fb_ct_split p m n
    show fb_ct p (m + n + 1) = _
    rw [fb_ct_succ, fb_ct_succ, h, Nat.add_assoc]
theorem fb_ct_zero {p : Nat → Bool} : ∀ {n : Nat}, fb_ct p n = 0 ↔ ∀ k, k < n → p k = false
  | 0 => ⟨fun _ k hk => absurd hk (Nat.not_lt_zero k), fun _ => rfl⟩
  | n + 1 => by
    have h := fb_ct_zero (p := p) (n := n)
    rw [fb_ct_succ]
    constructor
    · intro e k hk
      have e1 : fb_ct p n = 0 := by omega
      rcases Nat.lt_or_ge k n with q | q
      · exact h.mp e1 k q
      · have ek : k = n := by omega
        subst ek
        cases hp : p k
        · rfl
        · simp [hp] at e
    · intro a
      rw [h.mpr (fun k hk => a k (by omega)), a n (by omega)]
      rfl
theorem fb_ct_pos {p : Nat → Bool} {n : Nat} : 0 < fb_ct p n ↔ ∃ k, k < n ∧ p k = true := by
  constructor
  · intro h
    refine Classical.byContradiction fun hx => ?_
    have := fb_ct_zero.mpr (fun k hk => by
      cases hp : p k
      · rfl
      · exact absurd ⟨k, hk, hp⟩ hx : ∀ k, k < n → p k = false)
    omega
  · rintro ⟨k, hk, hp⟩
    rcases Nat.eq_zero_or_pos (fb_ct p n) with e | e
    · have := fb_ct_zero.mp e k hk
      rw [this] at hp
      cases hp
    · exact e
theorem fb_ct_all {p : Nat → Bool} {n : Nat} : fb_ct p n = n ↔ ∀ k, k < n → p k = true := by
  have h := fb_ct_not p n
  constructor
  · intro e k hk
    have z : fb_ct (fun k => !p k) n = 0 := by omega
    have := fb_ct_zero.mp z k hk
    cases hp : p k
    · simp [hp] at this
    · rfl
  · intro a
    have z : fb_ct (fun k => !p k) n = 0 := fb_ct_zero.mpr (fun k hk => by simp [a k hk])
    omega
noncomputable def mK (w : Bool) (d : Int64) : Int := (o_X1_standing w d).toInt
noncomputable def mPm (f g : Nat → Int64) : Prop := (∀ p : Int64 → Bool, fb_ct (fun k => p (f k)) 8 = fb_ct (fun k => p (g k)) 8) ∧ ∀ k, 8 ≤ k → f k = g k
theorem mw_refl (f : Nat → Int64) : mPm f f := ⟨fun _ => rfl, fun _ _ => rfl⟩
theorem mw_trans {f g h : Nat → Int64} (a : mPm f g) (b : mPm g h) : mPm f h := ⟨fun p => (a.1 p).trans (b.1 p), fun k hk => (a.2 k hk).trans (b.2 k hk)⟩
theorem mw_symm {f g : Nat → Int64} (a : mPm f g) : mPm g f := ⟨fun p => (a.1 p).symm, fun k hk => (a.2 k hk).symm⟩
theorem mw_at (f : Nat → Int64) (i : Nat) (v : Int64) : vp_updL f i v i = v := if_pos rfl
theorem mw_ne {f : Nat → Int64} {i k : Nat} {v : Int64} (h : k ≠ i) : vp_updL f i v k = f k := if_neg h
theorem mw_upd (p : Int64 → Bool) (f : Nat → Int64) (v : Int64) {i : Nat} (hi : i < 8) : fb_ct (fun k => p (vp_updL f i v k)) 8 + (if p (f i) then 1 else 0) = fb_ct (fun k => p (f k)) 8 + (if p v then 1 else 0) := by
  rw [← fb_ct_upd (fun k => p (f k)) (p v) hi]
  rw [fb_ct_cong (p := fun k => p (vp_updL f i v k)) (q := fun k => if k = i then p v else p (f k)) (fun k _ => by
    by_cases c : k = i
    · rw [c, mw_at, if_pos rfl]
    · rw [mw_ne c, if_neg c])]
theorem mw_swap (f : Nat → Int64) {i j : Nat} (hi : i < 8) (hj : j < 8) (hij : j ≠ i) : mPm (vp_updL (vp_updL f i (f j)) j (f i)) f := by
  refine ⟨fun p => ?_, fun k hk => ?_⟩
  · have a := mw_upd p (vp_updL f i (f j)) (f i) hj
    have b := mw_upd p f (f j) hi
    rw [mw_ne hij] at a
    omega
  · rw [mw_ne (by omega), mw_ne (by omega)]
theorem mw_shift (f : Nat → Int64) (x : Int64) {m : Nat} (hm : m + 1 < 8) : mPm (vp_updL (vp_updL f (m + 1) (f m)) m x) (vp_updL f (m + 1) x) := by
  refine ⟨fun p => ?_, fun k hk => ?_⟩
  · have a := mw_upd p (vp_updL f (m + 1) (f m)) x (i := m) (by omega)
    have b := mw_upd p f (f m) hm
    have c := mw_upd p f x hm
    rw [mw_ne (by omega)] at a
    omega
  · rw [mw_ne (by omega), mw_ne (by omega), mw_ne (by omega)]
theorem mw_all {f g : Nat → Int64} (h : mPm f g) (P : Int64 → Prop) (hg : ∀ k, k < 8 → P (g k)) : ∀ k, k < 8 → P (f k) := by
  intro k hk
  have a := h.1 (fun d => @decide (P d) (Classical.propDecidable _))
  have e : fb_ct (fun k => @decide (P (g k)) (Classical.propDecidable _)) 8 = 8 := fb_ct_all.mpr (fun k hk => by simp only [decide_eq_true_eq]; exact hg k hk)
  have := fb_ct_all.mp (a.trans e) k hk
  simpa only [decide_eq_true_eq] using this
theorem mw_ok {w : Bool} {f g : Nat → Int64} (h : mPm f g) (hg : okF w g) : okF w f := mw_all h (okN w) hg
noncomputable def mSo (w : Bool) (n : Nat) (f : Nat → Int64) : Prop := ∀ i j, i < j → j < n → mK w (f i) ≤ mK w (f j)
theorem mw_key {w : Bool} {f g : Nat → Int64} (hf : mSo w 8 f) (hg : mSo w 8 g) (h : mPm f g) {k : Nat} (hk : k < 8) : mK w (g k) ≤ mK w (f k) := by
  refine Classical.byContradiction fun hx => ?_
  have a := h.1 (fun d => decide (mK w d ≤ mK w (f k)))
  have b : k + 1 ≤ fb_ct (fun i => decide (mK w (f i) ≤ mK w (f k))) 8 := by
    have b1 := fb_ct_mono (fun i => decide (mK w (f i) ≤ mK w (f k))) (show k + 1 ≤ 8 by omega)
    rw [fb_ct_all.mpr (fun i hi => by
      simp only [decide_eq_true_eq]
      by_cases c : i = k
      · rw [c]; exact Int.le_refl _
      · exact hf i k (by omega) hk)] at b1
    exact b1
  have c : fb_ct (fun i => decide (mK w (g i) ≤ mK w (f k))) 8 ≤ k := by
    have c1 := fb_ct_split (fun i => decide (mK w (g i) ≤ mK w (f k))) k (8 - k)
    rw [Nat.add_sub_cancel' (show k ≤ 8 by omega)] at c1
    have c2 : fb_ct (fun i => decide (mK w (g (k + i)) ≤ mK w (f k))) (8 - k) = 0 := fb_ct_zero.mpr (fun i hi => by
      simp only [decide_eq_false_iff_not]
      intro z
      by_cases d : i = 0
      · rw [d] at z; exact hx z
      · have := hg k (k + i) (by omega) (by omega)
        omega)
    rw [c1, c2]
    exact fb_ct_le _ _
  omega
theorem mw_uniq {w : Bool} {f g : Nat → Int64} (hf : mSo w 8 f) (hg : mSo w 8 g) (h : mPm f g) (ok : okF w g) : f = g := by
  funext k
  rcases Nat.lt_or_ge k 8 with c | c
  · have a := mw_key hf hg h c
    have b := mw_key hg hf (mw_symm h) c
    exact mo_st_inj (mw_ok h ok k c) (ok k c) (Int.le_antisymm b a)
  · exact h.2 k c
theorem mw_le (w : Bool) (x y : Int64) : o_X1_order w x y ≤ 0 ↔ mK w x ≤ mK w y := by
  rw [mo_ord, mK, mK]
  by_cases c : (o_X1_standing w x).toInt < (o_X1_standing w y).toInt
  · rw [if_pos c]
    exact ⟨fun _ => by omega, fun _ => by decide⟩
  · rw [if_neg c]
    by_cases d : (o_X1_standing w y).toInt < (o_X1_standing w x).toInt
    · rw [if_pos d]
      exact ⟨fun z => absurd z (by decide), fun z => by omega⟩
    · rw [if_neg d]
      exact ⟨fun _ => by omega, fun _ => by decide⟩
theorem mw_ge (w : Bool) (x y : Int64) : 0 ≤ o_X1_order w x y ↔ mK w y ≤ mK w x := by
  rw [mo_ord, mK, mK]
  by_cases c : (o_X1_standing w x).toInt < (o_X1_standing w y).toInt
  · rw [if_pos c]
    exact ⟨fun z => absurd z (by decide), fun z => by omega⟩
  · rw [if_neg c]
    by_cases d : (o_X1_standing w y).toInt < (o_X1_standing w x).toInt
    · rw [if_pos d]
      exact ⟨fun _ => by omega, fun _ => by decide⟩
    · rw [if_neg d]
      exact ⟨fun _ => by omega, fun _ => by decide⟩
/-- one is put in -/
theorem mw_ins {w : Bool} {f : Nat → Int64} {p : Int32} {k : Nat} (hk : k < 8) : ∀ (m : Nat) (f9 : Nat → Int64), m ≤ k → (∀ i j, i < j → j ≤ k → i ≠ m → j ≠ m → mK w (f9 i) ≤ mK w (f9 j)) → (∀ j, m < j → j ≤ k → mK w (f p.toNatClampNeg) < mK w (f9 j)) → mPm (vp_updL f9 m (f p.toNatClampNeg)) f → mPm (L_ins w f p m (nI m) f9) f ∧ mSo w (k + 1) (L_ins w f p m (nI m) f9) := by
  intro m
  induction m with
  | zero =>
    intro f9 hm h1 h2 h3
    rw [L_ins, nI_clamp (by omega)]
    refine ⟨h3, fun i j hij hj => ?_⟩
    rw [mw_ne (show j ≠ 0 by omega)]
    by_cases c : i = 0
    · rw [c, mw_at]
      have := h2 j (by omega) (by omega)
      omega
    · rw [mw_ne c]
      exact h1 i j hij (by omega) c (by omega)
  | succ m ih =>
    intro f9 hm h1 h2 h3
    have e1 : nI (m + 1) - 1 = nI m := by rw [← nI_1, Int32.add_sub_cancel]
    have e2 : nI (m + 1) + (-1) = nI m := by rw [← e1, Int32.sub_eq_add_neg]
    rw [L_ins, if_neg (nI_nle (by omega) (by omega)), e1, e2, nI_clamp (show m + 1 < 2 ^ 31 by omega), nI_clamp (show m < 2 ^ 31 by omega)]
    by_cases c : o_X1_order w (f9 m) (f p.toNatClampNeg) ≤ 0
    · rw [if_pos c]
      have c := (mw_le _ _ _).mp c
      refine ⟨h3, fun i j hij hj => ?_⟩
      by_cases a : j = m + 1
      · rw [a, mw_at, mw_ne (show i ≠ m + 1 by omega)]
        by_cases b : i = m
        · rw [b]; exact c
        · have := h1 i m (by omega) (by omega) (by omega) (by omega)
          omega
      · rw [mw_ne a]
        by_cases b : i = m + 1
        · rw [b, mw_at]
          have := h2 j (by omega) (by omega)
          omega
        · rw [mw_ne b]
          exact h1 i j hij (by omega) b a
    · rw [if_neg c]
      have c : mK w (f p.toNatClampNeg) < mK w (f9 m) := by
        exact Int.not_le.mp (fun z => c ((mw_le _ _ _).mpr z))
      refine ih _ (by omega) (fun i j hij hj hi' hj' => ?_) (fun j hj hj' => ?_) (mw_trans (mw_shift f9 _ (by omega)) h3)
      · by_cases a : j = m + 1
        · rw [a, mw_at, mw_ne (show i ≠ m + 1 by omega)]
          exact h1 i m (by omega) (by omega) (by omega) (by omega)
        · rw [mw_ne a]
          by_cases b : i = m + 1
          · rw [b, mw_at]
            exact h1 m j (by omega) hj (by omega) a
          · rw [mw_ne b]
            exact h1 i j hij hj b a
      · by_cases a : j = m + 1
        · rw [a, mw_at]; exact c
        · rw [mw_ne a]
          exact h2 j (by omega) hj'
theorem mw_xsa {w : Bool} {f : Nat → Int64} : ∀ (n i : Nat) (f8 : Nat → Int64), i + n = 8 → mSo w i f8 → mPm f8 f → mPm (L_xsa w n i f8) f ∧ mSo w 8 (L_xsa w n i f8) := by
  intro n
  induction n with
  | zero =>
    intro i f8 hi h1 h2
    rw [L_xsa]
    have e : i = 8 := by omega
    rw [e] at h1
    exact ⟨h2, h1⟩
  | succ n ih =>
    intro i f8 hi h1 h2
    rw [L_xsa, o_X0_insert]
    have e : (nI i).toNatClampNeg = i := nI_clamp (by omega)
    have g := mw_ins (w := w) (f := f8) (p := nI i) (k := i) (by omega) i f8 (Nat.le_refl _) (fun a b hab hb ha' hb' => h1 a b hab (by omega)) (fun j hj hj' => by omega) (by
      rw [e]
      have : vp_updL f8 i (f8 i) = f8 := by
        funext k
        by_cases c : k = i
        · rw [c, mw_at]
        · rw [mw_ne c]
      rw [this]
      exact mw_refl _)
    rw [e]
    exact ih (i + 1) _ (by omega) g.2 (mw_trans g.1 h2)
/-- exchanging -/
theorem mw_msn {w : Bool} {f : Nat → Int64} (ok : okF w f) {k : Nat} (hk : k < 8) : ∀ (n j : Nat) (f9 : Nat → Int64), j + n = 8 → k < j → (∀ a b, a < k → a < b → b < 8 → mK w (f9 a) ≤ mK w (f9 b)) → (∀ b, k < b → b < j → mK w (f9 k) ≤ mK w (f9 b)) → mPm f9 f → mPm (L_msn w k n j f9) f ∧ ∀ a b, a < k + 1 → a < b → b < 8 → mK w (L_msn w k n j f9 a) ≤ mK w (L_msn w k n j f9 b) := by
  intro n
  induction n with
  | zero =>
    intro j f9 hj hkj h1 h2 h3
    rw [L_msn]
    refine ⟨h3, fun a b ha hab hb => ?_⟩
    by_cases c : a = k
    · rw [c]; exact h2 b (by omega) (by omega)
    · exact h1 a b (by omega) hab hb
  | succ n ih =>
    intro j f9 hj hkj h1 h2 h3
    have o9 := mw_ok h3 ok
    rw [L_msn, mo_order (o9 j (by omega)) (o9 k hk)]
    by_cases c : 0 ≤ o_X1_order w (f9 j) (f9 k)
    · rw [if_pos c]
      have c := (mw_ge _ _ _).mp c
      refine ih (j + 1) f9 (by omega) (by omega) h1 (fun b hb hb' => ?_) h3
      by_cases d : b = j
      · rw [d]; exact c
      · exact h2 b hb (by omega)
    · rw [if_neg c]
      have c : mK w (f9 j) < mK w (f9 k) := by
        exact Int.not_le.mp (fun z => c ((mw_ge _ _ _).mpr z))
      have ek : vp_updL (vp_updL f9 k (f9 j)) j (f9 k) k = f9 j := by rw [mw_ne (show k ≠ j by omega), mw_at]
      have ej : vp_updL (vp_updL f9 k (f9 j)) j (f9 k) j = f9 k := mw_at _ _ _
      have eo : ∀ a, a ≠ k → a ≠ j → vp_updL (vp_updL f9 k (f9 j)) j (f9 k) a = f9 a := fun a x y => by rw [mw_ne y, mw_ne x]
      refine ih (j + 1) _ (by omega) (by omega) (fun a b ha hab hb => ?_) (fun b hb hb' => ?_) (mw_trans (mw_swap f9 hk (by omega) (by omega)) h3)
      · rw [eo a (by omega) (by omega)]
        by_cases d : b = k
        · rw [d, ek]; exact h1 a j ha (by omega) (by omega)
        · by_cases d' : b = j
          · rw [d', ej]; exact h1 a k ha (by omega) (by omega)
          · rw [eo b d d']; exact h1 a b ha hab hb
      · rw [ek]
        by_cases d : b = j
        · rw [d, ej]; omega
        · rw [eo b (by omega) d]
          have := h2 b hb (by omega)
          omega
theorem mw_msk {w : Bool} {f : Nat → Int64} (ok : okF w f) : ∀ (n k : Nat) (f8 : Nat → Int64), k + n = 8 → (∀ a b, a < k → a < b → b < 8 → mK w (f8 a) ≤ mK w (f8 b)) → mPm f8 f → mPm (L_msk w n k f8) f ∧ mSo w 8 (L_msk w n k f8) := by
  intro n
  induction n with
  | zero =>
    intro k f8 hk h1 h2
    rw [L_msk]
    exact ⟨h2, fun a b hab hb => h1 a b (by omega) hab hb⟩
  | succ n ih =>
    intro k f8 hk h1 h2
    rw [L_msk]
    have g := mw_msn ok (show k < 8 by omega) (8 - (k + 1)) (k + 1) f8 (by omega) (by omega) h1 (fun b hb hb' => by omega) h2
    exact ih (k + 1) _ (by omega) g.2 g.1
theorem mw_sorts {w : Bool} {f : Nat → Int64} (ok : okF w f) : L_xsa w 7 1 f = L_msk w 8 0 f ∧ mPm (L_msk w 8 0 f) f := by
  have a := mw_xsa (w := w) (f := f) 7 1 f rfl (fun i j hij hj => by omega) (mw_refl f)
  have b := mw_msk ok 8 0 f rfl (fun a b ha => by omega) (mw_refl f)
  exact ⟨mw_uniq a.2 b.2 (mw_trans a.1 (mw_symm b.1)) (mw_ok b.1 ok), b.1⟩
theorem mw_msa {f : Nat → Int64} : ∀ (n i : Nat) (g : Nat → Int64), i + n = 8 → ∀ k, L_msa f n i g k = if i ≤ k ∧ k < 8 then f k else g k := by
  intro n
  induction n with
  | zero =>
    intro i g hi k
    rw [L_msa, if_neg (by omega)]
  | succ n ih =>
    intro i g hi k
    rw [L_msa, ih (i + 1) _ (by omega)]
    by_cases c : k = i
    · rw [if_neg (by omega), if_pos (by omega), c, mw_at]
    · rw [mw_ne c]
      by_cases d : i ≤ k ∧ k < 8
      · rw [if_pos d, if_pos (by omega)]
      · rw [if_neg d, if_neg (by omega)]
theorem mw_cnt {w : Bool} {f g : Nat → Int64} (ok : okF w f) : ∀ (n i : Nat) (v : Int32), i + n = 8 → L_xsb w f g n i v = L_msc w f n i v := by
  intro n
  induction n with
  | zero => intro i v hi; rw [L_xsb, L_msc]
  | succ n ih =>
    intro i v hi
    rw [L_xsb, L_msc, (mw_sorts ok).1, mw_msa 8 0 _ rfl i, if_pos (show 0 ≤ i ∧ i < 8 by omega), va_cpy, if_pos (show 0 ≤ i ∧ i < 0 + 8 by omega), Nat.sub_zero, Nat.zero_add, Int32.add_zero, ih (i + 1) _ (by omega), ih (i + 1) _ (by omega)]
/-- the whole of sorting -/
theorem mw_sort {w : Bool} {f g : Nat → Int64} (ok : ∀ k, k < 8 → okV w (f k)) : L_xsb w f g 8 0 0 = L_msc w f 8 0 0 ∧ L_xsa w 7 1 f = L_msk w 8 0 f ∧ ∀ k, k < 8 → okV w (L_msk w 8 0 f k) :=
  ⟨mw_cnt (fun k hk => (ok k hk).1) 8 0 0 rfl, (mw_sorts (fun k hk => (ok k hk).1)).1, mw_all (mw_sorts (fun k hk => (ok k hk).1)).2 (okV w) ok⟩
/-! one row's methods answer as the model's: answer, code, cells; cells stay well -/
noncomputable def okA (w : Bool) (f : Nat → Int64) : Prop := ∀ k, k < 8 → okV w (f k)
theorem me_okF {w : Bool} {f : Nat → Int64} (h : okA w f) : okF w f := fun k hk => (h k hk).1
theorem me_at {w : Bool} {f : Nat → Int64} (h : okA w f) {p : Int32} (hp : vp_in p 8) : okV w (f p.toNatClampNeg) := h _ (xm_lt hp)
theorem me_upd {w : Bool} {f : Nat → Int64} {x : Int64} (h : okA w f) (hx : okV w x) (i : Nat) : okA w (vp_updL f i x) := by
  intro k hk
  by_cases c : k = i
  · rw [c, mw_at]; exact hx
  · rw [mw_ne c]; exact h k hk
theorem me_place {w : Bool} {f : Nat → Int64} {x : Int64} (a : Int32) (p : Int32) (h : okA w f) (hx : okV w x) : okA w (o_X0_place a f p x).2.2 := by
  rw [o_X0_place]
  split <;> exact me_upd h hx _
theorem me_come (a : Int32) (f : Nat → Int64) (p : Int32) (x : Int64) : o_X4_come a f p x = o_X0_place a f p x := rfl
theorem me_f1 (b : Bool) : o_X5_fails true b = (true, 1) := rfl
theorem me_f2 : o_X5_fails false true = (true, 2) := rfl
theorem me_f3 : o_X5_fails false false = (false, 0) := rfl
theorem me_cell (p : Int32) : (o_X2_checkCell p = 0 ∧ o_X5_isNo p = false ∧ vp_in p 8) ∨ (o_X2_checkCell p = 1 ∧ o_X5_isNo p = true) := by
  by_cases c : o_X5_isNo p = true
  · refine Or.inr ⟨?_, c⟩
    rw [o_X5_isNo, o_X5_isIn] at c
    rw [o_X2_checkCell]
    by_cases d : p < 0
    · rw [if_pos d]
    · rw [if_neg d]
      by_cases e : p < 8
      · have h7 : ¬ 7 < p := fun z => by
          have z := Int32.lt_iff_toInt_lt.mp z
          have e := Int32.lt_iff_toInt_lt.mp e
          rw [show (7 : Int32).toInt = 7 by decide] at z
          rw [show (8 : Int32).toInt = 8 by decide] at e
          omega
        rw [if_neg d, if_neg h7, if_pos rfl] at c
        exact absurd c (by decide)
      · rw [if_neg e]
  · have hi := xm_isNo c
    exact Or.inl ⟨xm_cc0 hi, Bool.eq_false_iff.mpr c, hi⟩
theorem me_choice (p n : Int32) : (o_X2_checkChoice p n = 0 ∧ o_X5_isIn p 0 n = true) ∨ (o_X2_checkChoice p n = 2 ∧ o_X5_isIn p 0 n = false) := by
  rw [o_X2_checkChoice, o_X5_isIn]
  by_cases d : p < 0
  · rw [if_pos d, if_pos d]; exact Or.inr ⟨rfl, rfl⟩
  · rw [if_neg d, if_neg d]
    by_cases e : p ≤ n
    · rw [if_pos e, if_neg (fun z => by
        have z := Int32.lt_iff_toInt_lt.mp z
        have e := Int32.le_iff_toInt_le.mp e
        omega)]
      exact Or.inl ⟨rfl, rfl⟩
    · have e2 : ¬ p.toInt ≤ n.toInt := fun z => e (Int32.le_iff_toInt_le.mpr z)
      rw [if_neg e, if_pos (Int32.lt_iff_toInt_lt.mpr (by omega))]
      exact Or.inr ⟨rfl, rfl⟩
theorem me_areNo (p q : Int32) : o_X5_areNo p q = (o_X5_isNo p || o_X5_isNo q) := by
  rw [o_X5_areNo]
  cases o_X5_isNo p <;> cases o_X5_isNo q <;> rfl
theorem me_10 : ¬ (1 : Int32) = 0 := by decide
theorem me_20 : ¬ (2 : Int32) = 0 := by decide
theorem me_ft : ¬ (false = true) := by decide
theorem me_rf (r r' : Int32) : r + r' + 1 = r + 1 + r' := by rw [Int32.add_assoc, Int32.add_comm r' 1, ← Int32.add_assoc]
theorem me_put {w : Bool} (a r r' : Int32) (f : Nat → Int64) (p : Int32) {x : Int64} (hx : okN w x) : o_X5_put w a f (r + r') p x = ((o_X0_put w a r f p x).2.1, (o_X0_put w a r f p x).2.2.1, (o_X0_put w a r f p x).2.2.2.2, (o_X0_put w a r f p x).1, (o_X0_put w a r f p x).2.2.2.1 + r') := by
  rw [o_X5_put, o_X0_put, mp_spoiled hx, me_come]
  rcases me_cell p with ⟨c1, c2, c3⟩ | ⟨c1, c2⟩
  · rw [c1, c2, if_pos rfl, me_f3]
    by_cases d : o_X1_isSpoiled w x = true
    · rw [if_pos d, if_pos d, if_neg me_ft, o_X5_refuse, o_X0_refuse, me_rf]
    · rw [if_neg d, if_neg d, if_neg me_ft]
  · rw [c1, c2, if_neg me_10, me_f1, if_pos rfl]
theorem me_putV {w : Bool} (a r : Int32) {f : Nat → Int64} (p : Int32) {x : Int64} (hx : okN w x) (h : okA w f) : okA w (o_X0_put w a r f p x).2.2.2.2 := by
  rw [o_X0_put]
  by_cases c : o_X2_checkCell p = 0
  · rw [if_pos c]
    by_cases d : o_X1_isSpoiled w x = true
    · rw [if_pos d]; exact h
    · rw [if_neg d]; exact me_place a p h ⟨hx, Bool.eq_false_iff.mpr d⟩
  · rw [if_neg c]; exact h
theorem me_qb (w : Bool) : (wQb w).toInt = bD w ∧ (-(wQb w)).toInt = -(bD w : Int) ∧ (mMo w).toInt = bD w ∧ (-(mMo w)).toInt = -(bD w : Int) := by cases w <;> decide
theorem me_quarters {w : Bool} (a : Int32) {f : Nat → Int64} (p q : Int32) (h : okA w f) : o_X5_quarters w a f p q = ((o_X0_putQuarters w a f p q).2.1, (o_X0_putQuarters w a f p q).2.2.1, (o_X0_putQuarters w a f p q).2.2.2, (o_X0_putQuarters w a f p q).1) ∧ okA w (o_X0_putQuarters w a f p q).2.2.2 := by
  obtain ⟨k1, k2, k3, k4⟩ := me_qb w
  have g1 : mMo w < q.toInt64 ↔ (bD w : Int) < q.toInt := by rw [Int64.lt_iff_toInt_lt, k3, Int32.toInt_toInt64]
  have g2 : -(mMo w) ≤ q.toInt64 ↔ -(bD w : Int) ≤ q.toInt := by rw [Int64.le_iff_toInt_le, k4, Int32.toInt_toInt64]
  have g3 : q < -(wQb w) ↔ q.toInt < -(bD w : Int) := by rw [Int32.lt_iff_toInt_lt, k2]
  have g4 : q ≤ wQb w ↔ q.toInt ≤ (bD w : Int) := by rw [Int32.le_iff_toInt_le, k1]
  rw [o_X5_quarters, o_X0_putQuarters]
  simp only [me_come]
  rcases me_cell p with ⟨c1, c2, c3⟩ | ⟨c1, c2⟩
  · rw [c1, c2, if_pos rfl, me_f3, me_f2, if_neg me_ft, if_pos rfl]
    by_cases d1 : q.toInt < -(bD w : Int)
    · rw [if_pos (g3.mpr d1), if_neg (fun z => by have := g1.mp z; omega), if_neg (fun z => by have := g2.mp z; omega)]
      exact ⟨rfl, h⟩
    · rw [if_neg (fun z => d1 (g3.mp z)), if_pos (g2.mpr (by omega))]
      by_cases d2 : q.toInt ≤ (bD w : Int)
      · rw [if_pos (g4.mpr d2), if_neg (fun z => by have := g1.mp z; omega), (mr_made (by omega) d2).1]
        exact ⟨rfl, me_place a p h (ms_okq (by omega) d2)⟩
      · rw [if_neg (fun z => d2 (g4.mp z)), if_pos (g1.mpr (by omega))]
        exact ⟨rfl, h⟩
  · rw [c1, c2, if_neg me_10, me_f1, me_f1, if_pos rfl, ite_self, ite_self]
    exact ⟨rfl, h⟩
theorem me_known {w : Bool} (a : Int32) {f : Nat → Int64} (p q : Int32) (h : okA w f) : o_X5_known w a f p q = ((o_X0_putKnown w a f p q).2.1, (o_X0_putKnown w a f p q).2.2.1, (o_X0_putKnown w a f p q).2.2.2, (o_X0_putKnown w a f p q).1) ∧ okA w (o_X0_putKnown w a f p q).2.2.2 := by
  rw [o_X5_known, o_X0_putKnown, mp_known]
  simp only [me_come]
  rcases me_cell p with ⟨c1, c2, c3⟩ | ⟨c1, c2⟩
  · rcases me_choice q 6 with ⟨d1, d2⟩ | ⟨d1, d2⟩
    · rw [c1, c2, d1, d2, if_pos rfl, if_pos rfl, if_pos rfl, me_f3, if_neg me_ft]
      exact ⟨rfl, me_place a p h (ms_known w q)⟩
    · rw [c1, c2, d1, d2, if_pos rfl, if_neg me_20, if_neg me_ft, me_f2, if_pos rfl]
      exact ⟨rfl, h⟩
  · rw [c1, c2, if_neg me_10, me_f1, me_f1, if_pos rfl, ite_self]
    exact ⟨rfl, h⟩
theorem me_copy {w : Bool} (a : Int32) {f : Nat → Int64} (p q : Int32) (h : okA w f) : o_X5_copy a f p q = ((o_X0_copy a f p q).2.1, (o_X0_copy a f p q).2.2.1, (o_X0_copy a f p q).2.2.2, (o_X0_copy a f p q).1) ∧ okA w (o_X0_copy a f p q).2.2.2 := by
  rw [o_X5_copy, o_X0_copy, me_areNo]
  simp only [me_come]
  rcases me_cell p with ⟨c1, c2, c3⟩ | ⟨c1, c2⟩
  · rcases me_cell q with ⟨d1, d2, d3⟩ | ⟨d1, d2⟩
    · rw [c1, c2, d1, d2, if_pos rfl, if_pos rfl, Bool.false_or, me_f3, if_neg me_ft]
      exact ⟨rfl, me_place a q h (me_at h c3)⟩
    · rw [c1, c2, d1, d2, if_pos rfl, if_neg me_10, Bool.false_or, me_f1, if_pos rfl]
      exact ⟨rfl, h⟩
  · rw [c1, c2, if_neg me_10, Bool.true_or, me_f1, if_pos rfl]
    exact ⟨rfl, h⟩
theorem me_swap {w : Bool} (a : Int32) {f : Nat → Int64} (p q : Int32) (h : okA w f) : o_X5_swap a f p q = ((o_X0_swap a f p q).2.1, (o_X0_swap a f p q).2.2.1, (o_X0_swap a f p q).2.2.2, (o_X0_swap a f p q).1) ∧ okA w (o_X0_swap a f p q).2.2.2 := by
  rw [o_X5_swap, o_X0_swap, me_areNo, o_X4_swap]
  simp only [me_come]
  rcases me_cell p with ⟨c1, c2, c3⟩ | ⟨c1, c2⟩
  · rcases me_cell q with ⟨d1, d2, d3⟩ | ⟨d1, d2⟩
    · rw [c1, c2, d1, d2, if_pos rfl, if_pos rfl, Bool.false_or, me_f3, if_neg me_ft]
      refine ⟨?_, me_place a q (me_upd h (me_at h d3) _) (me_at h c3)⟩
      have e : vp_updL f p.toNatClampNeg (f q.toNatClampNeg) q.toNatClampNeg = f q.toNatClampNeg := by
        by_cases z : q.toNatClampNeg = p.toNatClampNeg
        · rw [z, mw_at]
        · rw [mw_ne z]
      rw [o_X0_place, e]
      by_cases z : f p.toNatClampNeg = f q.toNatClampNeg
      · rw [if_pos z, if_pos z.symm]
      · rw [if_neg z, if_neg (fun y => z y.symm)]
    · rw [c1, c2, d1, d2, if_pos rfl, if_neg me_10, Bool.false_or, me_f1, if_pos rfl]
      exact ⟨rfl, h⟩
  · rw [c1, c2, if_neg me_10, Bool.true_or, me_f1, if_pos rfl]
    exact ⟨rfl, h⟩
theorem me_cells (p q s : Int32) : (o_X0_checkCells p q s = 0 ∧ o_X5_areNo p q = false ∧ o_X5_isNo s = false ∧ vp_in p 8 ∧ vp_in q 8 ∧ vp_in s 8) ∨ (o_X0_checkCells p q s = 1 ∧ (o_X5_areNo p q = true ∨ (o_X5_areNo p q = false ∧ o_X5_isNo s = true))) := by
  rw [o_X0_checkCells, me_areNo]
  rcases me_cell p with ⟨c1, c2, c3⟩ | ⟨c1, c2⟩
  · rcases me_cell q with ⟨d1, d2, d3⟩ | ⟨d1, d2⟩
    · rcases me_cell s with ⟨e1, e2, e3⟩ | ⟨e1, e2⟩
      · rw [c1, d1, e1, c2, d2, e2]; exact Or.inl ⟨rfl, rfl, rfl, c3, d3, e3⟩
      · rw [c1, d1, e1, c2, d2, e2]; exact Or.inr ⟨rfl, Or.inr ⟨rfl, rfl⟩⟩
    · rw [c1, d1, c2, d2]; exact Or.inr ⟨rfl, Or.inl rfl⟩
  · rw [c1, c2]; exact Or.inr ⟨rfl, Or.inl rfl⟩
theorem me_greater {w : Bool} {x y : Int64} (hx : okN w x) (hy : okN w y) : o_X1_greater w x y = if o_X1_order w x y = 1 then x else y := by
  rw [o_X1_greater, mo_ord]
  by_cases c : (o_X1_standing w x).toInt < (o_X1_standing w y).toInt
  · rw [if_pos c, if_neg (by decide), if_neg (by decide)]
  · rw [if_neg c]
    by_cases d : (o_X1_standing w y).toInt < (o_X1_standing w x).toInt
    · rw [if_pos d, if_pos (by decide), if_pos rfl]
    · rw [if_neg d, if_pos (by decide), if_neg (by decide)]
      exact mo_st_inj hx hy (by omega)
theorem me_lesser {w : Bool} {x y : Int64} (hx : okN w x) (hy : okN w y) : o_X1_lesser w x y = if o_X1_order w x y = -1 then x else y := by
  rw [o_X1_lesser, mo_ord]
  by_cases c : (o_X1_standing w x).toInt < (o_X1_standing w y).toInt
  · rw [if_pos c, if_pos (by decide), if_pos rfl]
  · rw [if_neg c]
    by_cases d : (o_X1_standing w y).toInt < (o_X1_standing w x).toInt
    · rw [if_pos d, if_neg (by decide), if_neg (by decide)]
    · rw [if_neg d, if_pos (by decide), if_neg (by decide)]
      exact mo_st_inj hx hy (by omega)
theorem me_max {w : Bool} (a : Int32) {f : Nat → Int64} (p q s : Int32) (h : okA w f) : o_X5_choose w a f p q s 1 = ((o_X0_putGreater w a f p q s).2.1, (o_X0_putGreater w a f p q s).2.2.1, (o_X0_putGreater w a f p q s).2.2.2, (o_X0_putGreater w a f p q s).1) ∧ okA w (o_X0_putGreater w a f p q s).2.2.2 := by
  rw [o_X5_choose, o_X0_putGreater]
  simp only [me_come]
  rcases me_cells p q s with ⟨c1, c2, c3, c4, c5, c6⟩ | ⟨c1, c2 | ⟨c2, c3⟩⟩
  · have hp := me_at h c4
    have hq := me_at h c5
    rw [c1, c2, c3, if_pos rfl, if_neg me_ft, if_neg me_ft, mo_order hp.1 hq.1, me_greater hp.1 hq.1, me_f3]
    by_cases d : o_X1_order w (f p.toNatClampNeg) (f q.toNatClampNeg) = 1
    · simp only [if_pos d]
      exact ⟨trivial, me_place a s h hp⟩
    · simp only [if_neg d]
      exact ⟨trivial, me_place a s h hq⟩
  · rw [c1, c2, if_neg me_10, if_pos rfl, me_f1]; exact ⟨rfl, h⟩
  · rw [c1, c2, c3, if_neg me_10, if_neg me_ft, if_pos rfl, me_f1]; exact ⟨rfl, h⟩
theorem me_min {w : Bool} (a : Int32) {f : Nat → Int64} (p q s : Int32) (h : okA w f) : o_X5_choose w a f p q s (-1) = ((o_X0_putLesser w a f p q s).2.1, (o_X0_putLesser w a f p q s).2.2.1, (o_X0_putLesser w a f p q s).2.2.2, (o_X0_putLesser w a f p q s).1) ∧ okA w (o_X0_putLesser w a f p q s).2.2.2 := by
  rw [o_X5_choose, o_X0_putLesser]
  simp only [me_come]
  rcases me_cells p q s with ⟨c1, c2, c3, c4, c5, c6⟩ | ⟨c1, c2 | ⟨c2, c3⟩⟩
  · have hp := me_at h c4
    have hq := me_at h c5
    rw [c1, c2, c3, if_pos rfl, if_neg me_ft, if_neg me_ft, mo_order hp.1 hq.1, me_lesser hp.1 hq.1, me_f3]
    by_cases d : o_X1_order w (f p.toNatClampNeg) (f q.toNatClampNeg) = -1
    · simp only [if_pos d]
      exact ⟨trivial, me_place a s h hp⟩
    · simp only [if_neg d]
      exact ⟨trivial, me_place a s h hq⟩
  · rw [c1, c2, if_neg me_10, if_pos rfl, me_f1]; exact ⟨rfl, h⟩
  · rw [c1, c2, c3, if_neg me_10, if_neg me_ft, if_pos rfl, me_f1]; exact ⟨rfl, h⟩
theorem me_sum {w : Bool} (a r r' : Int32) {f : Nat → Int64} (p q s : Int32) (h : okA w f) : o_X5_sum w a f (r + r') p q s = ((o_X0_putSum w a r f p q s).2.1, (o_X0_putSum w a r f p q s).2.2.1, (o_X0_putSum w a r f p q s).2.2.2.2, (o_X0_putSum w a r f p q s).1, (o_X0_putSum w a r f p q s).2.2.2.1 + r') ∧ okA w (o_X0_putSum w a r f p q s).2.2.2.2 := by
  rw [o_X5_sum, o_X0_putSum]
  simp only [me_come]
  rcases me_cells p q s with ⟨c1, c2, c3, c4, c5, c6⟩ | ⟨c1, c2 | ⟨c2, c3⟩⟩
  · have hp := me_at h c4
    have hq := me_at h c5
    rw [c1, c2, c3, if_pos rfl, if_neg me_ft, if_neg me_ft, ms_have hp.1 hq.1, me_f3]
    by_cases d : o_X1_haveSum w (f p.toNatClampNeg) (f q.toNatClampNeg) = true
    · rw [if_pos d, if_pos d, (ms_sum hp hq d).1]
      exact ⟨rfl, me_place a s h (ms_sum hp hq d).2⟩
    · rw [if_neg d, if_neg d, o_X5_refuse, o_X0_refuse, me_rf]
      exact ⟨rfl, h⟩
  · rw [c1, c2, if_neg me_10, if_pos rfl, me_f1]; exact ⟨rfl, h⟩
  · rw [c1, c2, c3, if_neg me_10, if_neg me_ft, if_pos rfl, me_f1]; exact ⟨rfl, h⟩
noncomputable def mc1 (c : Int32) : Int32 := if c = 0 then 0 else 1
theorem me_sort {w : Bool} (a : Int32) {f : Nat → Int64} (g : Nat → Int64) (p : Int32) (h : okA w f) : o_X5_sort w a f p = ((o_X0_sort w a f g p).2.1, (o_X0_sort w a f g p).2.2.1, (o_X0_sort w a f g p).2.2.2.1, mc1 (o_X0_sort w a f g p).1) ∧ okA w (o_X0_sort w a f g p).2.2.2.1 := by
  rw [o_X5_sort, o_X0_sort, o_X4_sort]
  obtain ⟨s1, s2, s3⟩ := mw_sort (g := g) h
  rcases me_choice p 1 with ⟨d1, d2⟩ | ⟨d1, d2⟩
  · rw [d1, d2, if_pos rfl, if_pos rfl, s1, s2]
    exact ⟨rfl, s3⟩
  · rw [d1, d2, if_neg me_20, if_neg me_ft]
    exact ⟨rfl, h⟩
theorem me_xendV {w : Bool} {f : Nat → Int64} (h : okA w f) (b : Bool) : ∀ (n i : Nat) (v : Int64), i + n = 8 → okV w v → okV w (L_xend w f b n i v) := by
  intro n
  induction n with
  | zero => intro i v _ hv; exact hv
  | succ n ih =>
    intro i v hi hv
    rw [L_xend, o_X1_greater, o_X1_lesser]
    have hf := h i (by omega)
    split
    · split
      · exact ih _ _ (by omega) hv
      · exact ih _ _ (by omega) hf
    · split
      · exact ih _ _ (by omega) hv
      · exact ih _ _ (by omega) hf
theorem me_end {w : Bool} (a : Int32) {f : Nat → Int64} (b : Bool) (p : Int32) (h : okA w f) : o_X5_end w a f b p = ((o_X0_putEnd w a f b p).2.1, (o_X0_putEnd w a f b p).2.2.1, (o_X0_putEnd w a f b p).2.2.2, (o_X0_putEnd w a f b p).1) ∧ okA w (o_X0_putEnd w a f b p).2.2.2 := by
  have e : o_X4_end w f b = L_xend w f b 7 1 (f 0) := by
    rw [o_X4_end, (mp_end (me_okF h) b 8 0 (f 0) rfl (h 0 (by omega)).1).1, L_xend, o_X1_greater, o_X1_lesser, ite_self, ite_self, ite_self]
  rw [o_X5_end, o_X0_putEnd, e]
  simp only [me_come]
  rcases me_cell p with ⟨c1, c2, c3⟩ | ⟨c1, c2⟩
  · rw [c1, c2, if_pos rfl, me_f3, if_neg me_ft]
    exact ⟨rfl, me_place a p h (me_xendV h b 7 1 (f 0) rfl (h 0 (by omega)))⟩
  · rw [c1, c2, if_neg me_10, me_f1, if_pos rfl]
    exact ⟨rfl, h⟩
/-! one row's readers answer as the model's -/
theorem mf_half (d : Int64) : (jLshr d 32).toInt32 = (jLushr d 32).toInt32 := by
  obtain ⟨n, hn, rfl⟩ := wb_of d
  have e1 : jLushr (lN n) 32 = lN (n / 2 ^ 32) := mp_ushr (k := 32) hn (by decide)
  have e2 : (jLshr (lN n) 32).toInt = (lN n).toInt >>> (((nI 32).toInt64 &&& 63).toBitVec.smod 64).toNat := BitVec.toInt_sshiftRight ..
  have e3 : (((nI 32).toInt64 &&& 63).toBitVec.smod 64).toNat = 32 := by decide
  rw [e3, Int.shiftRight_eq_div_pow] at e2
  have e4 : (lN n).toInt = (n : Int) ∨ (lN n).toInt = (n : Int) - 18446744073709551616 := by
    have : (lN n).toInt = (BitVec.ofNat 64 n).toInt := rfl
    rw [this, BitVec.toInt_eq_toNat_cond, BitVec.toNat_ofNat, Nat.mod_eq_of_lt hn]
    split
    · exact Or.inl rfl
    · exact Or.inr rfl
  apply Int32.toInt_inj.mp
  rw [Int64.toInt_toInt32, Int64.toInt_toInt32, e1, e2, mo_toInt (show n / 2 ^ 32 < 9223372036854775808 by omega)]
  rw [Int.bmod_def, Int.bmod_def]
  rcases e4 with e | e <;> rw [e] <;> split <;> split <;> omega
theorem mf_zero {w : Bool} {x y : Int64} (hx : okN w x) (hy : okN w y) : o_X1_order w x y = 0 ↔ x = y := by
  rw [mo_ord]
  by_cases c : (o_X1_standing w x).toInt < (o_X1_standing w y).toInt
  · rw [if_pos c]
    exact ⟨fun z => absurd z (by decide), fun z => by rw [z] at c; omega⟩
  · rw [if_neg c]
    by_cases d : (o_X1_standing w y).toInt < (o_X1_standing w x).toInt
    · rw [if_pos d]
      exact ⟨fun z => absurd z (by decide), fun z => by rw [z] at d; omega⟩
    · rw [if_neg d]
      exact ⟨fun _ => mo_st_inj hx hy (by omega), fun _ => rfl⟩
theorem mf_order {w : Bool} {f : Nat → Int64} (p q s : Int32) (h : okA w f) : o_X5_order w f p q s = ((o_X0_order w f p q s).2, (o_X0_order w f p q s).1) := by
  rw [o_X5_order, o_X0_order, me_areNo]
  rcases me_choice s 2 with ⟨s1, s2⟩ | ⟨s1, s2⟩ <;> rcases me_cell p with ⟨c1, c2, c3⟩ | ⟨c1, c2⟩ <;> rcases me_cell q with ⟨d1, d2, d3⟩ | ⟨d1, d2⟩ <;> simp only [s1, s2, c1, c2, d1, d2, me_f1, me_f2, me_f3, Bool.or_true, Bool.or_false, if_pos, if_neg me_10, if_neg me_20, if_neg me_ft]
  rw [mo_order (me_at h c3).1 (me_at h d3).1]
theorem mf_same {w : Bool} {f : Nat → Int64} (p q s : Int32) (h : okA w f) : o_X5_same f p q s = ((o_X0_areSame w f p q s).2, (o_X0_areSame w f p q s).1) := by
  rw [o_X5_same, o_X0_areSame, o_X0_order, me_areNo]
  rcases me_choice s 2 with ⟨s1, s2⟩ | ⟨s1, s2⟩ <;> rcases me_cell p with ⟨c1, c2, c3⟩ | ⟨c1, c2⟩ <;> rcases me_cell q with ⟨d1, d2, d3⟩ | ⟨d1, d2⟩ <;> simp only [s1, s2, c1, c2, d1, d2, me_f1, me_f2, me_f3, Bool.or_true, Bool.or_false, if_pos, if_neg me_10, if_neg me_20, if_neg me_ft]
  by_cases z : f p.toNatClampNeg = f q.toNatClampNeg
  · rw [if_pos z, if_pos ((mf_zero (me_at h c3).1 (me_at h d3).1).mpr z)]
  · rw [if_neg z, if_neg (fun y => z ((mf_zero (me_at h c3).1 (me_at h d3).1).mp y))]
theorem mf_other (p q : Int32) : o_X5_other p q = ((o_X0_isEqualToOther p q).2, (o_X0_isEqualToOther p q).1) := by
  rw [o_X5_other, o_X0_isEqualToOther]
  rcases me_choice q 3 with ⟨s1, s2⟩ | ⟨s1, s2⟩ <;> rcases me_cell p with ⟨c1, c2, c3⟩ | ⟨c1, c2⟩ <;> simp only [s1, s2, c1, c2, me_f1, me_f2, me_f3, if_pos, if_neg me_10, if_neg me_20, if_neg me_ft]
theorem mf_areLike {w : Bool} {x y : Int64} (hx : okN w x) (hy : okN w y) : o_X5_areLike w x y = o_X1_areLike w x y := by
  rw [o_X5_areLike, o_X1_areLike, mo_value hx, mo_value hy]
theorem mf_if (b : Bool) {α : Type} (x y : α) (h : b = true → x = y) : (if b = true then x else y) = y := by
  by_cases c : b = true
  · rw [if_pos c]; exact h c
  · rw [if_neg c]
theorem mf_tf (b : Bool) (c : Int32) : (if b = true then (true, c) else (false, c)) = (b, c) := by cases b <;> rfl
theorem mf_tf2 (b : Bool) (c : Int32) : (if b = true then (c, true) else (c, false)) = (c, b) := by cases b <;> rfl
theorem mf_like {w : Bool} {f : Nat → Int64} (p q : Int32) (h : okA w f) : o_X5_like w f p q = ((o_X0_areLike w f p q).2, (o_X0_areLike w f p q).1) := by
  rw [o_X5_like, o_X0_areLike, me_areNo]
  rcases me_cell p with ⟨c1, c2, c3⟩ | ⟨c1, c2⟩ <;> rcases me_cell q with ⟨d1, d2, d3⟩ | ⟨d1, d2⟩ <;> simp only [c1, c2, d1, d2, me_f1, me_f2, me_f3, Bool.or_true, Bool.or_false, if_pos, if_neg me_10, if_neg me_20, if_neg me_ft]
  rw [mf_areLike (me_at h c3).1 (me_at h d3).1, mf_tf]
theorem mf_below {w : Bool} {f : Nat → Int64} (p q : Int32) (b : Bool) (h : okA w f) : o_X5_below w f p q b = ((o_X0_isBelow w f p q b).2, (o_X0_isBelow w f p q b).1) := by
  rw [o_X5_below, o_X0_isBelow, me_areNo]
  rcases me_cell p with ⟨c1, c2, c3⟩ | ⟨c1, c2⟩ <;> rcases me_cell q with ⟨d1, d2, d3⟩ | ⟨d1, d2⟩ <;> simp only [c1, c2, d1, d2, me_f1, me_f2, me_f3, Bool.or_true, Bool.or_false, if_pos, if_neg me_10, if_neg me_20, if_neg me_ft]
  rw [o_X1_isBelow, o_X1_areLike, mo_value (me_at h c3).1, mo_value (me_at h d3).1]
  by_cases z : o_X1_rank w (f q.toNatClampNeg) ≤ o_X1_rank w (f p.toNatClampNeg)
  · rw [if_pos z, if_neg me_ft, if_neg (fun y => by
      have y := Int64.lt_iff_toInt_lt.mp y
      have z := Int64.le_iff_toInt_le.mp z
      omega)]
    by_cases e : b = true
    · rw [if_pos e, if_pos e]
      by_cases g : o_X1_rank w (f p.toNatClampNeg) = o_X1_rank w (f q.toNatClampNeg)
      · rw [if_pos g, if_pos g, if_pos rfl]
      · rw [if_neg g, if_neg g, if_neg me_ft]
    · rw [if_neg e, if_neg e]
  · have y : o_X1_rank w (f p.toNatClampNeg) < o_X1_rank w (f q.toNatClampNeg) := Int64.lt_iff_toInt_lt.mpr (Int.not_le.mp (fun y => z (Int64.le_iff_toInt_le.mpr y)))
    rw [if_neg z, if_pos y, if_pos rfl]
theorem mf_hashW {f : Nat → Int64} (p s : Int32) : (if (o_X5_isIn s 0 1) = true then (if (o_X5_fails (o_X5_isNo p) false).1 = true then (0, (o_X5_fails (o_X5_isNo p) false).2) else ((o_X5_hashOf f p), (o_X5_fails (o_X5_isNo p) false).2)) else if (o_X5_fails (o_X5_isNo p) true).1 = true then (0, (o_X5_fails (o_X5_isNo p) true).2) else ((o_X5_hashOf f p), (o_X5_fails (o_X5_isNo p) true).2)) = ((o_X0_hash f p s).2, (o_X0_hash f p s).1) := by
  rw [o_X0_hash]
  rcases me_choice s 1 with ⟨s1, s2⟩ | ⟨s1, s2⟩ <;> rcases me_cell p with ⟨c1, c2, c3⟩ | ⟨c1, c2⟩ <;> simp only [s1, s2, c1, c2, me_f1, me_f2, me_f3, if_pos, if_neg me_10, if_neg me_20, if_neg me_ft]
  rw [o_X5_hashOf, o_X1_hash, mf_half]
theorem mf_hash0 {d : Int64} (h : okN false d) : o_X1_hash d = d.toInt32 := by
  obtain ⟨n, hn, rfl⟩ := mo_of h
  have hn : n < 4294967296 := hn
  have e1 : jLushr (lN n) 32 = lN (n / 2 ^ 32) := mp_ushr (k := 32) (by omega) (by decide)
  rw [o_X1_hash, e1, Nat.div_eq_of_lt (by omega)]
  exact Int32.zero_xor
theorem mf_hashN {f : Nat → Int64} (p s : Int32) (h : okA false f) : o_X5_narrowHash f p s = ((o_X0_hash f p s).2, (o_X0_hash f p s).1) := by
  rw [o_X0_hash, o_X5_narrowHash]
  rcases me_choice s 1 with ⟨s1, s2⟩ | ⟨s1, s2⟩ <;> rcases me_cell p with ⟨c1, c2, c3⟩ | ⟨c1, c2⟩ <;> simp only [s1, s2, c1, c2, me_f1, me_f2, me_f3, if_pos, if_neg me_10, if_neg me_20, if_neg me_ft]
  rw [mf_hash0 (me_at h c3).1]
theorem mf_endless {w : Bool} {f : Nat → Int64} (p s : Int32) (h : okA w f) : o_X5_endless w f p s = ((o_X0_isEndless w f p s).2, (o_X0_isEndless w f p s).1) := by
  rw [o_X5_endless, o_X0_isEndless]
  rcases me_choice s 2 with ⟨s1, s2⟩ | ⟨s1, s2⟩ <;> rcases me_cell p with ⟨c1, c2, c3⟩ | ⟨c1, c2⟩ <;> simp only [s1, s2, c1, c2, me_f1, me_f2, me_f3, if_pos, if_neg me_10, if_neg me_20, if_neg me_ft]
  rw [mp_endless (me_at h c3).1, mf_tf]
theorem mf_count {w : Bool} {f : Nat → Int64} (p : Int32) (h : okA w f) : o_X5_count w f p = ((o_X0_quarters w f p).2, (o_X0_quarters w f p).1) := by
  rw [o_X5_count, o_X0_quarters]
  rcases me_cell p with ⟨c1, c2, c3⟩ | ⟨c1, c2⟩ <;> simp only [c1, c2, me_f1, me_f2, me_f3, if_pos, if_neg me_10, if_neg me_20, if_neg me_ft]
  rw [mq_count (me_at h c3).1]
theorem mf_find {f : Nat → Int64} (p : Int32) (b : Bool) : o_X5_find f p b = ((o_X0_find f p b).2, (o_X0_find f p b).1) := by
  rw [o_X5_find, o_X0_find]
  rcases me_cell p with ⟨c1, c2, c3⟩ | ⟨c1, c2⟩ <;> simp only [c1, c2, me_f1, me_f2, me_f3, if_pos, if_neg me_10, if_neg me_20, if_neg me_ft]
  rw [ms_find c3]
theorem mf_has0 {w : Bool} {f : Nat → Int64} {p : Int32} : ∀ (n i : Nat), (L_xhas w f p n i).1 = 0 := by
  intro n
  induction n with
  | zero => intro i; rw [L_xhas]
  | succ n ih =>
    intro i
    rw [L_xhas]
    split
    · rfl
    · exact ih _
theorem mf_has {w : Bool} {f : Nat → Int64} (p : Int32) : o_X5_has w f p = ((o_X0_has w f p).2, mc1 (o_X0_has w f p).1) := by
  rw [o_X5_has, o_X0_has]
  rcases me_choice p 6 with ⟨s1, s2⟩ | ⟨s1, s2⟩ <;> simp only [s1, s2, me_f1, me_f2, me_f3, if_pos, if_neg me_10, if_neg me_20, if_neg me_ft]
  · rw [mf_has0, mc1, if_pos rfl]
    have g := ms_has (w := w) (f := f) (p := p)
    by_cases z : o_X4_find f (o_X4_known w p) false < 0
    · have : ¬ (L_xhas w f p 8 0).2 = true := fun y => by
        have y := Int32.le_iff_toInt_le.mp (g.mp y)
        have z := Int32.lt_iff_toInt_lt.mp z
        omega
      rw [if_pos z, Bool.eq_false_iff.mpr this]
    · have : (L_xhas w f p 8 0).2 = true := g.mpr (Int32.le_iff_toInt_le.mpr (Int.not_lt.mp (fun y => z (Int32.lt_iff_toInt_lt.mpr y))))
      rw [if_neg z, this]
  · rw [mc1, if_neg me_20]
theorem mf_house (a1 r1 a2 r2 kn p : Int32) : o_X5_house a1 a2 (r1 + r2) kn p = ((o_X2_house a1 r1 a2 r2 kn p).2, mc1 (o_X2_house a1 r1 a2 r2 kn p).1) := by
  rw [o_X5_house, o_X2_house]
  rcases me_choice p 3 with ⟨s1, s2⟩ | ⟨s1, s2⟩ <;> simp only [s1, s2, me_f1, me_f2, me_f3, if_pos, if_neg me_10, if_neg me_20, if_neg me_ft]
  · rfl
  · rw [mc1, if_neg me_20]
