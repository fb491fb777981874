/-! the parts of a cell's digits, on both sides -/
noncomputable def bP (w : Bool) : Nat := if w then 4503599627370496 else 8388608
noncomputable def bQ (w : Bool) : Nat := if w then 2048 else 256
theorem mp_ushr {n k : Nat} (hn : n < 18446744073709551616) (hk : k < 64) : jLushr (lN n) (nI k) = lN (n / 2 ^ k) := wb_shr hn hk
theorem mp_shl (n : Nat) {k : Nat} (hk : k < 64) : jLshl (lN n) (nI k) = lN (n * 2 ^ k) := wb_shl n hk
theorem mp_shr {n k : Nat} (hn : n < 9223372036854775808) (hk : k < 64) : jLshr (lN n) (nI k) = lN (n / 2 ^ k) := by
  apply Int64.toInt_inj.mp
  have h2 : n / 2 ^ k < 9223372036854775808 := Nat.lt_of_le_of_lt (Nat.div_le_self _ _) hn
  rw [mo_toInt h2]
  have e : (jLshr (lN n) (nI k)).toInt = (lN n).toInt >>> (((nI k).toInt64 &&& 63).toBitVec.smod 64).toNat := by
    show (lN n >>> ((nI k).toInt64 &&& 63)).toInt = _
    exact BitVec.toInt_sshiftRight ..
  rw [e, wb_c k hk, wb_tb, wb_sm k hk, BitVec.toNat_ofNat, Nat.mod_eq_of_lt (by omega), mo_toInt hn, Int.shiftRight_eq_div_pow]
  norm_cast
theorem mp_and32 (m k : Nat) : nI m &&& nI (2 ^ k - 1) = nI (m % 2 ^ k) := by
  apply Int32.toBitVec_inj.1
  show BitVec.ofNat 32 m &&& BitVec.ofNat 32 (2 ^ k - 1) = BitVec.ofNat 32 (m % 2 ^ k)
  rw [← Nat.and_two_pow_sub_one_eq_mod]
  apply BitVec.eq_of_getLsbD_eq
  intro i hi
  rw [BitVec.getLsbD_and, BitVec.getLsbD_ofNat, BitVec.getLsbD_ofNat, BitVec.getLsbD_ofNat, Nat.testBit_and]
  cases decide (i < 32) <;> simp
theorem mp_ex {w : Bool} {n : Nat} (h : n < 2 * bB w) : o_X1_exponent w (lN n) = nI (n / bP w % bQ w) := by
  have hn := mo_lt h
  rw [o_X1_exponent]
  cases w
  · rw [show wFd false = nI 23 by decide, mp_ushr hn (by decide), lN_i, show wEo false = nI (2 ^ 8 - 1) by decide, mp_and32]
    rfl
  · rw [show wFd true = nI 52 by decide, mp_ushr hn (by decide), lN_i, show wEo true = nI (2 ^ 11 - 1) by decide, mp_and32]
    rfl
theorem mp_fr (w : Bool) (n : Nat) : o_X1_fraction w (lN n) = lN (n % bP w) := by
  rw [o_X1_fraction]
  cases w
  · exact fb_maskL n 23
  · exact fb_maskL n 52
theorem mp_fr4 (w : Bool) (n : Nat) : o_X4_fraction w (lN n) = lN (n % bP w) := by
  rw [o_X4_fraction]
  cases w
  · rw [show jLshl 1 (mFr false) - 1 = lN (2 ^ 23 - 1) by decide]
    exact fb_maskL n 23
  · rw [show jLshl 1 (mFr true) - 1 = lN (2 ^ 52 - 1) by decide]
    exact fb_maskL n 52
theorem mp_ex4 {w : Bool} {n : Nat} (h : n < 2 * bB w) : o_X4_exponent w (lN n) = lN (n % bB w / bP w) := by
  rw [o_X4_exponent, mo_size h]
  cases w
  · rw [show mFr false = nI 23 by decide, mp_shr (mo_r n) (by decide)]
    rfl
  · rw [show mFr true = nI 52 by decide, mp_shr (mo_r n) (by decide)]
    rfl
theorem mp_split (w : Bool) (n : Nat) : n % bB w = n / bP w % bQ w * bP w + n % bP w ∧ n % bB w / bP w = n / bP w % bQ w ∧ n / bP w % bQ w < bQ w ∧ n % bP w < bP w := by
  cases w
  · show n % 2147483648 = n / 8388608 % 256 * 8388608 + n % 8388608 ∧ n % 2147483648 / 8388608 = n / 8388608 % 256 ∧ n / 8388608 % 256 < 256 ∧ n % 8388608 < 8388608
    omega
  · show n % 9223372036854775808 = n / 4503599627370496 % 2048 * 4503599627370496 + n % 4503599627370496 ∧ n % 9223372036854775808 / 4503599627370496 = n / 4503599627370496 % 2048 ∧ n / 4503599627370496 % 2048 < 2048 ∧ n % 4503599627370496 < 4503599627370496
    omega
theorem mp_end4 (w : Bool) : o_X4_endless w = lN ((bQ w - 1) * bP w) := by cases w <;> decide
theorem mp_eo (w : Bool) : wEo w = nI (bQ w - 1) := by cases w <;> decide
theorem mp_q (w : Bool) : 1 < bQ w ∧ bQ w ≤ 2048 ∧ 0 < bP w ∧ bP w ≤ 4503599627370496 ∧ bQ w * bP w = bB w ∧ bB w ≤ 9223372036854775808 := by cases w <;> decide
theorem mp_l0 {m : Nat} (h : m < 18446744073709551616) : lN m = 0 ↔ m = 0 := by
  constructor
  · intro z
    exact mo_inj h (by decide) (z.trans (show (0 : Int64) = lN 0 from rfl))
  · rintro rfl
    rfl
/-- ENDLESS, by both -/
theorem mp_endless {w : Bool} {d : Int64} (h : okN w d) : o_X4_isEndless w d = o_X1_isEndless w d := by
  obtain ⟨n, hn, rfl⟩ := mo_of h
  obtain ⟨s1, s2, s3, s4⟩ := mp_split w n
  obtain ⟨q1, q2, q3, q4, q5, q6⟩ := mp_q w
  have hr := mo_r (w := w) n
  rw [o_X4_isEndless, o_X1_isEndless, mo_size hn, mp_end4, mp_ex hn, mp_fr, mp_eo]
  have e1 : nI (n / bP w % bQ w) = nI (bQ w - 1) ↔ n / bP w % bQ w = bQ w - 1 := nI_eq (by omega) (by omega)
  have e2 := mp_l0 (m := n % bP w) (by omega)
  have hb : (bQ w - 1) * bP w < 18446744073709551616 := by
    have : (bQ w - 1) * bP w ≤ bQ w * bP w := Nat.mul_le_mul_right _ (by omega)
    omega
  by_cases a : n / bP w % bQ w = bQ w - 1
  · rw [if_pos (e1.mpr a)]
    by_cases b : n % bP w = 0
    · rw [if_pos (e2.mpr b), if_pos (by rw [s1, a, b]; rfl)]
    · rw [if_neg (fun z => b (e2.mp z)), if_neg (fun z => by
        have z2 := mo_inj (by omega) hb z
        rw [s1, a] at z2
        omega)]
  · rw [if_neg (fun z => a (e1.mp z)), if_neg (fun z => by
      have z2 := mo_inj (by omega) hb z
      have z3 : (bQ w - 1) * bP w / bP w = bQ w - 1 := Nat.mul_div_cancel _ (by omega)
      rw [← z2, s2] at z3
      exact a z3)]
/-- spoiled digits, by both -/
theorem mp_spoiled {w : Bool} {d : Int64} (h : okN w d) : o_X4_isSpoiled w d = o_X1_isSpoiled w d := by
  obtain ⟨n, hn, rfl⟩ := mo_of h
  obtain ⟨s1, s2, s3, s4⟩ := mp_split w n
  obtain ⟨q1, q2, q3, q4, q5, q6⟩ := mp_q w
  have hr := mo_r (w := w) n
  rw [o_X4_isSpoiled, o_X1_isSpoiled, mo_size hn, mp_end4, mp_ex hn, mp_fr, mp_eo]
  have e1 : nI (n / bP w % bQ w) = nI (bQ w - 1) ↔ n / bP w % bQ w = bQ w - 1 := nI_eq (by omega) (by omega)
  have e2 := mp_l0 (m := n % bP w) (by omega)
  have hm : (bQ w - 1) * bP w + bP w = bQ w * bP w := by
    rw [Nat.sub_mul, Nat.one_mul]
    have : bP w ≤ bQ w * bP w := Nat.le_mul_of_pos_left _ (by omega)
    omega
  have e3 : lN (n % bB w) ≤ lN ((bQ w - 1) * bP w) ↔ n % bB w ≤ (bQ w - 1) * bP w := pk_lLE (by omega) (by omega)
  by_cases a : n / bP w % bQ w = bQ w - 1
  · rw [if_pos (e1.mpr a)]
    by_cases b : n % bP w = 0
    · rw [if_pos (e2.mpr b), if_pos (e3.mpr (by rw [s1, a, b]; exact Nat.le_refl _))]
    · rw [if_neg (fun z => b (e2.mp z)), if_neg (fun z => by
        have z2 := e3.mp z
        rw [s1, a] at z2
        omega)]
  · rw [if_neg (fun z => a (e1.mp z)), if_pos (e3.mpr (by
      have z4 : n / bP w % bQ w + 1 ≤ bQ w - 1 := by omega
      have z5 : (n / bP w % bQ w + 1) * bP w ≤ (bQ w - 1) * bP w := Nat.mul_le_mul_right _ z4
      rw [Nat.add_mul, Nat.one_mul] at z5
      omega))]
theorem mp_known (w : Bool) (p : Int32) : o_X4_known w p = o_X1_known w p := by
  rw [o_X4_known, o_X1_known, mo_sign]
  have e2 : jLshl ((wEo w).toInt64) (wFd w) = o_X4_endless w := by cases w <;> decide
  have e4 : jLshl 1 (wFd w) = jLshl 1 (mFr w) := by cases w <;> rfl
  rw [e2, e4, Int64.or_comm (o_X4_endless w)]
/-- the greatest and the least, by both -/
theorem mp_end {w : Bool} {f : Nat → Int64} (h : okF w f) (b : Bool) : ∀ (n i : Nat) (v : Int64), i + n = 8 → okN w v → L_mend w f b n i v = L_xend w f b n i v ∧ okN w (L_xend w f b n i v) := by
  intro n
  induction n with
  | zero => intro i v _ hv; exact ⟨rfl, hv⟩
  | succ n ih =>
    intro i v hi hv
    have hf := h i (by omega)
    rw [L_mend, L_xend, mo_order hf hv, mo_ord, o_X1_greater, o_X1_lesser, mo_ord]
    by_cases c : b = true
    · rw [if_pos c, if_pos c]
      by_cases d1 : (o_X1_standing w v).toInt < (o_X1_standing w (f i)).toInt
      · rw [if_neg (show ¬ (o_X1_standing w (f i)).toInt < (o_X1_standing w v).toInt by omega), if_pos d1, if_pos rfl, if_pos d1, if_neg (by decide)]
        exact ih _ _ (by omega) hf
      · by_cases d2 : (o_X1_standing w (f i)).toInt < (o_X1_standing w v).toInt
        · rw [if_pos d2, if_neg (by decide), if_neg d1, if_pos d2, if_pos (by decide)]
          exact ih _ _ (by omega) hv
        · rw [if_neg d2, if_neg d1, if_neg (by decide), if_neg d1, if_neg d2, if_pos (by decide)]
          exact ih _ _ (by omega) hv
    · rw [if_neg c, if_neg c]
      by_cases d1 : (o_X1_standing w v).toInt < (o_X1_standing w (f i)).toInt
      · rw [if_neg (show ¬ (o_X1_standing w (f i)).toInt < (o_X1_standing w v).toInt by omega), if_pos d1, if_neg (by decide), if_pos d1, if_pos (by decide)]
        exact ih _ _ (by omega) hv
      · by_cases d2 : (o_X1_standing w (f i)).toInt < (o_X1_standing w v).toInt
        · rw [if_pos d2, if_pos rfl, if_neg d1, if_pos d2, if_neg (by decide)]
          exact ih _ _ (by omega) hf
        · rw [if_neg d2, if_neg d1, if_neg (by decide), if_neg d1, if_neg d2, if_pos (by decide)]
          exact ih _ _ (by omega) hv
