/-! rows of kit/laws/BITS.to-paste and COUNTS.to-paste (starting texts), then facts of digits of this claim -/
theorem wb_tb (n : Nat) : (lN n).toBitVec = BitVec.ofNat 64 n := rfl
theorem wb_inj {a b : Int64} (h : a.toBitVec = b.toBitVec) : a = b := Int64.toBitVec_inj.mp h
theorem wb_tn {n : Nat} (h : n < 2 ^ 64) : (lN n).toBitVec.toNat = n := by rw [wb_tb, BitVec.toNat_ofNat, Nat.mod_eq_of_lt h]
theorem wb_of (x : Int64) : ∃ n, n < 2 ^ 64 ∧ x = lN n := ⟨x.toBitVec.toNat, x.toBitVec.isLt, wb_inj (by rw [wb_tb]; simp)⟩
theorem wb_of32 (x : Int32) : ∃ n, n < 2 ^ 32 ∧ x = nI n := ⟨x.toBitVec.toNat, x.toBitVec.isLt, Int32.toBitVec_inj.mp (by show _ = BitVec.ofNat 32 _; simp)⟩
theorem wb_c : ∀ k, k < 64 → ((nI k).toInt64 &&& 63) = lN k := by decide +kernel
theorem wb_cu : ∀ k, k < 64 → ((nI k).toInt64.toUInt64 &&& Int64.toUInt64 63) = UInt64.ofNat k := by decide +kernel
theorem wb_sm : ∀ k, k < 64 → (BitVec.ofNat 64 k).smod 64 = BitVec.ofNat 64 k := by decide +kernel
theorem wb_pw {a b : Nat} (h : a ≤ b) : 2 ^ b = 2 ^ a * 2 ^ (b - a) := by rw [← Nat.pow_add]; congr 1; omega
theorem wb_lt2 {a b : Nat} (h : a < b) : 2 ^ a < 2 ^ b := Nat.pow_lt_pow_right (by decide) h
theorem wb_mod (n : Nat) : lN n = lN (n % 2 ^ 64) := wb_inj (by rw [wb_tb, wb_tb]; apply BitVec.eq_of_toNat_eq; rw [BitVec.toNat_ofNat, BitVec.toNat_ofNat, Nat.mod_mod])
theorem wb_shr {n k : Nat} (hn : n < 2 ^ 64) (hk : k < 64) : ((lN n).toUInt64 >>> ((nI k).toInt64.toUInt64 &&& Int64.toUInt64 63)).toInt64 = lN (n / 2 ^ k) := by
  rw [wb_cu k hk]
  apply wb_inj
  apply BitVec.eq_of_toNat_eq
  show ((lN n).toUInt64 >>> UInt64.ofNat k).toNat = (BitVec.ofNat 64 _).toNat
  have h1 : (UInt64.ofNat k).toNat = k := by
    show (BitVec.ofNat 64 k).toNat = k
    rw [BitVec.toNat_ofNat, Nat.mod_eq_of_lt (by omega)]
  have h2 : (lN n).toUInt64.toNat = n := wb_tn hn
  rw [UInt64.toNat_shiftRight, h1, h2, Nat.mod_eq_of_lt hk, Nat.shiftRight_eq_div_pow, BitVec.toNat_ofNat, Nat.mod_eq_of_lt (Nat.lt_of_le_of_lt (Nat.div_le_self _ _) hn)]
theorem wb_shl (n : Nat) {k : Nat} (hk : k < 64) : lN n <<< ((nI k).toInt64 &&& 63) = lN (n * 2 ^ k) := by
  rw [wb_c k hk]
  apply wb_inj
  rw [Int64.toBitVec_shiftLeft, wb_tb, wb_tb, wb_tb, wb_sm k hk]
  apply BitVec.eq_of_toNat_eq
  rw [BitVec.shiftLeft_eq', BitVec.toNat_shiftLeft, BitVec.toNat_ofNat, BitVec.toNat_ofNat, BitVec.toNat_ofNat, Nat.mod_eq_of_lt (show k < 2 ^ 64 by omega), Nat.shiftLeft_eq, Nat.mul_mod, Nat.mod_mod, ← Nat.mul_mod]
theorem fb_andL (a b : Nat) : lN a &&& lN b = lN (a &&& b) := by
  apply Int64.toBitVec_inj.1
  show BitVec.ofNat 64 a &&& BitVec.ofNat 64 b = BitVec.ofNat 64 (a &&& b)
  apply BitVec.eq_of_getLsbD_eq
  intro i hi
  simp [hi]
theorem fb_orL (a b : Nat) : lN a ||| lN b = lN (a ||| b) := by
  apply Int64.toBitVec_inj.1
  show BitVec.ofNat 64 a ||| BitVec.ofNat 64 b = BitVec.ofNat 64 (a ||| b)
  apply BitVec.eq_of_getLsbD_eq
  intro i hi
  simp [hi]
theorem fb_xorL (a b : Nat) : lN a ^^^ lN b = lN (a ^^^ b) := by
  apply Int64.toBitVec_inj.1
  show BitVec.ofNat 64 a ^^^ BitVec.ofNat 64 b = BitVec.ofNat 64 (a ^^^ b)
  apply BitVec.eq_of_getLsbD_eq
  intro i hi
  simp [hi]
theorem fb_xorI (a b : Nat) : nI a ^^^ nI b = nI (a ^^^ b) := by
  apply Int32.toBitVec_inj.1
  show BitVec.ofNat 32 a ^^^ BitVec.ofNat 32 b = BitVec.ofNat 32 (a ^^^ b)
  apply BitVec.eq_of_getLsbD_eq
  intro i hi
  simp [hi]
theorem fb_maskL (n k : Nat) : lN n &&& lN (2 ^ k - 1) = lN (n % 2 ^ k) := by rw [fb_andL, Nat.and_two_pow_sub_one_eq_mod]
theorem fb_or_sumL {a k : Nat} (b : Nat) (h : a < 2 ^ k) : lN (2 ^ k * b) ||| lN a = lN (2 ^ k * b + a) := by rw [fb_orL, Nat.two_pow_add_eq_or_of_lt h]
theorem fb_lN_inj {a b : Nat} (ha : a < 2 ^ 63) (hb : b < 2 ^ 63) : lN a = lN b ↔ a = b := by
  constructor
  · intro h
    have h1 : (BitVec.ofNat 64 a).toNat = (BitVec.ofNat 64 b).toNat := congrArg (fun x : Int64 => x.toBitVec.toNat) h
    rw [BitVec.toNat_ofNat, BitVec.toNat_ofNat, Nat.mod_eq_of_lt (by omega), Nat.mod_eq_of_lt (by omega)] at h1
    exact h1
  · rintro rfl; rfl
theorem fb_bit_nat (n j : Nat) : n &&& 2 ^ j = 0 ↔ n.testBit j = false := by
  constructor
  · intro h
    have h1 : (n &&& 2 ^ j).testBit j = false := by rw [h]; simp
    rw [Nat.testBit_and] at h1
    simpa using h1
  · intro h
    apply Nat.eq_of_testBit_eq
    intro i
    rw [Nat.testBit_and]
    by_cases hi : j = i
    · subst hi; simp [h]
    · first | (simp [Nat.testBit_two_pow, hi]; done) | (simp [Nat.testBit_two_pow_of_ne hi]; done)
/-- one bit of a long -/
theorem fb_bitL {n j : Nat} (hj : j < 63) : lN n &&& lN (2 ^ j) = 0 ↔ n.testBit j = false := by
  have h2 : (2 : Nat) ^ j < 2 ^ 63 := Nat.pow_lt_pow_right (by decide) hj
  have hle : n &&& 2 ^ j ≤ 2 ^ j := Nat.and_le_right
  rw [fb_andL, ← fb_bit_nat, show (0 : Int64) = lN 0 from rfl]
  exact fb_lN_inj (by omega) (by decide)
/-! this claim's own facts of digits: a cell is lN n -/
noncomputable def bB (w : Bool) : Nat := if w then 9223372036854775808 else 2147483648
theorem mo_of {w : Bool} {d : Int64} (h : okN w d) : ∃ n : Nat, n < 2 * bB w ∧ d = lN n := by
  cases w with
  | true =>
    obtain ⟨n, h1, h2⟩ := wb_of d
    exact ⟨n, by show n < 2 * 9223372036854775808; omega, h2⟩
  | false =>
    obtain ⟨h1, h2⟩ := h rfl
    refine ⟨d.toInt.toNat, ?_, ?_⟩
    · show d.toInt.toNat < 2 * 2147483648
      omega
    · apply Int64.toInt_inj.mp
      rw [pk_lT (by omega)]
      omega
theorem mo_toInt {n : Nat} (h : n < 9223372036854775808) : (lN n).toInt = (n : Int) := pk_lT h
theorem mo_inj {a b : Nat} (ha : a < 18446744073709551616) (hb : b < 18446744073709551616) (h : lN a = lN b) : a = b := by
  have h1 : (lN a).toBitVec.toNat = (lN b).toBitVec.toNat := by rw [h]
  rw [wb_tn (by omega), wb_tn (by omega)] at h1
  exact h1
theorem mo_lt {w : Bool} {n : Nat} (h : n < 2 * bB w) : n < 18446744073709551616 := by
  cases w
  · have h2 : n < 2 * 2147483648 := h
    omega
  · have h2 : n < 2 * 9223372036854775808 := h
    omega
theorem mo_r {w : Bool} (n : Nat) : n % bB w < 9223372036854775808 := by
  cases w
  · show n % 2147483648 < 9223372036854775808
    omega
  · show n % 9223372036854775808 < 9223372036854775808
    omega
theorem mo_so (w : Bool) (n : Nat) : lN n &&& wSo w = lN (n % bB w) := by
  cases w
  · exact fb_maskL n 31
  · exact fb_maskL n 63
theorem mo_sg0 (w : Bool) : wSg w = lN (bB w) := by cases w <;> decide
theorem mo_sg {w : Bool} {n : Nat} (h : n < 2 * bB w) : lN n &&& wSg w = 0 ↔ n < bB w := by
  rw [mo_sg0, fb_andL]
  have e : ∀ k : Nat, n < 2 * 2 ^ k → (n &&& 2 ^ k = 0 ↔ n < 2 ^ k) := by
    intro k hk
    rw [fb_bit_nat, Nat.testBit_eq_decide_div_mod_eq]
    have hp : 0 < 2 ^ k := Nat.pow_pos (by decide)
    constructor
    · intro z
      have z2 : ¬ n / 2 ^ k % 2 = 1 := of_decide_eq_false z
      by_cases c : n < 2 ^ k
      · exact c
      · have : n / 2 ^ k = 1 := by
          apply Nat.div_eq_of_lt_le <;> omega
        omega
    · intro z
      rw [Nat.div_eq_of_lt z]
      rfl
  have f : ∀ m : Nat, m < 18446744073709551616 → (lN m = 0 ↔ m = 0) := by
    intro m hm
    constructor
    · intro z
      exact mo_inj hm (by decide) (z.trans (show (0 : Int64) = lN 0 from rfl))
    · rintro rfl
      rfl
  rw [f _ (Nat.lt_of_le_of_lt Nat.and_le_left (mo_lt h))]
  cases w
  · exact e 31 h
  · exact e 63 h
theorem mo_sign (w : Bool) : o_X4_sign w = wSg w := by cases w <;> decide
theorem mo_size {w : Bool} {n : Nat} (h : n < 2 * bB w) : o_X4_size w (lN n) = lN (n % bB w) := by
  rw [o_X4_size, mo_sign]
  cases w
  · have h2 : n < 2 * 2147483648 := h
    rw [show wSg false ^^^ -1 = lN 18446744071562067967 by decide, fb_andL]
    have e : n = n &&& (2 ^ 32 - 1) := by
      rw [Nat.and_two_pow_sub_one_eq_mod]
      omega
    rw [e, Nat.and_assoc, show (2 ^ 32 - 1) &&& 18446744071562067967 = 2 ^ 31 - 1 by decide, Nat.and_two_pow_sub_one_eq_mod, ← e]
    rfl
  · rw [show wSg true ^^^ -1 = lN (2 ^ 63 - 1) by decide]
    exact fb_maskL n 63
theorem mo_neg {w : Bool} {n : Nat} (h : n < 2 * bB w) : o_X4_isBelowZero w (lN n) = true ↔ ¬ n < bB w := by
  rw [o_X4_isBelowZero, mo_sign]
  by_cases c : n < bB w
  · rw [if_pos ((mo_sg h).mpr c)]
    exact ⟨fun z => absurd z (by decide), fun z => absurd c z⟩
  · rw [if_neg (fun z => c ((mo_sg h).mp z))]
    exact ⟨fun _ => c, fun _ => rfl⟩
theorem mo_negI {m : Nat} (h : m < 9223372036854775808) : (-lN m).toInt = -(m : Int) := by
  rw [Int64.toInt_neg, mo_toInt h]
  exact Int.bmod_eq_of_le (by omega) (by omega)
theorem mo_neg1 {m : Nat} (h : m < 9223372036854775808) : (-lN m - 1).toInt = -(m : Int) - 1 := by
  rw [Int64.toInt_sub, mo_negI h, show (1 : Int64).toInt = 1 by decide]
  exact Int.bmod_eq_of_le (by omega) (by omega)
theorem mo_neg2 {m : Nat} (h : m < 9223372036854775808) : ((-1) - lN m).toInt = -(m : Int) - 1 := by
  rw [Int64.toInt_sub, mo_toInt h, show (-1 : Int64).toInt = -1 by decide]
  rw [Int.bmod_eq_of_le (by omega) (by omega)]
  omega
theorem mo_st {w : Bool} {n : Nat} (h : n < 2 * bB w) : (o_X1_standing w (lN n)).toInt = if n < bB w then (n : Int) else -((n % bB w : Nat) : Int) - 1 := by
  rw [o_X1_standing, mo_so]
  by_cases c : n < bB w
  · rw [if_pos ((mo_sg h).mpr c), if_pos c, mo_toInt (mo_r n), Nat.mod_eq_of_lt c]
  · rw [if_neg (fun z => c ((mo_sg h).mp z)), if_neg c, mo_neg1 (mo_r n)]
theorem mo_rk {w : Bool} {n : Nat} (h : n < 2 * bB w) : (o_X1_rank w (lN n)).toInt = if n < bB w then (n : Int) else -((n % bB w : Nat) : Int) := by
  rw [o_X1_rank, mo_so]
  by_cases c : n < bB w
  · rw [if_pos ((mo_sg h).mpr c), if_pos c, mo_toInt (mo_r n), Nat.mod_eq_of_lt c]
  · rw [if_neg (fun z => c ((mo_sg h).mp z)), if_neg c, mo_negI (mo_r n)]
theorem mo_bpos (w : Bool) : 0 < bB w := by cases w <;> decide
theorem mo_mod {w : Bool} {n : Nat} (h : n < 2 * bB w) (c : ¬ n < bB w) : n % bB w = n - bB w := by
  rw [Nat.mod_eq_sub_mod (by omega), Nat.mod_eq_of_lt (by omega)]
theorem mo_st_inj {w : Bool} {x y : Int64} (hx : okN w x) (hy : okN w y) (e : (o_X1_standing w x).toInt = (o_X1_standing w y).toInt) : x = y := by
  obtain ⟨n, hn, rfl⟩ := mo_of hx
  obtain ⟨k, hk, rfl⟩ := mo_of hy
  rw [mo_st hn, mo_st hk] at e
  have hm : n = k := by
    by_cases c : n < bB w <;> by_cases d : k < bB w
    · rw [if_pos c, if_pos d] at e; omega
    · rw [if_pos c, if_neg d] at e; omega
    · rw [if_neg c, if_pos d] at e; omega
    · rw [if_neg c, if_neg d, mo_mod hn c, mo_mod hk d] at e; omega
  rw [hm]
/-- both orders are one -/
theorem mo_rank {w : Bool} {x : Int64} (hx : okN w x) : o_X4_rank w x = o_X1_standing w x := by
  obtain ⟨n, hn, rfl⟩ := mo_of hx
  apply Int64.toInt_inj.mp
  rw [mo_st hn, o_X4_rank, mo_size hn]
  by_cases c : n < bB w
  · rw [if_neg (fun z => ((mo_neg hn).mp z) c), if_pos c, mo_toInt (mo_r n), Nat.mod_eq_of_lt c]
  · rw [if_pos ((mo_neg hn).mpr c), if_neg c, mo_neg2 (mo_r n)]
theorem mo_order {w : Bool} {x y : Int64} (hx : okN w x) (hy : okN w y) : o_X4_order w x y = o_X1_order w x y := by
  rw [o_X4_order, o_X1_order, mo_rank hx, mo_rank hy]
theorem mo_value {w : Bool} {x : Int64} (hx : okN w x) : o_X4_value w x = o_X1_rank w x := by
  obtain ⟨n, hn, rfl⟩ := mo_of hx
  apply Int64.toInt_inj.mp
  rw [mo_rk hn, o_X4_value, mo_size hn]
  by_cases c : n < bB w
  · rw [if_neg (fun z => ((mo_neg hn).mp z) c), if_pos c, mo_toInt (mo_r n), Nat.mod_eq_of_lt c]
  · rw [if_pos ((mo_neg hn).mpr c), if_neg c, mo_negI (mo_r n)]
/-- the order by whole numbers -/
theorem mo_ord (w : Bool) (x y : Int64) : o_X1_order w x y = if (o_X1_standing w x).toInt < (o_X1_standing w y).toInt then -1 else if (o_X1_standing w y).toInt < (o_X1_standing w x).toInt then 1 else 0 := by
  rw [o_X1_order]
  by_cases c : (o_X1_standing w x).toInt < (o_X1_standing w y).toInt
  · rw [if_pos c, if_neg (fun z => by have := Int64.le_iff_toInt_le.mp z; omega)]
  · rw [if_neg c, if_pos (Int64.le_iff_toInt_le.mpr (by omega))]
    by_cases d : (o_X1_standing w y).toInt < (o_X1_standing w x).toInt
    · rw [if_pos d, if_neg (fun z => by have := Int64.le_iff_toInt_le.mp z; omega)]
    · rw [if_neg d, if_pos (Int64.le_iff_toInt_le.mpr (by omega))]
theorem mo_zero {w : Bool} {n : Nat} (h : n < 2 * bB w) : o_X1_isZero w (lN n) = true ↔ n % bB w = 0 := by
  rw [o_X1_isZero, mo_so]
  have f : lN (n % bB w) = 0 ↔ n % bB w = 0 := by
    constructor
    · intro z
      exact mo_inj (by have := mo_r (w := w) n; omega) (by decide) (z.trans (show (0 : Int64) = lN 0 from rfl))
    · intro z
      rw [z]
      rfl
  by_cases c : n % bB w = 0
  · rw [if_pos (f.mpr c)]
    exact ⟨fun _ => c, fun _ => rfl⟩
  · rw [if_neg (fun z => c (f.mp z))]
    exact ⟨fun z => absurd z (by decide), fun z => absurd z c⟩
theorem mo_like0 {w : Bool} {x y : Int64} (hx : okN w x) (hy : okN w y) (hn : ¬ x = y) (h : o_X1_areLike w x y = true) : o_X1_isZero w x = true ∧ o_X1_isZero w y = true := by
  obtain ⟨n, hn1, rfl⟩ := mo_of hx
  obtain ⟨k, hk1, rfl⟩ := mo_of hy
  rw [mo_zero hn1, mo_zero hk1]
  have hb := mo_bpos w
  have e : o_X1_rank w (lN n) = o_X1_rank w (lN k) := by
    rw [o_X1_areLike] at h
    by_cases c : o_X1_rank w (lN n) = o_X1_rank w (lN k)
    · exact c
    · rw [if_neg c] at h; cases h
  have e2 : (o_X1_rank w (lN n)).toInt = (o_X1_rank w (lN k)).toInt := by rw [e]
  rw [mo_rk hn1, mo_rk hk1] at e2
  have hne : n ≠ k := fun z => hn (by rw [z])
  by_cases c : n < bB w <;> by_cases d : k < bB w
  · rw [if_pos c, if_pos d] at e2; omega
  · rw [if_pos c, if_neg d] at e2
    rw [Nat.mod_eq_of_lt c]
    omega
  · rw [if_neg c, if_pos d] at e2
    rw [Nat.mod_eq_of_lt d]
    omega
  · rw [if_neg c, if_neg d, mo_mod hn1 c, mo_mod hk1 d] at e2; omega
theorem mo_pair {w : Bool} {x y : Int64} (hx : okN w x) (hy : okN w y) : o_X1_isPairSound w x y = true := by
  have i1 : (o_X1_standing w x).toInt = (o_X1_standing w y).toInt → x = y := mo_st_inj hx hy
  have z := mo_like0 hx hy
  have g := o_X1_greater w x y
  rw [o_X1_isPairSound, o_X1_greater, o_X1_lesser, mo_ord w x y, mo_ord w y x]
  by_cases c : (o_X1_standing w x).toInt < (o_X1_standing w y).toInt
  · have hne : ¬ x = y := fun q => by rw [q] at c; omega
    rw [if_pos c, if_neg (show ¬ (o_X1_standing w y).toInt < (o_X1_standing w x).toInt by omega), if_pos c]
    by_cases l : o_X1_areLike w x y = true
    · simp [hne, l, (z hne l).1, (z hne l).2]
    · simp [hne, l]
  · by_cases d : (o_X1_standing w y).toInt < (o_X1_standing w x).toInt
    · have hne : ¬ x = y := fun q => by rw [q] at d; omega
      rw [if_neg c, if_pos d, if_pos d]
      by_cases l : o_X1_areLike w x y = true
      · simp [hne, l, (z hne l).1, (z hne l).2]
      · simp [hne, l]
    · have e : x = y := i1 (by omega)
      subst e
      simp
