/-! the digits of QUARTERs: both sides make the same -/
theorem mr_hd {m : Nat} (hm : m < 4294967296) : ∀ (n i h : Nat), i + n = 32 → h < i → 2 ^ h ≤ m → (∀ j, h < j → j < i → m < 2 ^ j) → ∃ h', L_hd (lN m) n i (nI h) = nI h' ∧ h' < 32 ∧ 2 ^ h' ≤ m ∧ ∀ j, h' < j → j < 32 → m < 2 ^ j := by
  intro n
  induction n with
  | zero =>
    intro i h hi hh h1 h2
    exact ⟨h, rfl, by omega, h1, fun j a b => h2 j a (by omega)⟩
  | succ n ih =>
    intro i h hi hh h1 h2
    rw [L_hd, mp_shr (by omega) (by omega)]
    have hp : 0 < 2 ^ i := Nat.pow_pos (by decide)
    by_cases c : m < 2 ^ i
    · rw [if_pos (by rw [Nat.div_eq_of_lt c]; rfl)]
      refine ih (i + 1) h (by omega) (by omega) h1 (fun j a b => ?_)
      by_cases d : j = i
      · rw [d]; exact c
      · exact h2 j a (by omega)
    · have hq : 0 < m / 2 ^ i := Nat.div_pos (by omega) hp
      have hq2 : m / 2 ^ i ≤ m := Nat.div_le_self _ _
      rw [if_neg (fun z => by have := (mp_l0 (by omega)).mp z; omega)]
      exact ih (i + 1) i (by omega) (by omega) (by omega) (fun j a b => by omega)
theorem mr_high {m : Nat} (h0 : 0 < m) (hm : m < 4294967296) : ∃ h, o_X1_highestDigit (lN m) = nI h ∧ 2 ^ h ≤ m ∧ m < 2 ^ (h + 1) := by
  obtain ⟨h, e, h1, h2, h3⟩ := mr_hd hm 31 1 0 rfl (by decide) (by rw [Nat.pow_zero]; omega) (fun j a b => by omega)
  refine ⟨h, ?_, h2, ?_⟩
  · rw [o_X1_highestDigit]
    exact e
  · by_cases c : h + 1 < 32
    · exact h3 (h + 1) (by omega) c
    · have : h = 31 := by omega
      rw [this]
      exact hm
/-- the digits of m quarters whose highest digit stands at h -/
noncomputable def rV (w : Bool) (m h : Nat) : Nat := bP w * (bE w + h) + (m * 2 ^ (bF w - h) - bP w)
theorem mr_span {w : Bool} {m h : Nat} (hh : h ≤ bF w) (h1 : 2 ^ h ≤ m) (h2 : m < 2 ^ (h + 1)) : bP w ≤ m * 2 ^ (bF w - h) ∧ m * 2 ^ (bF w - h) < 2 * bP w := by
  obtain ⟨k1, k2, k3, k4, k5, k6, k7, k8, k9, k10, k11, k12⟩ := mq_k w
  have e1 : 2 ^ h * 2 ^ (bF w - h) = bP w := by rw [k5, ← Nat.pow_add]; congr 1; omega
  have e2 : 2 ^ (h + 1) * 2 ^ (bF w - h) = 2 * bP w := by rw [Nat.pow_succ, Nat.mul_comm (2 ^ h) 2, Nat.mul_assoc, e1]
  have hp : 0 < 2 ^ (bF w - h) := Nat.pow_pos (by decide)
  exact ⟨by rw [← e1]; exact Nat.mul_le_mul_right _ h1, by rw [← e2]; exact Nat.mul_lt_mul_of_pos_right h2 hp⟩
theorem mr_V {w : Bool} {m h : Nat} (hh : h ≤ bF w) (hb : bE w + h < bQ w - 1) (h1 : 2 ^ h ≤ m) (h2 : m < 2 ^ (h + 1)) : rV w m h < bB w ∧ rV w m h / bP w = bE w + h ∧ 0 < rV w m h := by
  obtain ⟨s1, s2⟩ := mr_span (w := w) hh h1 h2
  obtain ⟨q1, q2, q3, q4, q5, q6⟩ := mp_q w
  have hE0 : 0 < bE w := by cases w <;> decide
  have e : rV w m h / bP w = bE w + h := by
    rw [rV, Nat.mul_add_div q3, Nat.div_eq_of_lt (by omega)]
    rfl
  refine ⟨?_, e, ?_⟩
  · rw [rV, ← q5]
    have : bP w * (bE w + h) + bP w ≤ bP w * bQ w := by
      rw [← Nat.mul_succ]
      exact Nat.mul_le_mul_left _ (by omega)
    rw [Nat.mul_comm (bQ w)]
    omega
  · rw [rV]
    have : 0 < bP w * (bE w + h) := Nat.mul_pos q3 (by omega)
    omega
theorem mr_class {w : Bool} {m h : Nat} (hd : o_X1_highestDigit (lN m) = nI h) (hm : m < 4294967296) (hh : h ≤ bF w) (h1 : 2 ^ h ≤ m) (h2 : m < 2 ^ (h + 1)) : (jLshl (((wEq w) + (o_X1_highestDigit (lN m))).toInt64) (wFd w)) ||| ((jLshl (lN m) ((wFd w) - (o_X1_highestDigit (lN m)))) &&& (wFo w)) = lN (rV w m h) := by
  obtain ⟨k1, k2, k3, k4, k5, k6, k7, k8, k9, k10, k11, k12⟩ := mq_k w
  obtain ⟨s1, s2⟩ := mr_span (w := w) hh h1 h2
  rw [hd, k1, k2, nI_add, nI_l (by omega), mp_shl _ (by omega), pk_sub hh, mp_shl _ (by omega)]
  have e : lN (m * 2 ^ (bF w - h)) &&& wFo w = lN (m * 2 ^ (bF w - h) - bP w) := by
    have e1 : lN (m * 2 ^ (bF w - h)) &&& wFo w = lN (m * 2 ^ (bF w - h) % bP w) := by
      cases w
      · exact fb_maskL _ 23
      · exact fb_maskL _ 52
    rw [e1, Nat.mod_eq_sub_mod s1, Nat.mod_eq_of_lt (by omega)]
  rw [e, Nat.mul_comm, fb_or_sumL _ (by rw [← k5]; omega), rV, k5]
theorem mr_loop (w : Bool) (p : Int64) : ∀ (k N m x : Nat), k ≤ N → k ≤ x → x < 4294967296 → bP w ≤ m * 2 ^ k → m * 2 ^ k < 2 * bP w → L_made w p N (lN m) (lN x) = if 0 ≤ p then (((jLshl (lN (x - k)) (mFr w)) + (lN (m * 2 ^ k) - (jLshl 1 (mFr w)))) ||| 0) else (((jLshl (lN (x - k)) (mFr w)) + (lN (m * 2 ^ k) - (jLshl 1 (mFr w)))) ||| (o_X4_sign w)) := by
  have e1 : jLshl 1 (mFr w) = lN (bP w) := by cases w <;> decide
  obtain ⟨q1, q2, q3, q4, q5, q6⟩ := mp_q w
  intro k
  induction k with
  | zero =>
    intro N m x _ _ hx h1 h2
    rw [Nat.pow_zero, Nat.mul_one] at h1 h2 ⊢
    rw [Nat.sub_zero]
    cases N with
    | zero => rw [L_made]
    | succ N => rw [L_made, if_pos (by rw [e1]; exact (pk_lLE (by omega) (by omega)).mpr h1)]
  | succ k ih =>
    intro N m x hN hk hx h1 h2
    have hp : 0 < 2 ^ k := Nat.pow_pos (by decide)
    rw [Nat.pow_succ] at h1 h2
    have h3 : m * 2 ^ k < bP w := by rw [← Nat.mul_assoc] at h2; omega
    have h4 : m ≤ m * 2 ^ k := Nat.le_mul_of_pos_right _ hp
    cases N with
    | zero => omega
    | succ N =>
      rw [L_made, if_neg (fun z => by
        rw [e1] at z
        have := (pk_lLE (by omega) (by omega)).mp z
        omega)]
      have e2 : m * 2 * 2 ^ k = m * 2 ^ (k + 1) := by rw [Nat.pow_succ, Nat.mul_assoc, Nat.mul_comm 2]
      rw [show (2 : Int64) = lN 2 from rfl, lN_mul, show (1 : Int64) = lN 1 from rfl, lN_sub (show 1 ≤ x by omega)]
      rw [show (lN 1 : Int64) = 1 from rfl]
      rw [ih N (m * 2) (x - 1) (by omega) (by omega) (by omega) (by rw [e2, Nat.pow_succ]; exact h1) (by rw [e2, Nat.pow_succ]; exact h2), e2, show x - 1 - k = x - (k + 1) by omega]
theorem mr_model {w : Bool} {p : Int64} {m h : Nat} (hh : h ≤ bF w) (h1 : 2 ^ h ≤ m) (h2 : m < 2 ^ (h + 1)) (hb : bE w + h < bQ w - 1) : L_made w p 53 (lN m) (((jLshl 1 ((mEx w) - 1)) - 3) + ((mFr w).toInt64)) = if 0 ≤ p then lN (rV w m h) else lN (bB w + rV w m h) := by
  obtain ⟨k1, k2, k3, k4, k5, k6, k7, k8, k9, k10, k11, k12⟩ := mq_k w
  obtain ⟨s1, s2⟩ := mr_span (w := w) hh h1 h2
  obtain ⟨v1, v2, v3⟩ := mr_V hh hb h1 h2
  have e1 : jLshl 1 (mFr w) = lN (bP w) := by cases w <;> decide
  have e2 : jLshl (lN (bE w + bF w - (bF w - h))) (mFr w) + (lN (m * 2 ^ (bF w - h)) - jLshl 1 (mFr w)) = lN (rV w m h) := by
    rw [e1, k12, mp_shl _ (by omega), lN_sub s1, lN_add, rV, show bE w + bF w - (bF w - h) = bE w + h by omega, Nat.mul_comm (bE w + h), k5]
  rw [k11, mr_loop w p (bF w - h) 53 m (bE w + bF w) (by omega) (by omega) (by omega) s1 s2, e2]
  by_cases c : 0 ≤ p
  · rw [if_pos c, if_pos c, show (0 : Int64) = lN 0 from rfl, fb_orL, Nat.or_zero]
  · rw [if_neg c, if_neg c, mo_sign, mo_sg0, Int64.or_comm]
    cases w
    · exact fb_or_sumL (k := 31) 1 v1
    · exact fb_or_sumL (k := 63) 1 v1
theorem mr_i64 {q : Int32} {m : Nat} (h : q.toInt = (m : Int)) : q.toInt64 = lN m := by
  apply Int64.toInt_inj.mp
  have := q.toInt_lt
  rw [Int32.toInt_toInt64, mo_toInt (by omega), h]
theorem mr_i64n {q : Int32} {m : Nat} (h : q.toInt = -(m : Int)) : -q.toInt64 = lN m := by
  apply Int64.toInt_inj.mp
  have := q.le_toInt
  rw [Int64.toInt_neg, Int32.toInt_toInt64, mo_toInt (by omega), h]
  rw [Int.bmod_eq_of_le (by omega) (by omega)]
  omega
theorem mr_i64le (q : Int32) : 0 ≤ q.toInt64 ↔ 0 ≤ q := by
  rw [Int64.le_iff_toInt_le, Int32.le_iff_toInt_le, Int32.toInt_toInt64]
  rfl
/-- a QUARTER's digits, by both; they are well -/
theorem mr_made {w : Bool} {q : Int32} (h1 : -(bD w : Int) ≤ q.toInt) (h2 : q.toInt ≤ bD w) : o_X4_made w q.toInt64 = o_X1_ofQuarters w q ∧ ∃ n, n < 2 * bB w ∧ o_X1_ofQuarters w q = lN n ∧ n / bP w % bQ w < bQ w - 1 := by
  obtain ⟨k1, k2, k3, k4, k5, k6, k7, k8, k9, k10, k11, k12⟩ := mq_k w
  obtain ⟨q1, q2, q3, q4, q5, q6⟩ := mp_q w
  have hw : bE w + bH w < bQ w - 1 := by cases w <;> decide
  have z0 : q = 0 ↔ q.toInt = 0 := by
    constructor
    · rintro rfl; decide
    · intro z; exact Int32.toInt_inj.mp (by rw [z]; decide)
  have z1 : q.toInt64 = 0 ↔ q = 0 := by
    rw [z0]
    constructor
    · intro z
      have := congrArg Int64.toInt z
      rw [Int32.toInt_toInt64] at this
      exact this
    · intro z; exact Int64.toInt_inj.mp (by rw [Int32.toInt_toInt64, z]; decide)
  rw [o_X4_made, o_X1_ofQuarters]
  by_cases c : q = 0
  · rw [if_pos (z1.mpr c), if_pos c]
    refine ⟨rfl, 0, by have := mo_bpos w; omega, rfl, ?_⟩
    rw [Nat.zero_div, Nat.zero_mod]
    omega
  · rw [if_neg (fun z => c (z1.mp z)), if_neg c]
    have hne : q.toInt ≠ 0 := fun z => c (z0.mpr z)
    have key : ∀ m : Nat, 0 < m → m ≤ bD w → ∃ h, o_X1_highestDigit (lN m) = nI h ∧ 2 ^ h ≤ m ∧ m < 2 ^ (h + 1) ∧ h ≤ bF w ∧ bE w + h < bQ w - 1 := by
      intro m a b
      obtain ⟨h, e, e1, e2⟩ := mr_high a (by omega)
      have : h ≤ bH w := by
        by_cases d : h ≤ bH w
        · exact d
        · have : 2 ^ (bH w + 1) ≤ 2 ^ h := Nat.pow_le_pow_right (by decide) (by omega)
          omega
      exact ⟨h, e, e1, e2, by omega, by omega⟩
    by_cases s : 0 ≤ q
    · have s2 : 0 ≤ q.toInt := by have := Int32.le_iff_toInt_le.mp s; exact this
      obtain ⟨m, hm⟩ : ∃ m : Nat, q.toInt = (m : Int) := ⟨q.toInt.toNat, by omega⟩
      obtain ⟨h, e, e1, e2, e3, e4⟩ := key m (by omega) (by omega)
      obtain ⟨v1, v2, v3⟩ := mr_V e3 e4 e1 e2
      rw [if_pos ((mr_i64le q).mpr s), if_pos s, mr_i64 hm, mr_model e3 e1 e2 e4, mr_class e (by omega) e3 e1 e2, if_pos (by rw [← mr_i64 hm]; exact (mr_i64le q).mpr s)]
      exact ⟨rfl, rV w m h, by omega, rfl, by rw [v2, Nat.mod_eq_of_lt (by omega)]; exact e4⟩
    · have s2 : ¬ 0 ≤ q.toInt := fun z => s (Int32.le_iff_toInt_le.mpr z)
      obtain ⟨m, hm⟩ : ∃ m : Nat, q.toInt = -(m : Int) := ⟨(-q.toInt).toNat, by omega⟩
      obtain ⟨h, e, e1, e2, e3, e4⟩ := key m (by omega) (by omega)
      obtain ⟨v1, v2, v3⟩ := mr_V e3 e4 e1 e2
      rw [if_neg (fun z => s ((mr_i64le q).mp z)), if_neg s, mr_i64n hm, mr_model e3 e1 e2 e4, mr_class e (by omega) e3 e1 e2, if_neg (fun z => s ((mr_i64le q).mp z))]
      have eo : wSg w ||| lN (rV w m h) = lN (bB w + rV w m h) := by
        rw [mo_sg0]
        cases w
        · exact fb_or_sumL (k := 31) 1 v1
        · exact fb_or_sumL (k := 63) 1 v1
      rw [eo]
      refine ⟨rfl, bB w + rV w m h, by omega, rfl, ?_⟩
      have e5 : (bB w + rV w m h) / bP w = bQ w + rV w m h / bP w := by
        rw [← q5, Nat.mul_comm (bQ w), Nat.mul_add_div q3]
      rw [e5, v2, Nat.add_mod_left, Nat.mod_eq_of_lt (by omega)]
      exact e4
