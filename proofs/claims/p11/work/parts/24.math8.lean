/-! one row's readers answer as the model's -/
theorem mf_half (d : Int64) : (jLshr d 32).toInt32 = (jLushr d 32).toInt32 := by
  obtain ⟨n, hn, rfl⟩ := wb_of d
  have e1 : jLushr (lN n) 32 = lN (n / 2 ^ 32) := mp_ushr (k := 32) hn (by decide)
  have e2 : (jLshr (lN n) 32).toInt = (lN n).toInt >>> (((nI 32).toInt64 &&& 63).toBitVec.smod 64).toNat := BitVec.toInt_sshiftRight ..
  have e3 : (((nI 32).toInt64 &&& 63).toBitVec.smod 64).toNat = 32 := by decide
  rw [e3, Int.shiftRight_eq_div_pow] at e2
  have e4 : (lN n).toInt = (n : Int) ∨ (lN n).toInt = (n : Int) - 18446744073709551616 := by
    have : (lN n).toInt = (BitVec.ofNat 64 n).toInt := rfl
    rw [this, BitVec.toInt_eq_toNat_cond, BitVec.toNat_ofNat, Nat.mod_eq_of_lt hn]
    split
    · exact Or.inl rfl
    · exact Or.inr rfl
  apply Int32.toInt_inj.mp
  rw [Int64.toInt_toInt32, Int64.toInt_toInt32, e1, e2, mo_toInt (show n / 2 ^ 32 < 9223372036854775808 by omega)]
  rw [Int.bmod_def, Int.bmod_def]
  rcases e4 with e | e <;> rw [e] <;> split <;> split <;> omega
theorem mf_zero {w : Bool} {x y : Int64} (hx : okN w x) (hy : okN w y) : o_X1_order w x y = 0 ↔ x = y := by
  rw [mo_ord]
  by_cases c : (o_X1_standing w x).toInt < (o_X1_standing w y).toInt
  · rw [if_pos c]
    exact ⟨fun z => absurd z (by decide), fun z => by rw [z] at c; omega⟩
  · rw [if_neg c]
    by_cases d : (o_X1_standing w y).toInt < (o_X1_standing w x).toInt
    · rw [if_pos d]
      exact ⟨fun z => absurd z (by decide), fun z => by rw [z] at d; omega⟩
    · rw [if_neg d]
      exact ⟨fun _ => mo_st_inj hx hy (by omega), fun _ => rfl⟩
theorem mf_order {w : Bool} {f : Nat → Int64} (p q s : Int32) (h : okA w f) : o_X5_order w f p q s = ((o_X0_order w f p q s).2, (o_X0_order w f p q s).1) := by
  rw [o_X5_order, o_X0_order, me_areNo]
  rcases me_choice s 2 with ⟨s1, s2⟩ | ⟨s1, s2⟩ <;> rcases me_cell p with ⟨c1, c2, c3⟩ | ⟨c1, c2⟩ <;> rcases me_cell q with ⟨d1, d2, d3⟩ | ⟨d1, d2⟩ <;> simp only [s1, s2, c1, c2, d1, d2, me_f1, me_f2, me_f3, Bool.or_true, Bool.or_false, if_pos, if_neg me_10, if_neg me_20, if_neg me_ft]
  rw [mo_order (me_at h c3).1 (me_at h d3).1]
theorem mf_same {w : Bool} {f : Nat → Int64} (p q s : Int32) (h : okA w f) : o_X5_same f p q s = ((o_X0_areSame w f p q s).2, (o_X0_areSame w f p q s).1) := by
  rw [o_X5_same, o_X0_areSame, o_X0_order, me_areNo]
  rcases me_choice s 2 with ⟨s1, s2⟩ | ⟨s1, s2⟩ <;> rcases me_cell p with ⟨c1, c2, c3⟩ | ⟨c1, c2⟩ <;> rcases me_cell q with ⟨d1, d2, d3⟩ | ⟨d1, d2⟩ <;> simp only [s1, s2, c1, c2, d1, d2, me_f1, me_f2, me_f3, Bool.or_true, Bool.or_false, if_pos, if_neg me_10, if_neg me_20, if_neg me_ft]
  by_cases z : f p.toNatClampNeg = f q.toNatClampNeg
  · rw [if_pos z, if_pos ((mf_zero (me_at h c3).1 (me_at h d3).1).mpr z)]
  · rw [if_neg z, if_neg (fun y => z ((mf_zero (me_at h c3).1 (me_at h d3).1).mp y))]
theorem mf_other (p q : Int32) : o_X5_other p q = ((o_X0_isEqualToOther p q).2, (o_X0_isEqualToOther p q).1) := by
  rw [o_X5_other, o_X0_isEqualToOther]
  rcases me_choice q 3 with ⟨s1, s2⟩ | ⟨s1, s2⟩ <;> rcases me_cell p with ⟨c1, c2, c3⟩ | ⟨c1, c2⟩ <;> simp only [s1, s2, c1, c2, me_f1, me_f2, me_f3, if_pos, if_neg me_10, if_neg me_20, if_neg me_ft]
theorem mf_areLike {w : Bool} {x y : Int64} (hx : okN w x) (hy : okN w y) : o_X5_areLike w x y = o_X1_areLike w x y := by
  rw [o_X5_areLike, o_X1_areLike, mo_value hx, mo_value hy]
theorem mf_if (b : Bool) {α : Type} (x y : α) (h : b = true → x = y) : (if b = true then x else y) = y := by
  by_cases c : b = true
  · rw [if_pos c]; exact h c
  · rw [if_neg c]
theorem mf_tf (b : Bool) (c : Int32) : (if b = true then (true, c) else (false, c)) = (b, c) := by cases b <;> rfl
theorem mf_tf2 (b : Bool) (c : Int32) : (if b = true then (c, true) else (c, false)) = (c, b) := by cases b <;> rfl
theorem mf_like {w : Bool} {f : Nat → Int64} (p q : Int32) (h : okA w f) : o_X5_like w f p q = ((o_X0_areLike w f p q).2, (o_X0_areLike w f p q).1) := by
  rw [o_X5_like, o_X0_areLike, me_areNo]
  rcases me_cell p with ⟨c1, c2, c3⟩ | ⟨c1, c2⟩ <;> rcases me_cell q with ⟨d1, d2, d3⟩ | ⟨d1, d2⟩ <;> simp only [c1, c2, d1, d2, me_f1, me_f2, me_f3, Bool.or_true, Bool.or_false, if_pos, if_neg me_10, if_neg me_20, if_neg me_ft]
  rw [mf_areLike (me_at h c3).1 (me_at h d3).1, mf_tf]
theorem mf_below {w : Bool} {f : Nat → Int64} (p q : Int32) (b : Bool) (h : okA w f) : o_X5_below w f p q b = ((o_X0_isBelow w f p q b).2, (o_X0_isBelow w f p q b).1) := by
  rw [o_X5_below, o_X0_isBelow, me_areNo]
  rcases me_cell p with ⟨c1, c2, c3⟩ | ⟨c1, c2⟩ <;> rcases me_cell q with ⟨d1, d2, d3⟩ | ⟨d1, d2⟩ <;> simp only [c1, c2, d1, d2, me_f1, me_f2, me_f3, Bool.or_true, Bool.or_false, if_pos, if_neg me_10, if_neg me_20, if_neg me_ft]
  rw [o_X1_isBelow, o_X1_areLike, mo_value (me_at h c3).1, mo_value (me_at h d3).1]
  by_cases z : o_X1_rank w (f q.toNatClampNeg) ≤ o_X1_rank w (f p.toNatClampNeg)
  · rw [if_pos z, if_neg me_ft, if_neg (fun y => by
      have y := Int64.lt_iff_toInt_lt.mp y
      have z := Int64.le_iff_toInt_le.mp z
      omega)]
    by_cases e : b = true
    · rw [if_pos e, if_pos e]
      by_cases g : o_X1_rank w (f p.toNatClampNeg) = o_X1_rank w (f q.toNatClampNeg)
      · rw [if_pos g, if_pos g, if_pos rfl]
      · rw [if_neg g, if_neg g, if_neg me_ft]
    · rw [if_neg e, if_neg e]
  · have y : o_X1_rank w (f p.toNatClampNeg) < o_X1_rank w (f q.toNatClampNeg) := Int64.lt_iff_toInt_lt.mpr (Int.not_le.mp (fun y => z (Int64.le_iff_toInt_le.mpr y)))
    rw [if_neg z, if_pos y, if_pos rfl]
theorem mf_hashW {f : Nat → Int64} (p s : Int32) : (if (o_X5_isIn s 0 1) = true then (if (o_X5_fails (o_X5_isNo p) false).1 = true then (0, (o_X5_fails (o_X5_isNo p) false).2) else ((o_X5_hashOf f p), (o_X5_fails (o_X5_isNo p) false).2)) else if (o_X5_fails (o_X5_isNo p) true).1 = true then (0, (o_X5_fails (o_X5_isNo p) true).2) else ((o_X5_hashOf f p), (o_X5_fails (o_X5_isNo p) true).2)) = ((o_X0_hash f p s).2, (o_X0_hash f p s).1) := by
  rw [o_X0_hash]
  rcases me_choice s 1 with ⟨s1, s2⟩ | ⟨s1, s2⟩ <;> rcases me_cell p with ⟨c1, c2, c3⟩ | ⟨c1, c2⟩ <;> simp only [s1, s2, c1, c2, me_f1, me_f2, me_f3, if_pos, if_neg me_10, if_neg me_20, if_neg me_ft]
  rw [o_X5_hashOf, o_X1_hash, mf_half]
theorem mf_hash0 {d : Int64} (h : okN false d) : o_X1_hash d = d.toInt32 := by
  obtain ⟨n, hn, rfl⟩ := mo_of h
  have hn : n < 4294967296 := hn
  have e1 : jLushr (lN n) 32 = lN (n / 2 ^ 32) := mp_ushr (k := 32) (by omega) (by decide)
  rw [o_X1_hash, e1, Nat.div_eq_of_lt (by omega)]
  exact Int32.zero_xor
theorem mf_hashN {f : Nat → Int64} (p s : Int32) (h : okA false f) : o_X5_narrowHash f p s = ((o_X0_hash f p s).2, (o_X0_hash f p s).1) := by
  rw [o_X0_hash, o_X5_narrowHash]
  rcases me_choice s 1 with ⟨s1, s2⟩ | ⟨s1, s2⟩ <;> rcases me_cell p with ⟨c1, c2, c3⟩ | ⟨c1, c2⟩ <;> simp only [s1, s2, c1, c2, me_f1, me_f2, me_f3, if_pos, if_neg me_10, if_neg me_20, if_neg me_ft]
  rw [mf_hash0 (me_at h c3).1]
theorem mf_endless {w : Bool} {f : Nat → Int64} (p s : Int32) (h : okA w f) : o_X5_endless w f p s = ((o_X0_isEndless w f p s).2, (o_X0_isEndless w f p s).1) := by
  rw [o_X5_endless, o_X0_isEndless]
  rcases me_choice s 2 with ⟨s1, s2⟩ | ⟨s1, s2⟩ <;> rcases me_cell p with ⟨c1, c2, c3⟩ | ⟨c1, c2⟩ <;> simp only [s1, s2, c1, c2, me_f1, me_f2, me_f3, if_pos, if_neg me_10, if_neg me_20, if_neg me_ft]
  rw [mp_endless (me_at h c3).1, mf_tf]
theorem mf_count {w : Bool} {f : Nat → Int64} (p : Int32) (h : okA w f) : o_X5_count w f p = ((o_X0_quarters w f p).2, (o_X0_quarters w f p).1) := by
  rw [o_X5_count, o_X0_quarters]
  rcases me_cell p with ⟨c1, c2, c3⟩ | ⟨c1, c2⟩ <;> simp only [c1, c2, me_f1, me_f2, me_f3, if_pos, if_neg me_10, if_neg me_20, if_neg me_ft]
  rw [mq_count (me_at h c3).1]
theorem mf_find {f : Nat → Int64} (p : Int32) (b : Bool) : o_X5_find f p b = ((o_X0_find f p b).2, (o_X0_find f p b).1) := by
  rw [o_X5_find, o_X0_find]
  rcases me_cell p with ⟨c1, c2, c3⟩ | ⟨c1, c2⟩ <;> simp only [c1, c2, me_f1, me_f2, me_f3, if_pos, if_neg me_10, if_neg me_20, if_neg me_ft]
  rw [ms_find c3]
theorem mf_has0 {w : Bool} {f : Nat → Int64} {p : Int32} : ∀ (n i : Nat), (L_xhas w f p n i).1 = 0 := by
  intro n
  induction n with
  | zero => intro i; rw [L_xhas]
  | succ n ih =>
    intro i
    rw [L_xhas]
    split
    · rfl
    · exact ih _
theorem mf_has {w : Bool} {f : Nat → Int64} (p : Int32) : o_X5_has w f p = ((o_X0_has w f p).2, mc1 (o_X0_has w f p).1) := by
  rw [o_X5_has, o_X0_has]
  rcases me_choice p 6 with ⟨s1, s2⟩ | ⟨s1, s2⟩ <;> simp only [s1, s2, me_f1, me_f2, me_f3, if_pos, if_neg me_10, if_neg me_20, if_neg me_ft]
  · rw [mf_has0, mc1, if_pos rfl]
    have g := ms_has (w := w) (f := f) (p := p)
    by_cases z : o_X4_find f (o_X4_known w p) false < 0
    · have : ¬ (L_xhas w f p 8 0).2 = true := fun y => by
        have y := Int32.le_iff_toInt_le.mp (g.mp y)
        have z := Int32.lt_iff_toInt_lt.mp z
        omega
      rw [if_pos z, Bool.eq_false_iff.mpr this]
    · have : (L_xhas w f p 8 0).2 = true := g.mpr (Int32.le_iff_toInt_le.mpr (Int.not_lt.mp (fun y => z (Int32.lt_iff_toInt_lt.mpr y))))
      rw [if_neg z, this]
  · rw [mc1, if_neg me_20]
theorem mf_house (a1 r1 a2 r2 kn p : Int32) : o_X5_house a1 a2 (r1 + r2) kn p = ((o_X2_house a1 r1 a2 r2 kn p).2, mc1 (o_X2_house a1 r1 a2 r2 kn p).1) := by
  rw [o_X5_house, o_X2_house]
  rcases me_choice p 3 with ⟨s1, s2⟩ | ⟨s1, s2⟩ <;> simp only [s1, s2, me_f1, me_f2, me_f3, if_pos, if_neg me_10, if_neg me_20, if_neg me_ft]
  · rfl
  · rw [mc1, if_neg me_20]
