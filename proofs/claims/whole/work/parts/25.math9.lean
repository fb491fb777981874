/-! the law's wrapped calls of the class against the model: code, cells, answer (printed by gen_e.py) -/
theorem me_21 : ¬ (2 : Int32) = 1 := by decide
noncomputable def Sh {α : Type} (X : Int32 × α) (t : α) : Prop := X.1 = 0 ∨ X = (1, t) ∨ X = (2, t)
theorem sh_ite {α : Type} {X Y : Int32 × α} {t : α} {c : Prop} [Decidable c] (h1 : Sh X t) (h2 : Sh Y t) : Sh (if c then X else Y) t := by
  by_cases z : c
  · rw [if_pos z]; exact h1
  · rw [if_neg z]; exact h2
theorem sh_cell {α : Type} {p : Int32} {t : α} : Sh (o_X2_checkCell p, t) t := by
  rcases me_cell p with ⟨z, _⟩ | ⟨z, _⟩
  · exact Or.inl z
  · rw [z]; exact Or.inr (Or.inl rfl)
theorem sh_choice {α : Type} {p n : Int32} {t : α} : Sh (o_X2_checkChoice p n, t) t := by
  rcases me_choice p n with ⟨z, _⟩ | ⟨z, _⟩
  · exact Or.inl z
  · rw [z]; exact Or.inr (Or.inr rfl)
theorem sh_cells {α : Type} {p q s : Int32} {t : α} : Sh (o_X0_checkCells p q s, t) t := by
  rcases me_cells p q s with ⟨z, _⟩ | ⟨z, _⟩
  · exact Or.inl z
  · rw [z]; exact Or.inr (Or.inl rfl)
theorem sh_0 {α : Type} {x t : α} : Sh ((0 : Int32), x) t := Or.inl rfl
noncomputable def S1 {α : Type} (X : Int32 × α) (t : α) : Prop := X.1 = 0 ∨ X = (1, t)
theorem s1_ite {α : Type} {X Y : Int32 × α} {t : α} {c : Prop} [Decidable c] (h1 : S1 X t) (h2 : S1 Y t) : S1 (if c then X else Y) t := by
  by_cases z : c
  · rw [if_pos z]; exact h1
  · rw [if_neg z]; exact h2
theorem s1_cell {α : Type} {p : Int32} {t : α} : S1 (o_X2_checkCell p, t) t := by
  rcases me_cell p with ⟨z, _⟩ | ⟨z, _⟩
  · exact Or.inl z
  · rw [z]; exact Or.inr rfl
theorem s1_cells {α : Type} {p q s : Int32} {t : α} : S1 (o_X0_checkCells p q s, t) t := by
  rcases me_cells p q s with ⟨z, _⟩ | ⟨z, _⟩
  · exact Or.inl z
  · rw [z]; exact Or.inr rfl
theorem s1_0 {α : Type} {x t : α} : S1 ((0 : Int32), x) t := Or.inl rfl
theorem sh_2 {α : Type} {t : α} : Sh ((2 : Int32), t) t := Or.inr (Or.inr rfl)
theorem sh_put (w : Bool) (a : Int32) (r : Int32) (f : Nat → Int64) (p : Int32) (x : Int64) : S1 (o_X0_put w a r f p x) (0, a, r, f) := by
  rw [o_X0_put]
  repeat' apply s1_ite
  all_goals first | exact s1_0 | exact s1_cell | exact s1_cells
theorem sh_putQuarters (w : Bool) (a : Int32) (f : Nat → Int64) (p : Int32) (q : Int32) : Sh (o_X0_putQuarters w a f p q) (0, a, f) := by
  rw [o_X0_putQuarters]
  repeat' apply sh_ite
  all_goals first | exact sh_0 | exact sh_cell | exact sh_choice | exact sh_cells | exact sh_2
theorem sh_putKnown (w : Bool) (a : Int32) (f : Nat → Int64) (p : Int32) (q : Int32) : Sh (o_X0_putKnown w a f p q) (0, a, f) := by
  rw [o_X0_putKnown]
  repeat' apply sh_ite
  all_goals first | exact sh_0 | exact sh_cell | exact sh_choice | exact sh_cells | exact sh_2
theorem sh_copy (a : Int32) (f : Nat → Int64) (p : Int32) (q : Int32) : S1 (o_X0_copy a f p q) (0, a, f) := by
  rw [o_X0_copy]
  repeat' apply s1_ite
  all_goals first | exact s1_0 | exact s1_cell | exact s1_cells
theorem sh_swap (a : Int32) (f : Nat → Int64) (p : Int32) (q : Int32) : S1 (o_X0_swap a f p q) (0, a, f) := by
  rw [o_X0_swap]
  repeat' apply s1_ite
  all_goals first | exact s1_0 | exact s1_cell | exact s1_cells
theorem sh_putGreater (w : Bool) (a : Int32) (f : Nat → Int64) (p : Int32) (q : Int32) (s : Int32) : S1 (o_X0_putGreater w a f p q s) (0, a, f) := by
  rw [o_X0_putGreater]
  repeat' apply s1_ite
  all_goals first | exact s1_0 | exact s1_cell | exact s1_cells
theorem sh_putLesser (w : Bool) (a : Int32) (f : Nat → Int64) (p : Int32) (q : Int32) (s : Int32) : S1 (o_X0_putLesser w a f p q s) (0, a, f) := by
  rw [o_X0_putLesser]
  repeat' apply s1_ite
  all_goals first | exact s1_0 | exact s1_cell | exact s1_cells
theorem sh_putSum (w : Bool) (a : Int32) (r : Int32) (f : Nat → Int64) (p : Int32) (q : Int32) (s : Int32) : S1 (o_X0_putSum w a r f p q s) (0, a, r, f) := by
  rw [o_X0_putSum]
  repeat' apply s1_ite
  all_goals first | exact s1_0 | exact s1_cell | exact s1_cells
theorem sh_sort (w : Bool) (a : Int32) (f : Nat → Int64) (g : Nat → Int64) (p : Int32) : Sh (o_X0_sort w a f g p) (0, a, f, g) := by
  rw [o_X0_sort]
  repeat' apply sh_ite
  all_goals first | exact sh_0 | exact sh_cell | exact sh_choice | exact sh_cells | exact sh_2
theorem sh_putEnd (w : Bool) (a : Int32) (f : Nat → Int64) (b : Bool) (p : Int32) : S1 (o_X0_putEnd w a f b p) (0, a, f) := by
  rw [o_X0_putEnd]
  repeat' apply s1_ite
  all_goals first | exact s1_0 | exact s1_cell | exact s1_cells
theorem sh_firstHalf (f : Nat → Int64) (p : Int32) : S1 (o_X0_firstHalf f p) (0) := by
  rw [o_X0_firstHalf]
  repeat' apply s1_ite
  all_goals first | exact s1_0 | exact s1_cell | exact s1_cells
theorem sh_lastHalf (f : Nat → Int64) (p : Int32) : S1 (o_X0_lastHalf f p) (0) := by
  rw [o_X0_lastHalf]
  repeat' apply s1_ite
  all_goals first | exact s1_0 | exact s1_cell | exact s1_cells
theorem sh_order (w : Bool) (f : Nat → Int64) (p : Int32) (q : Int32) (s : Int32) : Sh (o_X0_order w f p q s) (0) := by
  rw [o_X0_order]
  repeat' apply sh_ite
  all_goals first | exact sh_0 | exact sh_cell | exact sh_choice | exact sh_cells | exact sh_2
theorem sh_areSame (w : Bool) (f : Nat → Int64) (p : Int32) (q : Int32) (s : Int32) : Sh (o_X0_areSame w f p q s) (false) := by
  rw [o_X0_areSame]
  repeat' apply sh_ite
  all_goals first | exact sh_0 | exact sh_cell | exact sh_choice | exact sh_cells | exact sh_2 | (rcases sh_order w f p q s with z | z | z <;> rw [Sh, z] <;> simp)
theorem sh_isEqualToOther (p : Int32) (q : Int32) : Sh (o_X0_isEqualToOther p q) (false) := by
  rw [o_X0_isEqualToOther]
  repeat' apply sh_ite
  all_goals first | exact sh_0 | exact sh_cell | exact sh_choice | exact sh_cells | exact sh_2
theorem sh_areLike (w : Bool) (f : Nat → Int64) (p : Int32) (q : Int32) : S1 (o_X0_areLike w f p q) (false) := by
  rw [o_X0_areLike]
  repeat' apply s1_ite
  all_goals first | exact s1_0 | exact s1_cell | exact s1_cells
theorem sh_isBelow (w : Bool) (f : Nat → Int64) (p : Int32) (q : Int32) (b : Bool) : S1 (o_X0_isBelow w f p q b) (false) := by
  rw [o_X0_isBelow]
  repeat' apply s1_ite
  all_goals first | exact s1_0 | exact s1_cell | exact s1_cells
theorem sh_hash (f : Nat → Int64) (p : Int32) (s : Int32) : Sh (o_X0_hash f p s) (0) := by
  rw [o_X0_hash]
  repeat' apply sh_ite
  all_goals first | exact sh_0 | exact sh_cell | exact sh_choice | exact sh_cells | exact sh_2
theorem sh_isEndless (w : Bool) (f : Nat → Int64) (p : Int32) (s : Int32) : Sh (o_X0_isEndless w f p s) (false) := by
  rw [o_X0_isEndless]
  repeat' apply sh_ite
  all_goals first | exact sh_0 | exact sh_cell | exact sh_choice | exact sh_cells | exact sh_2
theorem sh_quarters (w : Bool) (f : Nat → Int64) (p : Int32) : S1 (o_X0_quarters w f p) (0) := by
  rw [o_X0_quarters]
  repeat' apply s1_ite
  all_goals first | exact s1_0 | exact s1_cell | exact s1_cells
theorem sh_find (f : Nat → Int64) (p : Int32) (b : Bool) : S1 (o_X0_find f p b) (0) := by
  rw [o_X0_find]
  repeat' apply s1_ite
  all_goals first | exact s1_0 | exact s1_cell | exact s1_cells
theorem sh_has (w : Bool) (f : Nat → Int64) (p : Int32) : Sh (o_X0_has w f p) (false) := by
  rw [o_X0_has]
  repeat' apply sh_ite
  all_goals first | exact sh_0 | exact sh_cell | exact sh_choice | exact sh_cells | exact sh_2 | exact Or.inl (mf_has0 _ _)
theorem me_bf : (false = true) = False := by simp
theorem me_okN1 (x : Int64) : okN true x := fun z => absurd z (by decide)
theorem me_okN2 (q : Int32) : okN false (q.toInt64 &&& 4294967295) := by
  obtain ⟨n, hn, e⟩ := wb_of q.toInt64
  have e1 : q.toInt64 &&& 4294967295 = lN (n % 2 ^ 32) := by
    rw [e]; exact fb_maskL n 32
  intro _
  rw [e1, mo_toInt (by omega)]
  omega
theorem mf_upper {f : Nat → Int64} (p : Int32) : o_X5_upper f p = ((o_X0_firstHalf f p).2, (o_X0_firstHalf f p).1) := by
  rw [o_X5_upper, o_X0_firstHalf]
  rcases me_cell p with ⟨c1, c2, c3⟩ | ⟨c1, c2⟩ <;> simp only [c1, c2, me_f1, me_f2, me_f3, if_pos, if_neg me_10, if_neg me_20, if_neg me_ft]
  rw [mf_half]
theorem mf_lower {f : Nat → Int64} (p : Int32) : o_X5_lower f p = ((o_X0_lastHalf f p).2, (o_X0_lastHalf f p).1) := by
  rw [o_X5_lower, o_X0_lastHalf]
  rcases me_cell p with ⟨c1, c2, c3⟩ | ⟨c1, c2⟩ <;> simp only [c1, c2, me_f1, me_f2, me_f3, if_pos, if_neg me_10, if_neg me_20, if_neg me_ft]
theorem ml_putWide (a r r' : Int32) {f : Nat → Int64} (nv : Int64) (p : Int32) (u : Int32) (v : Int32) (h : okA true f) : (o_L_putWide a r f nv p u v).1 = (o_X5_putWide a f (r + r') p u v).2.2.2.1 ∧ (o_L_putWide a r f nv p u v).2.1 = (o_X5_putWide a f (r + r') p u v).2.1 ∧ (o_L_putWide a r f nv p u v).2.2.1 + r' = (o_X5_putWide a f (r + r') p u v).2.2.2.2 ∧ (o_L_putWide a r f nv p u v).2.2.2.1 = (o_X5_putWide a f (r + r') p u v).2.2.1 ∧ (o_L_putWide a r f nv p u v).2.2.2.2 = (if (o_X5_putWide a f (r + r') p u v).2.2.2.1 = 0 then (o_X5_putWide a f (r + r') p u v).1.toInt64 else nv) ∧ okA true (o_X5_putWide a f (r + r') p u v).2.2.1 := by
  have e : o_X5_putWide a f (r + r') p u v = _ := me_put a r r' f p (me_okN1 _)
  rw [e]
  refine ⟨?_, ?_, ?_, ?_, ?_, me_putV a r p (me_okN1 _) h⟩ <;> rw [o_L_putWide, o_X2_putWide] <;> rcases sh_put true a r f p ((jLshl u.toInt64 32) ||| (v.toInt64 &&& 4294967295)) with z | z <;> simp only [z, me_10, me_20, me_21, if_true, if_false, eq_self, reduceIte]
theorem ml_wideQuarters (a : Int32) {f : Nat → Int64} (nv : Int64) (p : Int32) (q : Int32) (h : okA true f) : o_L_wideQuarters a f nv p q = ((o_X5_wideQuarters a f p q).2.2.2, (o_X5_wideQuarters a f p q).2.1, (o_X5_wideQuarters a f p q).2.2.1, if (o_X5_wideQuarters a f p q).2.2.2 = 0 then (o_X5_wideQuarters a f p q).1.toInt64 else nv) ∧ okA true (o_X5_wideQuarters a f p q).2.2.1 := by
  have e : o_X5_wideQuarters a f p q = _ := (me_quarters a p q h).1
  rw [e]
  refine ⟨?_, (me_quarters a p q h).2⟩
  rw [o_L_wideQuarters, o_X2_wideQuarters]
  rcases sh_putQuarters true a f p q with z | z | z <;> simp only [z, me_10, me_20, me_21, if_true, if_false, eq_self, reduceIte]
theorem ml_wideKnown (a : Int32) {f : Nat → Int64} (nv : Int64) (p : Int32) (q : Int32) (h : okA true f) : o_L_wideKnown a f nv p q = ((o_X5_wideKnown a f p q).2.2.2, (o_X5_wideKnown a f p q).2.1, (o_X5_wideKnown a f p q).2.2.1, if (o_X5_wideKnown a f p q).2.2.2 = 0 then (o_X5_wideKnown a f p q).1.toInt64 else nv) ∧ okA true (o_X5_wideKnown a f p q).2.2.1 := by
  have e : o_X5_wideKnown a f p q = _ := (me_known a p q h).1
  rw [e]
  refine ⟨?_, (me_known a p q h).2⟩
  rw [o_L_wideKnown, o_X2_wideKnown]
  rcases sh_putKnown true a f p q with z | z | z <;> simp only [z, me_10, me_20, me_21, if_true, if_false, eq_self, reduceIte]
theorem ml_wideCopy (a : Int32) {f : Nat → Int64} (nv : Int64) (p : Int32) (q : Int32) (h : okA true f) : o_L_wideCopy a f nv p q = ((o_X5_wideCopy a f p q).2.2.2, (o_X5_wideCopy a f p q).2.1, (o_X5_wideCopy a f p q).2.2.1, if (o_X5_wideCopy a f p q).2.2.2 = 0 then (o_X5_wideCopy a f p q).1.toInt64 else nv) ∧ okA true (o_X5_wideCopy a f p q).2.2.1 := by
  have e : o_X5_wideCopy a f p q = _ := (me_copy a p q h).1
  rw [e]
  refine ⟨?_, (me_copy a p q h).2⟩
  rw [o_L_wideCopy, o_X2_wideCopy]
  rcases sh_copy a f p q with z | z <;> simp only [z, me_10, me_20, me_21, if_true, if_false, eq_self, reduceIte]
theorem ml_wideSwap (a : Int32) {f : Nat → Int64} (nv : Int64) (p : Int32) (q : Int32) (h : okA true f) : o_L_wideSwap a f nv p q = ((o_X5_wideSwap a f p q).2.2.2, (o_X5_wideSwap a f p q).2.1, (o_X5_wideSwap a f p q).2.2.1, if (o_X5_wideSwap a f p q).2.2.2 = 0 then (o_X5_wideSwap a f p q).1.toInt64 else nv) ∧ okA true (o_X5_wideSwap a f p q).2.2.1 := by
  have e : o_X5_wideSwap a f p q = _ := (me_swap a p q h).1
  rw [e]
  refine ⟨?_, (me_swap a p q h).2⟩
  rw [o_L_wideSwap, o_X2_wideSwap]
  rcases sh_swap a f p q with z | z <;> simp only [z, me_10, me_20, me_21, if_true, if_false, eq_self, reduceIte]
theorem ml_wideMax (a : Int32) {f : Nat → Int64} (nv : Int64) (p : Int32) (q : Int32) (s : Int32) (h : okA true f) : o_L_wideMax a f nv p q s = ((o_X5_wideMax a f p q s).2.2.2, (o_X5_wideMax a f p q s).2.1, (o_X5_wideMax a f p q s).2.2.1, if (o_X5_wideMax a f p q s).2.2.2 = 0 then (o_X5_wideMax a f p q s).1.toInt64 else nv) ∧ okA true (o_X5_wideMax a f p q s).2.2.1 := by
  have e : o_X5_wideMax a f p q s = _ := (me_max a p q s h).1
  rw [e]
  refine ⟨?_, (me_max a p q s h).2⟩
  rw [o_L_wideMax, o_X2_wideMax]
  rcases sh_putGreater true a f p q s with z | z <;> simp only [z, me_10, me_20, me_21, if_true, if_false, eq_self, reduceIte]
theorem ml_wideMin (a : Int32) {f : Nat → Int64} (nv : Int64) (p : Int32) (q : Int32) (s : Int32) (h : okA true f) : o_L_wideMin a f nv p q s = ((o_X5_wideMin a f p q s).2.2.2, (o_X5_wideMin a f p q s).2.1, (o_X5_wideMin a f p q s).2.2.1, if (o_X5_wideMin a f p q s).2.2.2 = 0 then (o_X5_wideMin a f p q s).1.toInt64 else nv) ∧ okA true (o_X5_wideMin a f p q s).2.2.1 := by
  have e : o_X5_wideMin a f p q s = _ := (me_min a p q s h).1
  rw [e]
  refine ⟨?_, (me_min a p q s h).2⟩
  rw [o_L_wideMin, o_X2_wideMin]
  rcases sh_putLesser true a f p q s with z | z <;> simp only [z, me_10, me_20, me_21, if_true, if_false, eq_self, reduceIte]
theorem ml_wideSum (a r r' : Int32) {f : Nat → Int64} (nv : Int64) (p : Int32) (q : Int32) (s : Int32) (h : okA true f) : (o_L_wideSum a r f nv p q s).1 = (o_X5_wideSum a f (r + r') p q s).2.2.2.1 ∧ (o_L_wideSum a r f nv p q s).2.1 = (o_X5_wideSum a f (r + r') p q s).2.1 ∧ (o_L_wideSum a r f nv p q s).2.2.1 + r' = (o_X5_wideSum a f (r + r') p q s).2.2.2.2 ∧ (o_L_wideSum a r f nv p q s).2.2.2.1 = (o_X5_wideSum a f (r + r') p q s).2.2.1 ∧ (o_L_wideSum a r f nv p q s).2.2.2.2 = (if (o_X5_wideSum a f (r + r') p q s).2.2.2.1 = 0 then (o_X5_wideSum a f (r + r') p q s).1.toInt64 else nv) ∧ okA true (o_X5_wideSum a f (r + r') p q s).2.2.1 := by
  have e : o_X5_wideSum a f (r + r') p q s = _ := (me_sum a r r' p q s h).1
  rw [e]
  refine ⟨?_, ?_, ?_, ?_, ?_, (me_sum a r r' p q s h).2⟩ <;> rw [o_L_wideSum, o_X2_wideSum] <;> rcases sh_putSum true a r f p q s with z | z <;> simp only [z, me_10, me_20, me_21, if_true, if_false, eq_self, reduceIte]
theorem ml_wideSort (a : Int32) {f : Nat → Int64} (g : Nat → Int64) (nv : Int64) (p : Int32) (h : okA true f) : (o_L_wideSort a f g nv p).1 = (o_X5_wideSort a f p).2.2.2 ∧ (o_L_wideSort a f g nv p).2.1 = (o_X5_wideSort a f p).2.1 ∧ (o_L_wideSort a f g nv p).2.2.1 = (o_X5_wideSort a f p).2.2.1 ∧ (o_L_wideSort a f g nv p).2.2.2.2 = (if (o_X5_wideSort a f p).2.2.2 = 0 then (o_X5_wideSort a f p).1.toInt64 else nv) ∧ okA true (o_X5_wideSort a f p).2.2.1 := by
  have e : o_X5_wideSort a f p = _ := (me_sort a g p h).1
  rw [e]
  refine ⟨?_, ?_, ?_, ?_, (me_sort a g p h).2⟩ <;> rw [o_L_wideSort, o_X2_wideSort] <;> rcases sh_sort true a f g p with z | z | z <;> simp only [z, mc1, me_10, me_20, me_21, if_true, if_false, eq_self, reduceIte]
theorem ml_wideEnd (a : Int32) {f : Nat → Int64} (nv : Int64) (b : Bool) (p : Int32) (h : okA true f) : o_L_wideEnd a f nv b p = ((o_X5_wideEnd a f b p).2.2.2, (o_X5_wideEnd a f b p).2.1, (o_X5_wideEnd a f b p).2.2.1, if (o_X5_wideEnd a f b p).2.2.2 = 0 then (o_X5_wideEnd a f b p).1.toInt64 else nv) ∧ okA true (o_X5_wideEnd a f b p).2.2.1 := by
  have e : o_X5_wideEnd a f b p = _ := (me_end a b p h).1
  rw [e]
  refine ⟨?_, (me_end a b p h).2⟩
  rw [o_L_wideEnd, o_X2_wideEnd]
  rcases sh_putEnd true a f b p with z | z <;> simp only [z, me_10, me_20, me_21, if_true, if_false, eq_self, reduceIte]
theorem ml_upper {f : Nat → Int64} (nv : Int64) (p : Int32) (h : okA true f) : o_L_upper f nv p = ((o_X5_upper f p).2, if (o_X5_upper f p).2 = 0 then (o_X5_upper f p).1.toInt64 else nv) := by
  have e : o_X5_upper f p = _ := mf_upper p
  rw [e, o_L_upper, o_X2_upper]
  rcases sh_firstHalf f p with z | z <;> simp only [z, mc1, me_10, me_20, me_21, if_true, if_false, eq_self, reduceIte, me_bf]
  try (split <;> rfl)
  try rfl
theorem ml_lower {f : Nat → Int64} (nv : Int64) (p : Int32) (h : okA true f) : o_L_lower f nv p = ((o_X5_lower f p).2, if (o_X5_lower f p).2 = 0 then (o_X5_lower f p).1.toInt64 else nv) := by
  have e : o_X5_lower f p = _ := mf_lower p
  rw [e, o_L_lower, o_X2_lower]
  rcases sh_lastHalf f p with z | z <;> simp only [z, mc1, me_10, me_20, me_21, if_true, if_false, eq_self, reduceIte, me_bf]
  try (split <;> rfl)
  try rfl
theorem ml_wideOrder {f : Nat → Int64} (nv : Int64) (p : Int32) (q : Int32) (s : Int32) (h : okA true f) : o_L_wideOrder f nv p q s = ((o_X5_wideOrder f p q s).2, if (o_X5_wideOrder f p q s).2 = 0 then (o_X5_wideOrder f p q s).1.toInt64 else nv) := by
  have e : o_X5_wideOrder f p q s = _ := mf_order p q s h
  rw [e, o_L_wideOrder, o_X2_wideOrder]
  rcases sh_order true f p q s with z | z | z <;> simp only [z, mc1, me_10, me_20, me_21, if_true, if_false, eq_self, reduceIte, me_bf]
  try (split <;> rfl)
  try rfl
theorem ml_wideSame {f : Nat → Int64} (nv : Int64) (p : Int32) (q : Int32) (s : Int32) (h : okA true f) : o_L_wideSame f nv p q s = ((o_X5_wideSame f p q s).2, if (o_X5_wideSame f p q s).2 = 0 then (if (o_X5_wideSame f p q s).1 = true then 1 else 0) else nv) := by
  have e : o_X5_wideSame f p q s = _ := mf_same p q s h
  rw [e, o_L_wideSame, o_X2_wideSame]
  rcases sh_areSame true f p q s with z | z | z <;> simp only [z, mc1, me_10, me_20, me_21, if_true, if_false, eq_self, reduceIte, me_bf]
  try (split <;> rfl)
  try rfl
theorem ml_wideOther (nv : Int64) (p : Int32) (q : Int32)  : o_L_wideOther nv p q = ((o_X5_wideOther p q).2, if (o_X5_wideOther p q).2 = 0 then (if (o_X5_wideOther p q).1 = true then 1 else 0) else nv) := by
  have e : o_X5_wideOther  p q = _ := mf_other p q
  rw [e, o_L_wideOther, o_X2_wideOther]
  rcases sh_isEqualToOther p q with z | z | z <;> simp only [z, mc1, me_10, me_20, me_21, if_true, if_false, eq_self, reduceIte, me_bf]
  try (split <;> rfl)
  try rfl
theorem ml_wideLike {f : Nat → Int64} (nv : Int64) (p : Int32) (q : Int32) (h : okA true f) : o_L_wideLike f nv p q = ((o_X5_wideLike f p q).2, if (o_X5_wideLike f p q).2 = 0 then (if (o_X5_wideLike f p q).1 = true then 1 else 0) else nv) := by
  have e : o_X5_wideLike f p q = _ := mf_like p q h
  rw [e, o_L_wideLike, o_X2_wideLike]
  rcases sh_areLike true f p q with z | z <;> simp only [z, mc1, me_10, me_20, me_21, if_true, if_false, eq_self, reduceIte, me_bf]
  try (split <;> rfl)
  try rfl
theorem ml_wideBelow {f : Nat → Int64} (nv : Int64) (p : Int32) (q : Int32) (b : Bool) (h : okA true f) : o_L_wideBelow f nv p q b = ((o_X5_wideBelow f p q b).2, if (o_X5_wideBelow f p q b).2 = 0 then (if (o_X5_wideBelow f p q b).1 = true then 1 else 0) else nv) := by
  have e : o_X5_wideBelow f p q b = _ := mf_below p q b h
  rw [e, o_L_wideBelow, o_X2_wideBelow]
  rcases sh_isBelow true f p q b with z | z <;> simp only [z, mc1, me_10, me_20, me_21, if_true, if_false, eq_self, reduceIte, me_bf]
  try (split <;> rfl)
  try rfl
theorem ml_wideHash {f : Nat → Int64} (nv : Int64) (p : Int32) (s : Int32) (h : okA true f) : o_L_wideHash f nv p s = ((o_X5_wideHash f p s).2, if (o_X5_wideHash f p s).2 = 0 then (o_X5_wideHash f p s).1.toInt64 else nv) := by
  have e : o_X5_wideHash f p s = _ := mf_hashW p s
  rw [e, o_L_wideHash, o_X2_wideHash]
  rcases sh_hash f p s with z | z | z <;> simp only [z, mc1, me_10, me_20, me_21, if_true, if_false, eq_self, reduceIte, me_bf]
  try (split <;> rfl)
  try rfl
theorem ml_wideEndless {f : Nat → Int64} (nv : Int64) (p : Int32) (s : Int32) (h : okA true f) : o_L_wideEndless f nv p s = ((o_X5_wideEndless f p s).2, if (o_X5_wideEndless f p s).2 = 0 then (if (o_X5_wideEndless f p s).1 = true then 1 else 0) else nv) := by
  have e : o_X5_wideEndless f p s = _ := mf_endless p s h
  rw [e, o_L_wideEndless, o_X2_wideEndless]
  rcases sh_isEndless true f p s with z | z | z <;> simp only [z, mc1, me_10, me_20, me_21, if_true, if_false, eq_self, reduceIte, me_bf]
  try (split <;> rfl)
  try rfl
theorem ml_wideCount {f : Nat → Int64} (nv : Int64) (p : Int32) (h : okA true f) : o_L_wideCount f nv p = ((o_X5_wideCount f p).2, if (o_X5_wideCount f p).2 = 0 then (o_X5_wideCount f p).1.toInt64 else nv) := by
  have e : o_X5_wideCount f p = _ := mf_count p h
  rw [e, o_L_wideCount, o_X2_wideCount]
  rcases sh_quarters true f p with z | z <;> simp only [z, mc1, me_10, me_20, me_21, if_true, if_false, eq_self, reduceIte, me_bf]
  try (split <;> rfl)
  try rfl
theorem ml_wideFind {f : Nat → Int64} (nv : Int64) (p : Int32) (b : Bool) (h : okA true f) : o_L_wideFind f nv p b = ((o_X5_wideFind f p b).2, if (o_X5_wideFind f p b).2 = 0 then (o_X5_wideFind f p b).1.toInt64 else nv) := by
  have e : o_X5_wideFind f p b = _ := mf_find p b
  rw [e, o_L_wideFind, o_X2_wideFind]
  rcases sh_find f p b with z | z <;> simp only [z, mc1, me_10, me_20, me_21, if_true, if_false, eq_self, reduceIte, me_bf]
  try (split <;> rfl)
  try rfl
theorem ml_wideHas {f : Nat → Int64} (nv : Int64) (p : Int32) (h : okA true f) : o_L_wideHas f nv p = ((o_X5_wideHas f p).2, if (o_X5_wideHas f p).2 = 0 then (if (o_X5_wideHas f p).1 = true then 1 else 0) else nv) := by
  have e : o_X5_wideHas f p = _ := mf_has p
  rw [e, o_L_wideHas, o_X2_wideHas]
  rcases sh_has true f p with z | z | z <;> simp only [z, mc1, me_10, me_20, me_21, if_true, if_false, eq_self, reduceIte, me_bf]
  try (split <;> rfl)
  try rfl
theorem ml_putNarrow (a r r' : Int32) {f : Nat → Int64} (nv : Int64) (p : Int32) (u : Int32) (h : okA false f) : (o_L_putNarrow a r f nv p u).1 = (o_X5_putNarrow a f (r + r') p u).2.2.2.1 ∧ (o_L_putNarrow a r f nv p u).2.1 = (o_X5_putNarrow a f (r + r') p u).2.1 ∧ (o_L_putNarrow a r f nv p u).2.2.1 + r' = (o_X5_putNarrow a f (r + r') p u).2.2.2.2 ∧ (o_L_putNarrow a r f nv p u).2.2.2.1 = (o_X5_putNarrow a f (r + r') p u).2.2.1 ∧ (o_L_putNarrow a r f nv p u).2.2.2.2 = (if (o_X5_putNarrow a f (r + r') p u).2.2.2.1 = 0 then (o_X5_putNarrow a f (r + r') p u).1.toInt64 else nv) ∧ okA false (o_X5_putNarrow a f (r + r') p u).2.2.1 := by
  have e : o_X5_putNarrow a f (r + r') p u = _ := me_put a r r' f p (me_okN2 u)
  rw [e]
  refine ⟨?_, ?_, ?_, ?_, ?_, me_putV a r p (me_okN2 u) h⟩ <;> rw [o_L_putNarrow, o_X2_putNarrow] <;> rcases sh_put false a r f p (u.toInt64 &&& 4294967295) with z | z <;> simp only [z, me_10, me_20, me_21, if_true, if_false, eq_self, reduceIte]
theorem ml_narrowQuarters (a : Int32) {f : Nat → Int64} (nv : Int64) (p : Int32) (q : Int32) (h : okA false f) : o_L_narrowQuarters a f nv p q = ((o_X5_narrowQuarters a f p q).2.2.2, (o_X5_narrowQuarters a f p q).2.1, (o_X5_narrowQuarters a f p q).2.2.1, if (o_X5_narrowQuarters a f p q).2.2.2 = 0 then (o_X5_narrowQuarters a f p q).1.toInt64 else nv) ∧ okA false (o_X5_narrowQuarters a f p q).2.2.1 := by
  have e : o_X5_narrowQuarters a f p q = _ := (me_quarters a p q h).1
  rw [e]
  refine ⟨?_, (me_quarters a p q h).2⟩
  rw [o_L_narrowQuarters, o_X2_narrowQuarters]
  rcases sh_putQuarters false a f p q with z | z | z <;> simp only [z, me_10, me_20, me_21, if_true, if_false, eq_self, reduceIte]
theorem ml_narrowKnown (a : Int32) {f : Nat → Int64} (nv : Int64) (p : Int32) (q : Int32) (h : okA false f) : o_L_narrowKnown a f nv p q = ((o_X5_narrowKnown a f p q).2.2.2, (o_X5_narrowKnown a f p q).2.1, (o_X5_narrowKnown a f p q).2.2.1, if (o_X5_narrowKnown a f p q).2.2.2 = 0 then (o_X5_narrowKnown a f p q).1.toInt64 else nv) ∧ okA false (o_X5_narrowKnown a f p q).2.2.1 := by
  have e : o_X5_narrowKnown a f p q = _ := (me_known a p q h).1
  rw [e]
  refine ⟨?_, (me_known a p q h).2⟩
  rw [o_L_narrowKnown, o_X2_narrowKnown]
  rcases sh_putKnown false a f p q with z | z | z <;> simp only [z, me_10, me_20, me_21, if_true, if_false, eq_self, reduceIte]
theorem ml_narrowCopy (a : Int32) {f : Nat → Int64} (nv : Int64) (p : Int32) (q : Int32) (h : okA false f) : o_L_narrowCopy a f nv p q = ((o_X5_narrowCopy a f p q).2.2.2, (o_X5_narrowCopy a f p q).2.1, (o_X5_narrowCopy a f p q).2.2.1, if (o_X5_narrowCopy a f p q).2.2.2 = 0 then (o_X5_narrowCopy a f p q).1.toInt64 else nv) ∧ okA false (o_X5_narrowCopy a f p q).2.2.1 := by
  have e : o_X5_narrowCopy a f p q = _ := (me_copy a p q h).1
  rw [e]
  refine ⟨?_, (me_copy a p q h).2⟩
  rw [o_L_narrowCopy, o_X2_narrowCopy]
  rcases sh_copy a f p q with z | z <;> simp only [z, me_10, me_20, me_21, if_true, if_false, eq_self, reduceIte]
theorem ml_narrowSwap (a : Int32) {f : Nat → Int64} (nv : Int64) (p : Int32) (q : Int32) (h : okA false f) : o_L_narrowSwap a f nv p q = ((o_X5_narrowSwap a f p q).2.2.2, (o_X5_narrowSwap a f p q).2.1, (o_X5_narrowSwap a f p q).2.2.1, if (o_X5_narrowSwap a f p q).2.2.2 = 0 then (o_X5_narrowSwap a f p q).1.toInt64 else nv) ∧ okA false (o_X5_narrowSwap a f p q).2.2.1 := by
  have e : o_X5_narrowSwap a f p q = _ := (me_swap a p q h).1
  rw [e]
  refine ⟨?_, (me_swap a p q h).2⟩
  rw [o_L_narrowSwap, o_X2_narrowSwap]
  rcases sh_swap a f p q with z | z <;> simp only [z, me_10, me_20, me_21, if_true, if_false, eq_self, reduceIte]
theorem ml_narrowMax (a : Int32) {f : Nat → Int64} (nv : Int64) (p : Int32) (q : Int32) (s : Int32) (h : okA false f) : o_L_narrowMax a f nv p q s = ((o_X5_narrowMax a f p q s).2.2.2, (o_X5_narrowMax a f p q s).2.1, (o_X5_narrowMax a f p q s).2.2.1, if (o_X5_narrowMax a f p q s).2.2.2 = 0 then (o_X5_narrowMax a f p q s).1.toInt64 else nv) ∧ okA false (o_X5_narrowMax a f p q s).2.2.1 := by
  have e : o_X5_narrowMax a f p q s = _ := (me_max a p q s h).1
  rw [e]
  refine ⟨?_, (me_max a p q s h).2⟩
  rw [o_L_narrowMax, o_X2_narrowMax]
  rcases sh_putGreater false a f p q s with z | z <;> simp only [z, me_10, me_20, me_21, if_true, if_false, eq_self, reduceIte]
theorem ml_narrowMin (a : Int32) {f : Nat → Int64} (nv : Int64) (p : Int32) (q : Int32) (s : Int32) (h : okA false f) : o_L_narrowMin a f nv p q s = ((o_X5_narrowMin a f p q s).2.2.2, (o_X5_narrowMin a f p q s).2.1, (o_X5_narrowMin a f p q s).2.2.1, if (o_X5_narrowMin a f p q s).2.2.2 = 0 then (o_X5_narrowMin a f p q s).1.toInt64 else nv) ∧ okA false (o_X5_narrowMin a f p q s).2.2.1 := by
  have e : o_X5_narrowMin a f p q s = _ := (me_min a p q s h).1
  rw [e]
  refine ⟨?_, (me_min a p q s h).2⟩
  rw [o_L_narrowMin, o_X2_narrowMin]
  rcases sh_putLesser false a f p q s with z | z <;> simp only [z, me_10, me_20, me_21, if_true, if_false, eq_self, reduceIte]
theorem ml_narrowSum (a r r' : Int32) {f : Nat → Int64} (nv : Int64) (p : Int32) (q : Int32) (s : Int32) (h : okA false f) : (o_L_narrowSum a r f nv p q s).1 = (o_X5_narrowSum a f (r + r') p q s).2.2.2.1 ∧ (o_L_narrowSum a r f nv p q s).2.1 = (o_X5_narrowSum a f (r + r') p q s).2.1 ∧ (o_L_narrowSum a r f nv p q s).2.2.1 + r' = (o_X5_narrowSum a f (r + r') p q s).2.2.2.2 ∧ (o_L_narrowSum a r f nv p q s).2.2.2.1 = (o_X5_narrowSum a f (r + r') p q s).2.2.1 ∧ (o_L_narrowSum a r f nv p q s).2.2.2.2 = (if (o_X5_narrowSum a f (r + r') p q s).2.2.2.1 = 0 then (o_X5_narrowSum a f (r + r') p q s).1.toInt64 else nv) ∧ okA false (o_X5_narrowSum a f (r + r') p q s).2.2.1 := by
  have e : o_X5_narrowSum a f (r + r') p q s = _ := (me_sum a r r' p q s h).1
  rw [e]
  refine ⟨?_, ?_, ?_, ?_, ?_, (me_sum a r r' p q s h).2⟩ <;> rw [o_L_narrowSum, o_X2_narrowSum] <;> rcases sh_putSum false a r f p q s with z | z <;> simp only [z, me_10, me_20, me_21, if_true, if_false, eq_self, reduceIte]
theorem ml_narrowSort (a : Int32) {f : Nat → Int64} (g : Nat → Int64) (nv : Int64) (p : Int32) (h : okA false f) : (o_L_narrowSort a f g nv p).1 = (o_X5_narrowSort a f p).2.2.2 ∧ (o_L_narrowSort a f g nv p).2.1 = (o_X5_narrowSort a f p).2.1 ∧ (o_L_narrowSort a f g nv p).2.2.1 = (o_X5_narrowSort a f p).2.2.1 ∧ (o_L_narrowSort a f g nv p).2.2.2.2 = (if (o_X5_narrowSort a f p).2.2.2 = 0 then (o_X5_narrowSort a f p).1.toInt64 else nv) ∧ okA false (o_X5_narrowSort a f p).2.2.1 := by
  have e : o_X5_narrowSort a f p = _ := (me_sort a g p h).1
  rw [e]
  refine ⟨?_, ?_, ?_, ?_, (me_sort a g p h).2⟩ <;> rw [o_L_narrowSort, o_X2_narrowSort] <;> rcases sh_sort false a f g p with z | z | z <;> simp only [z, mc1, me_10, me_20, me_21, if_true, if_false, eq_self, reduceIte]
theorem ml_narrowEnd (a : Int32) {f : Nat → Int64} (nv : Int64) (b : Bool) (p : Int32) (h : okA false f) : o_L_narrowEnd a f nv b p = ((o_X5_narrowEnd a f b p).2.2.2, (o_X5_narrowEnd a f b p).2.1, (o_X5_narrowEnd a f b p).2.2.1, if (o_X5_narrowEnd a f b p).2.2.2 = 0 then (o_X5_narrowEnd a f b p).1.toInt64 else nv) ∧ okA false (o_X5_narrowEnd a f b p).2.2.1 := by
  have e : o_X5_narrowEnd a f b p = _ := (me_end a b p h).1
  rw [e]
  refine ⟨?_, (me_end a b p h).2⟩
  rw [o_L_narrowEnd, o_X2_narrowEnd]
  rcases sh_putEnd false a f b p with z | z <;> simp only [z, me_10, me_20, me_21, if_true, if_false, eq_self, reduceIte]
theorem ml_digits {f : Nat → Int64} (nv : Int64) (p : Int32) (h : okA false f) : o_L_digits f nv p = ((o_X5_digits f p).2, if (o_X5_digits f p).2 = 0 then (o_X5_digits f p).1.toInt64 else nv) := by
  have e : o_X5_digits f p = _ := mf_lower p
  rw [e, o_L_digits, o_X2_digits]
  rcases sh_lastHalf f p with z | z <;> simp only [z, mc1, me_10, me_20, me_21, if_true, if_false, eq_self, reduceIte, me_bf]
  try (split <;> rfl)
  try rfl
theorem ml_narrowOrder {f : Nat → Int64} (nv : Int64) (p : Int32) (q : Int32) (s : Int32) (h : okA false f) : o_L_narrowOrder f nv p q s = ((o_X5_narrowOrder f p q s).2, if (o_X5_narrowOrder f p q s).2 = 0 then (o_X5_narrowOrder f p q s).1.toInt64 else nv) := by
  have e : o_X5_narrowOrder f p q s = _ := mf_order p q s h
  rw [e, o_L_narrowOrder, o_X2_narrowOrder]
  rcases sh_order false f p q s with z | z | z <;> simp only [z, mc1, me_10, me_20, me_21, if_true, if_false, eq_self, reduceIte, me_bf]
  try (split <;> rfl)
  try rfl
theorem ml_narrowSame {f : Nat → Int64} (nv : Int64) (p : Int32) (q : Int32) (s : Int32) (h : okA false f) : o_L_narrowSame f nv p q s = ((o_X5_narrowSame f p q s).2, if (o_X5_narrowSame f p q s).2 = 0 then (if (o_X5_narrowSame f p q s).1 = true then 1 else 0) else nv) := by
  have e : o_X5_narrowSame f p q s = _ := mf_same p q s h
  rw [e, o_L_narrowSame, o_X2_narrowSame]
  rcases sh_areSame false f p q s with z | z | z <;> simp only [z, mc1, me_10, me_20, me_21, if_true, if_false, eq_self, reduceIte, me_bf]
  try (split <;> rfl)
  try rfl
theorem ml_narrowOther (nv : Int64) (p : Int32) (q : Int32)  : o_L_narrowOther nv p q = ((o_X5_narrowOther p q).2, if (o_X5_narrowOther p q).2 = 0 then (if (o_X5_narrowOther p q).1 = true then 1 else 0) else nv) := by
  have e : o_X5_narrowOther  p q = _ := mf_other p q
  rw [e, o_L_narrowOther, o_X2_narrowOther]
  rcases sh_isEqualToOther p q with z | z | z <;> simp only [z, mc1, me_10, me_20, me_21, if_true, if_false, eq_self, reduceIte, me_bf]
  try (split <;> rfl)
  try rfl
theorem ml_narrowLike {f : Nat → Int64} (nv : Int64) (p : Int32) (q : Int32) (h : okA false f) : o_L_narrowLike f nv p q = ((o_X5_narrowLike f p q).2, if (o_X5_narrowLike f p q).2 = 0 then (if (o_X5_narrowLike f p q).1 = true then 1 else 0) else nv) := by
  have e : o_X5_narrowLike f p q = _ := mf_like p q h
  rw [e, o_L_narrowLike, o_X2_narrowLike]
  rcases sh_areLike false f p q with z | z <;> simp only [z, mc1, me_10, me_20, me_21, if_true, if_false, eq_self, reduceIte, me_bf]
  try (split <;> rfl)
  try rfl
theorem ml_narrowBelow {f : Nat → Int64} (nv : Int64) (p : Int32) (q : Int32) (b : Bool) (h : okA false f) : o_L_narrowBelow f nv p q b = ((o_X5_narrowBelow f p q b).2, if (o_X5_narrowBelow f p q b).2 = 0 then (if (o_X5_narrowBelow f p q b).1 = true then 1 else 0) else nv) := by
  have e : o_X5_narrowBelow f p q b = _ := mf_below p q b h
  rw [e, o_L_narrowBelow, o_X2_narrowBelow]
  rcases sh_isBelow false f p q b with z | z <;> simp only [z, mc1, me_10, me_20, me_21, if_true, if_false, eq_self, reduceIte, me_bf]
  try (split <;> rfl)
  try rfl
theorem ml_narrowHash {f : Nat → Int64} (nv : Int64) (p : Int32) (s : Int32) (h : okA false f) : o_L_narrowHash f nv p s = ((o_X5_narrowHash f p s).2, if (o_X5_narrowHash f p s).2 = 0 then (o_X5_narrowHash f p s).1.toInt64 else nv) := by
  have e : o_X5_narrowHash f p s = _ := mf_hashN p s h
  rw [e, o_L_narrowHash, o_X2_narrowHash]
  rcases sh_hash f p s with z | z | z <;> simp only [z, mc1, me_10, me_20, me_21, if_true, if_false, eq_self, reduceIte, me_bf]
  try (split <;> rfl)
  try rfl
theorem ml_narrowEndless {f : Nat → Int64} (nv : Int64) (p : Int32) (s : Int32) (h : okA false f) : o_L_narrowEndless f nv p s = ((o_X5_narrowEndless f p s).2, if (o_X5_narrowEndless f p s).2 = 0 then (if (o_X5_narrowEndless f p s).1 = true then 1 else 0) else nv) := by
  have e : o_X5_narrowEndless f p s = _ := mf_endless p s h
  rw [e, o_L_narrowEndless, o_X2_narrowEndless]
  rcases sh_isEndless false f p s with z | z | z <;> simp only [z, mc1, me_10, me_20, me_21, if_true, if_false, eq_self, reduceIte, me_bf]
  try (split <;> rfl)
  try rfl
theorem ml_narrowCount {f : Nat → Int64} (nv : Int64) (p : Int32) (h : okA false f) : o_L_narrowCount f nv p = ((o_X5_narrowCount f p).2, if (o_X5_narrowCount f p).2 = 0 then (o_X5_narrowCount f p).1.toInt64 else nv) := by
  have e : o_X5_narrowCount f p = _ := mf_count p h
  rw [e, o_L_narrowCount, o_X2_narrowCount]
  rcases sh_quarters false f p with z | z <;> simp only [z, mc1, me_10, me_20, me_21, if_true, if_false, eq_self, reduceIte, me_bf]
  try (split <;> rfl)
  try rfl
theorem ml_narrowFind {f : Nat → Int64} (nv : Int64) (p : Int32) (b : Bool) (h : okA false f) : o_L_narrowFind f nv p b = ((o_X5_narrowFind f p b).2, if (o_X5_narrowFind f p b).2 = 0 then (o_X5_narrowFind f p b).1.toInt64 else nv) := by
  have e : o_X5_narrowFind f p b = _ := mf_find p b
  rw [e, o_L_narrowFind, o_X2_narrowFind]
  rcases sh_find f p b with z | z <;> simp only [z, mc1, me_10, me_20, me_21, if_true, if_false, eq_self, reduceIte, me_bf]
  try (split <;> rfl)
  try rfl
theorem ml_narrowHas {f : Nat → Int64} (nv : Int64) (p : Int32) (h : okA false f) : o_L_narrowHas f nv p = ((o_X5_narrowHas f p).2, if (o_X5_narrowHas f p).2 = 0 then (if (o_X5_narrowHas f p).1 = true then 1 else 0) else nv) := by
  have e : o_X5_narrowHas f p = _ := mf_has p
  rw [e, o_L_narrowHas, o_X2_narrowHas]
  rcases sh_has false f p with z | z | z <;> simp only [z, mc1, me_10, me_20, me_21, if_true, if_false, eq_self, reduceIte, me_bf]
  try (split <;> rfl)
  try rfl
theorem ml_house (a1 r1 a2 r2 kn : Int32) (nv : Int64) (p : Int32) : o_L_house a1 r1 a2 r2 kn nv p = ((o_X5_house a1 a2 (r1 + r2) kn p).2, if (o_X5_house a1 a2 (r1 + r2) kn p).2 = 0 then (o_X5_house a1 a2 (r1 + r2) kn p).1.toInt64 else nv) := by
  rw [mf_house, o_L_house]
  by_cases z : (o_X2_house a1 r1 a2 r2 kn p).1 = 0
  · simp only [z, mc1, if_true, eq_self, reduceIte]
  · simp only [mc1, if_neg z, me_10, if_false, reduceIte]
