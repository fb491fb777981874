/-! one row's methods answer as the model's: answer, code, cells; cells stay well -/
noncomputable def okA (w : Bool) (f : Nat → Int64) : Prop := ∀ k, k < 8 → okV w (f k)
theorem me_okF {w : Bool} {f : Nat → Int64} (h : okA w f) : okF w f := fun k hk => (h k hk).1
theorem me_at {w : Bool} {f : Nat → Int64} (h : okA w f) {p : Int32} (hp : vp_in p 8) : okV w (f p.toNatClampNeg) := h _ (xm_lt hp)
theorem me_upd {w : Bool} {f : Nat → Int64} {x : Int64} (h : okA w f) (hx : okV w x) (i : Nat) : okA w (vp_updL f i x) := by
  intro k hk
  by_cases c : k = i
  · rw [c, mw_at]; exact hx
  · rw [mw_ne c]; exact h k hk
theorem me_place {w : Bool} {f : Nat → Int64} {x : Int64} (a : Int32) (p : Int32) (h : okA w f) (hx : okV w x) : okA w (o_X0_place a f p x).2.2 := by
  rw [o_X0_place]
  split <;> exact me_upd h hx _
theorem me_come (a : Int32) (f : Nat → Int64) (p : Int32) (x : Int64) : o_X4_come a f p x = o_X0_place a f p x := rfl
theorem me_f1 (b : Bool) : o_X5_fails true b = (true, 1) := rfl
theorem me_f2 : o_X5_fails false true = (true, 2) := rfl
theorem me_f3 : o_X5_fails false false = (false, 0) := rfl
theorem me_cell (p : Int32) : (o_X2_checkCell p = 0 ∧ o_X5_isNo p = false ∧ vp_in p 8) ∨ (o_X2_checkCell p = 1 ∧ o_X5_isNo p = true) := by
  by_cases c : o_X5_isNo p = true
  · refine Or.inr ⟨?_, c⟩
    rw [o_X5_isNo, o_X5_isIn] at c
    rw [o_X2_checkCell]
    by_cases d : p < 0
    · rw [if_pos d]
    · rw [if_neg d]
      by_cases e : p < 8
      · have h7 : ¬ 7 < p := fun z => by
          have z := Int32.lt_iff_toInt_lt.mp z
          have e := Int32.lt_iff_toInt_lt.mp e
          rw [show (7 : Int32).toInt = 7 by decide] at z
          rw [show (8 : Int32).toInt = 8 by decide] at e
          omega
        rw [if_neg d, if_neg h7, if_pos rfl] at c
        exact absurd c (by decide)
      · rw [if_neg e]
  · have hi := xm_isNo c
    exact Or.inl ⟨xm_cc0 hi, Bool.eq_false_iff.mpr c, hi⟩
theorem me_choice (p n : Int32) : (o_X2_checkChoice p n = 0 ∧ o_X5_isIn p 0 n = true) ∨ (o_X2_checkChoice p n = 2 ∧ o_X5_isIn p 0 n = false) := by
  rw [o_X2_checkChoice, o_X5_isIn]
  by_cases d : p < 0
  · rw [if_pos d, if_pos d]; exact Or.inr ⟨rfl, rfl⟩
  · rw [if_neg d, if_neg d]
    by_cases e : p ≤ n
    · rw [if_pos e, if_neg (fun z => by
        have z := Int32.lt_iff_toInt_lt.mp z
        have e := Int32.le_iff_toInt_le.mp e
        omega)]
      exact Or.inl ⟨rfl, rfl⟩
    · have e2 : ¬ p.toInt ≤ n.toInt := fun z => e (Int32.le_iff_toInt_le.mpr z)
      rw [if_neg e, if_pos (Int32.lt_iff_toInt_lt.mpr (by omega))]
      exact Or.inr ⟨rfl, rfl⟩
theorem me_areNo (p q : Int32) : o_X5_areNo p q = (o_X5_isNo p || o_X5_isNo q) := by
  rw [o_X5_areNo]
  cases o_X5_isNo p <;> cases o_X5_isNo q <;> rfl
theorem me_10 : ¬ (1 : Int32) = 0 := by decide
theorem me_20 : ¬ (2 : Int32) = 0 := by decide
theorem me_ft : ¬ (false = true) := by decide
theorem me_rf (r r' : Int32) : r + r' + 1 = r + 1 + r' := by rw [Int32.add_assoc, Int32.add_comm r' 1, ← Int32.add_assoc]
theorem me_put {w : Bool} (a r r' : Int32) (f : Nat → Int64) (p : Int32) {x : Int64} (hx : okN w x) : o_X5_put w a f (r + r') p x = ((o_X0_put w a r f p x).2.1, (o_X0_put w a r f p x).2.2.1, (o_X0_put w a r f p x).2.2.2.2, (o_X0_put w a r f p x).1, (o_X0_put w a r f p x).2.2.2.1 + r') := by
  rw [o_X5_put, o_X0_put, mp_spoiled hx, me_come]
  rcases me_cell p with ⟨c1, c2, c3⟩ | ⟨c1, c2⟩
  · rw [c1, c2, if_pos rfl, me_f3]
    by_cases d : o_X1_isSpoiled w x = true
    · rw [if_pos d, if_pos d, if_neg me_ft, o_X5_refuse, o_X0_refuse, me_rf]
    · rw [if_neg d, if_neg d, if_neg me_ft]
  · rw [c1, c2, if_neg me_10, me_f1, if_pos rfl]
theorem me_putV {w : Bool} (a r : Int32) {f : Nat → Int64} (p : Int32) {x : Int64} (hx : okN w x) (h : okA w f) : okA w (o_X0_put w a r f p x).2.2.2.2 := by
  rw [o_X0_put]
  by_cases c : o_X2_checkCell p = 0
  · rw [if_pos c]
    by_cases d : o_X1_isSpoiled w x = true
    · rw [if_pos d]; exact h
    · rw [if_neg d]; exact me_place a p h ⟨hx, Bool.eq_false_iff.mpr d⟩
  · rw [if_neg c]; exact h
theorem me_qb (w : Bool) : (wQb w).toInt = bD w ∧ (-(wQb w)).toInt = -(bD w : Int) ∧ (mMo w).toInt = bD w ∧ (-(mMo w)).toInt = -(bD w : Int) := by cases w <;> decide
theorem me_quarters {w : Bool} (a : Int32) {f : Nat → Int64} (p q : Int32) (h : okA w f) : o_X5_quarters w a f p q = ((o_X0_putQuarters w a f p q).2.1, (o_X0_putQuarters w a f p q).2.2.1, (o_X0_putQuarters w a f p q).2.2.2, (o_X0_putQuarters w a f p q).1) ∧ okA w (o_X0_putQuarters w a f p q).2.2.2 := by
  obtain ⟨k1, k2, k3, k4⟩ := me_qb w
  have g1 : mMo w < q.toInt64 ↔ (bD w : Int) < q.toInt := by rw [Int64.lt_iff_toInt_lt, k3, Int32.toInt_toInt64]
  have g2 : -(mMo w) ≤ q.toInt64 ↔ -(bD w : Int) ≤ q.toInt := by rw [Int64.le_iff_toInt_le, k4, Int32.toInt_toInt64]
  have g3 : q < -(wQb w) ↔ q.toInt < -(bD w : Int) := by rw [Int32.lt_iff_toInt_lt, k2]
  have g4 : q ≤ wQb w ↔ q.toInt ≤ (bD w : Int) := by rw [Int32.le_iff_toInt_le, k1]
  rw [o_X5_quarters, o_X0_putQuarters]
  simp only [me_come]
  rcases me_cell p with ⟨c1, c2, c3⟩ | ⟨c1, c2⟩
  · rw [c1, c2, if_pos rfl, me_f3, me_f2, if_neg me_ft, if_pos rfl]
    by_cases d1 : q.toInt < -(bD w : Int)
    · rw [if_pos (g3.mpr d1), if_neg (fun z => by have := g1.mp z; omega), if_neg (fun z => by have := g2.mp z; omega)]
      exact ⟨rfl, h⟩
    · rw [if_neg (fun z => d1 (g3.mp z)), if_pos (g2.mpr (by omega))]
      by_cases d2 : q.toInt ≤ (bD w : Int)
      · rw [if_pos (g4.mpr d2), if_neg (fun z => by have := g1.mp z; omega), (mr_made (by omega) d2).1]
        exact ⟨rfl, me_place a p h (ms_okq (by omega) d2)⟩
      · rw [if_neg (fun z => d2 (g4.mp z)), if_pos (g1.mpr (by omega))]
        exact ⟨rfl, h⟩
  · rw [c1, c2, if_neg me_10, me_f1, me_f1, if_pos rfl, ite_self, ite_self]
    exact ⟨rfl, h⟩
theorem me_known {w : Bool} (a : Int32) {f : Nat → Int64} (p q : Int32) (h : okA w f) : o_X5_known w a f p q = ((o_X0_putKnown w a f p q).2.1, (o_X0_putKnown w a f p q).2.2.1, (o_X0_putKnown w a f p q).2.2.2, (o_X0_putKnown w a f p q).1) ∧ okA w (o_X0_putKnown w a f p q).2.2.2 := by
  rw [o_X5_known, o_X0_putKnown, mp_known]
  simp only [me_come]
  rcases me_cell p with ⟨c1, c2, c3⟩ | ⟨c1, c2⟩
  · rcases me_choice q 6 with ⟨d1, d2⟩ | ⟨d1, d2⟩
    · rw [c1, c2, d1, d2, if_pos rfl, if_pos rfl, if_pos rfl, me_f3, if_neg me_ft]
      exact ⟨rfl, me_place a p h (ms_known w q)⟩
    · rw [c1, c2, d1, d2, if_pos rfl, if_neg me_20, if_neg me_ft, me_f2, if_pos rfl]
      exact ⟨rfl, h⟩
  · rw [c1, c2, if_neg me_10, me_f1, me_f1, if_pos rfl, ite_self]
    exact ⟨rfl, h⟩
theorem me_copy {w : Bool} (a : Int32) {f : Nat → Int64} (p q : Int32) (h : okA w f) : o_X5_copy a f p q = ((o_X0_copy a f p q).2.1, (o_X0_copy a f p q).2.2.1, (o_X0_copy a f p q).2.2.2, (o_X0_copy a f p q).1) ∧ okA w (o_X0_copy a f p q).2.2.2 := by
  rw [o_X5_copy, o_X0_copy, me_areNo]
  simp only [me_come]
  rcases me_cell p with ⟨c1, c2, c3⟩ | ⟨c1, c2⟩
  · rcases me_cell q with ⟨d1, d2, d3⟩ | ⟨d1, d2⟩
    · rw [c1, c2, d1, d2, if_pos rfl, if_pos rfl, Bool.false_or, me_f3, if_neg me_ft]
      exact ⟨rfl, me_place a q h (me_at h c3)⟩
    · rw [c1, c2, d1, d2, if_pos rfl, if_neg me_10, Bool.false_or, me_f1, if_pos rfl]
      exact ⟨rfl, h⟩
  · rw [c1, c2, if_neg me_10, Bool.true_or, me_f1, if_pos rfl]
    exact ⟨rfl, h⟩
theorem me_swap {w : Bool} (a : Int32) {f : Nat → Int64} (p q : Int32) (h : okA w f) : o_X5_swap a f p q = ((o_X0_swap a f p q).2.1, (o_X0_swap a f p q).2.2.1, (o_X0_swap a f p q).2.2.2, (o_X0_swap a f p q).1) ∧ okA w (o_X0_swap a f p q).2.2.2 := by
  rw [o_X5_swap, o_X0_swap, me_areNo, o_X4_swap]
  simp only [me_come]
  rcases me_cell p with ⟨c1, c2, c3⟩ | ⟨c1, c2⟩
  · rcases me_cell q with ⟨d1, d2, d3⟩ | ⟨d1, d2⟩
    · rw [c1, c2, d1, d2, if_pos rfl, if_pos rfl, Bool.false_or, me_f3, if_neg me_ft]
      refine ⟨?_, me_place a q (me_upd h (me_at h d3) _) (me_at h c3)⟩
      have e : vp_updL f p.toNatClampNeg (f q.toNatClampNeg) q.toNatClampNeg = f q.toNatClampNeg := by
        by_cases z : q.toNatClampNeg = p.toNatClampNeg
        · rw [z, mw_at]
        · rw [mw_ne z]
      rw [o_X0_place, e]
      by_cases z : f p.toNatClampNeg = f q.toNatClampNeg
      · rw [if_pos z, if_pos z.symm]
      · rw [if_neg z, if_neg (fun y => z y.symm)]
    · rw [c1, c2, d1, d2, if_pos rfl, if_neg me_10, Bool.false_or, me_f1, if_pos rfl]
      exact ⟨rfl, h⟩
  · rw [c1, c2, if_neg me_10, Bool.true_or, me_f1, if_pos rfl]
    exact ⟨rfl, h⟩
theorem me_cells (p q s : Int32) : (o_X0_checkCells p q s = 0 ∧ o_X5_areNo p q = false ∧ o_X5_isNo s = false ∧ vp_in p 8 ∧ vp_in q 8 ∧ vp_in s 8) ∨ (o_X0_checkCells p q s = 1 ∧ (o_X5_areNo p q = true ∨ (o_X5_areNo p q = false ∧ o_X5_isNo s = true))) := by
  rw [o_X0_checkCells, me_areNo]
  rcases me_cell p with ⟨c1, c2, c3⟩ | ⟨c1, c2⟩
  · rcases me_cell q with ⟨d1, d2, d3⟩ | ⟨d1, d2⟩
    · rcases me_cell s with ⟨e1, e2, e3⟩ | ⟨e1, e2⟩
      · rw [c1, d1, e1, c2, d2, e2]; exact Or.inl ⟨rfl, rfl, rfl, c3, d3, e3⟩
      · rw [c1, d1, e1, c2, d2, e2]; exact Or.inr ⟨rfl, Or.inr ⟨rfl, rfl⟩⟩
    · rw [c1, d1, c2, d2]; exact Or.inr ⟨rfl, Or.inl rfl⟩
  · rw [c1, c2]; exact Or.inr ⟨rfl, Or.inl rfl⟩
theorem me_greater {w : Bool} {x y : Int64} (hx : okN w x) (hy : okN w y) : o_X1_greater w x y = if o_X1_order w x y = 1 then x else y := by
  rw [o_X1_greater, mo_ord]
  by_cases c : (o_X1_standing w x).toInt < (o_X1_standing w y).toInt
  · rw [if_pos c, if_neg (by decide), if_neg (by decide)]
  · rw [if_neg c]
    by_cases d : (o_X1_standing w y).toInt < (o_X1_standing w x).toInt
    · rw [if_pos d, if_pos (by decide), if_pos rfl]
    · rw [if_neg d, if_pos (by decide), if_neg (by decide)]
      exact mo_st_inj hx hy (by omega)
theorem me_lesser {w : Bool} {x y : Int64} (hx : okN w x) (hy : okN w y) : o_X1_lesser w x y = if o_X1_order w x y = -1 then x else y := by
  rw [o_X1_lesser, mo_ord]
  by_cases c : (o_X1_standing w x).toInt < (o_X1_standing w y).toInt
  · rw [if_pos c, if_pos (by decide), if_pos rfl]
  · rw [if_neg c]
    by_cases d : (o_X1_standing w y).toInt < (o_X1_standing w x).toInt
    · rw [if_pos d, if_neg (by decide), if_neg (by decide)]
    · rw [if_neg d, if_pos (by decide), if_neg (by decide)]
      exact mo_st_inj hx hy (by omega)
theorem me_max {w : Bool} (a : Int32) {f : Nat → Int64} (p q s : Int32) (h : okA w f) : o_X5_choose w a f p q s 1 = ((o_X0_putGreater w a f p q s).2.1, (o_X0_putGreater w a f p q s).2.2.1, (o_X0_putGreater w a f p q s).2.2.2, (o_X0_putGreater w a f p q s).1) ∧ okA w (o_X0_putGreater w a f p q s).2.2.2 := by
  rw [o_X5_choose, o_X0_putGreater]
  simp only [me_come]
  rcases me_cells p q s with ⟨c1, c2, c3, c4, c5, c6⟩ | ⟨c1, c2 | ⟨c2, c3⟩⟩
  · have hp := me_at h c4
    have hq := me_at h c5
    rw [c1, c2, c3, if_pos rfl, if_neg me_ft, if_neg me_ft, mo_order hp.1 hq.1, me_greater hp.1 hq.1, me_f3]
    by_cases d : o_X1_order w (f p.toNatClampNeg) (f q.toNatClampNeg) = 1
    · simp only [if_pos d]
      exact ⟨trivial, me_place a s h hp⟩
    · simp only [if_neg d]
      exact ⟨trivial, me_place a s h hq⟩
  · rw [c1, c2, if_neg me_10, if_pos rfl, me_f1]; exact ⟨rfl, h⟩
  · rw [c1, c2, c3, if_neg me_10, if_neg me_ft, if_pos rfl, me_f1]; exact ⟨rfl, h⟩
theorem me_min {w : Bool} (a : Int32) {f : Nat → Int64} (p q s : Int32) (h : okA w f) : o_X5_choose w a f p q s (-1) = ((o_X0_putLesser w a f p q s).2.1, (o_X0_putLesser w a f p q s).2.2.1, (o_X0_putLesser w a f p q s).2.2.2, (o_X0_putLesser w a f p q s).1) ∧ okA w (o_X0_putLesser w a f p q s).2.2.2 := by
  rw [o_X5_choose, o_X0_putLesser]
  simp only [me_come]
  rcases me_cells p q s with ⟨c1, c2, c3, c4, c5, c6⟩ | ⟨c1, c2 | ⟨c2, c3⟩⟩
  · have hp := me_at h c4
    have hq := me_at h c5
    rw [c1, c2, c3, if_pos rfl, if_neg me_ft, if_neg me_ft, mo_order hp.1 hq.1, me_lesser hp.1 hq.1, me_f3]
    by_cases d : o_X1_order w (f p.toNatClampNeg) (f q.toNatClampNeg) = -1
    · simp only [if_pos d]
      exact ⟨trivial, me_place a s h hp⟩
    · simp only [if_neg d]
      exact ⟨trivial, me_place a s h hq⟩
  · rw [c1, c2, if_neg me_10, if_pos rfl, me_f1]; exact ⟨rfl, h⟩
  · rw [c1, c2, c3, if_neg me_10, if_neg me_ft, if_pos rfl, me_f1]; exact ⟨rfl, h⟩
theorem me_sum {w : Bool} (a r r' : Int32) {f : Nat → Int64} (p q s : Int32) (h : okA w f) : o_X5_sum w a f (r + r') p q s = ((o_X0_putSum w a r f p q s).2.1, (o_X0_putSum w a r f p q s).2.2.1, (o_X0_putSum w a r f p q s).2.2.2.2, (o_X0_putSum w a r f p q s).1, (o_X0_putSum w a r f p q s).2.2.2.1 + r') ∧ okA w (o_X0_putSum w a r f p q s).2.2.2.2 := by
  rw [o_X5_sum, o_X0_putSum]
  simp only [me_come]
  rcases me_cells p q s with ⟨c1, c2, c3, c4, c5, c6⟩ | ⟨c1, c2 | ⟨c2, c3⟩⟩
  · have hp := me_at h c4
    have hq := me_at h c5
    rw [c1, c2, c3, if_pos rfl, if_neg me_ft, if_neg me_ft, ms_have hp.1 hq.1, me_f3]
    by_cases d : o_X1_haveSum w (f p.toNatClampNeg) (f q.toNatClampNeg) = true
    · rw [if_pos d, if_pos d, (ms_sum hp hq d).1]
      exact ⟨rfl, me_place a s h (ms_sum hp hq d).2⟩
    · rw [if_neg d, if_neg d, o_X5_refuse, o_X0_refuse, me_rf]
      exact ⟨rfl, h⟩
  · rw [c1, c2, if_neg me_10, if_pos rfl, me_f1]; exact ⟨rfl, h⟩
  · rw [c1, c2, c3, if_neg me_10, if_neg me_ft, if_pos rfl, me_f1]; exact ⟨rfl, h⟩
noncomputable def mc1 (c : Int32) : Int32 := if c = 0 then 0 else 1
theorem me_sort {w : Bool} (a : Int32) {f : Nat → Int64} (g : Nat → Int64) (p : Int32) (h : okA w f) : o_X5_sort w a f p = ((o_X0_sort w a f g p).2.1, (o_X0_sort w a f g p).2.2.1, (o_X0_sort w a f g p).2.2.2.1, mc1 (o_X0_sort w a f g p).1) ∧ okA w (o_X0_sort w a f g p).2.2.2.1 := by
  rw [o_X5_sort, o_X0_sort, o_X4_sort]
  obtain ⟨s1, s2, s3⟩ := mw_sort (g := g) h
  rcases me_choice p 1 with ⟨d1, d2⟩ | ⟨d1, d2⟩
  · rw [d1, d2, if_pos rfl, if_pos rfl, s1, s2]
    exact ⟨rfl, s3⟩
  · rw [d1, d2, if_neg me_20, if_neg me_ft]
    exact ⟨rfl, h⟩
theorem me_xendV {w : Bool} {f : Nat → Int64} (h : okA w f) (b : Bool) : ∀ (n i : Nat) (v : Int64), i + n = 8 → okV w v → okV w (L_xend w f b n i v) := by
  intro n
  induction n with
  | zero => intro i v _ hv; exact hv
  | succ n ih =>
    intro i v hi hv
    rw [L_xend, o_X1_greater, o_X1_lesser]
    have hf := h i (by omega)
    split
    · split
      · exact ih _ _ (by omega) hv
      · exact ih _ _ (by omega) hf
    · split
      · exact ih _ _ (by omega) hv
      · exact ih _ _ (by omega) hf
theorem me_end {w : Bool} (a : Int32) {f : Nat → Int64} (b : Bool) (p : Int32) (h : okA w f) : o_X5_end w a f b p = ((o_X0_putEnd w a f b p).2.1, (o_X0_putEnd w a f b p).2.2.1, (o_X0_putEnd w a f b p).2.2.2, (o_X0_putEnd w a f b p).1) ∧ okA w (o_X0_putEnd w a f b p).2.2.2 := by
  have e : o_X4_end w f b = L_xend w f b 7 1 (f 0) := by
    rw [o_X4_end, (mp_end (me_okF h) b 8 0 (f 0) rfl (h 0 (by omega)).1).1, L_xend, o_X1_greater, o_X1_lesser, ite_self, ite_self, ite_self]
  rw [o_X5_end, o_X0_putEnd, e]
  simp only [me_come]
  rcases me_cell p with ⟨c1, c2, c3⟩ | ⟨c1, c2⟩
  · rw [c1, c2, if_pos rfl, me_f3, if_neg me_ft]
    exact ⟨rfl, me_place a p h (me_xendV h b 7 1 (f 0) rfl (h 0 (by omega)))⟩
  · rw [c1, c2, if_neg me_10, me_f1, if_pos rfl]
    exact ⟨rfl, h⟩
