
theorem or_r {x k : Int32} (h : x = 0 ∨ x = k) : ¬ x = 0 → x = k := fun n => h.resolve_left n
theorem cc_01 (p : Int32) : o_X2_checkCell p = 0 ∨ o_X2_checkCell p = 1 := by
  rw [o_X2_checkCell]
  by_cases c1 : p < 0
  · rw [if_pos c1]; exact Or.inr rfl
  · rw [if_neg c1]
    by_cases c2 : p < 8
    · rw [if_pos c2]; exact Or.inl rfl
    · rw [if_neg c2]; exact Or.inr rfl
theorem ch_02 (p n : Int32) : o_X2_checkChoice p n = 0 ∨ o_X2_checkChoice p n = 2 := by
  rw [o_X2_checkChoice]
  by_cases c1 : p < 0
  · rw [if_pos c1]; exact Or.inr rfl
  · rw [if_neg c1]
    by_cases c2 : p ≤ n
    · rw [if_pos c2]; exact Or.inl rfl
    · rw [if_neg c2]; exact Or.inr rfl
noncomputable def cc2 (p q : Int32) : Int32 := if o_X2_checkCell p = 0 then o_X2_checkCell q else o_X2_checkCell p
theorem cc2_01 (p q : Int32) : cc2 p q = 0 ∨ cc2 p q = 1 := by
  rw [cc2]
  by_cases c : o_X2_checkCell p = 0
  · rw [if_pos c]; exact cc_01 q
  · rw [if_neg c]; exact cc_01 p
theorem ccs_01 (p q r : Int32) : o_X0_checkCells p q r = 0 ∨ o_X0_checkCells p q r = 1 := by
  rw [o_X0_checkCells]
  by_cases c : o_X2_checkCell p = 0
  · rw [if_pos c]
    by_cases d : o_X2_checkCell q = 0
    · rw [if_pos d]
      by_cases e : o_X2_checkCell r = 0
      · rw [if_pos e]; exact Or.inl rfl
      · rw [if_neg e]; exact cc_01 r
    · rw [if_neg d]; exact cc_01 q
  · rw [if_neg c]; exact cc_01 p
theorem has_0 (w : Bool) (f : Nat → Int64) (p : Int32) : ∀ n i : Nat, (L_xhas w f p n i).1 = 0 := by
  intro n
  induction n with
  | zero => intro i; rfl
  | succ n ih =>
    intro i
    rw [L_xhas]
    split
    · rfl
    · exact ih _
noncomputable def xL (D : va_G) (cl : List vw_C) (ws : va_W) (tys : List (ClassId × FieldType)) (sz N : Nat) (U : State) : Prop := xM D cl ws tys sz N U ∧ va_Nc "java/lang/IllegalArgumentException" "java/lang/IndexOutOfBoundsException" U
theorem xL.blind {D : va_G} {cl : List vw_C} {ws : va_W} {tys : List (ClassId × FieldType)} {sz N : Nat} {av : List Value} : FrameBlind (va_Pc av (xL D cl ws tys sz N)) := by
  intro a U g mk q
  obtain ⟨q0, q1, q2⟩ := q
  have h := xM.blind a U g mk (show va_Pc av (xM D cl ws tys sz N) a U from ⟨q0, q1⟩)
  exact ⟨h.1, h.2, va_Nc.moved (u := U) (U := U.calling g mk a) (Vm.Alike.refl U.vm) q2⟩
theorem xL.preS {D : va_G} {cl : List vw_C} {ws : va_W} {tys : List (ClassId × FieldType)} {s : State} {H : Heap} {A : Nat → Prop} {N : Nat} {As : List Value} (hK : va_K D cl tys s) (hP : va_P D cl ws H) (hD : va_D A ws) (hAN : ∀ q, A q → N ≤ q) (hN : N ≤ H.size) (hG : gG N s H) (hnc : va_Nc "java/lang/IllegalArgumentException" "java/lang/IndexOutOfBoundsException" s) : PreS s H (va_Pc As (xL D cl ws tys H.size N)) As :=
  ⟨xL.blind, fun U hU hW => ⟨rfl, ((xM.preS (As := As) hK hP hD hAN hN hG).2 U hU hW).2, va_Nc.moved hW.alike hnc⟩⟩
noncomputable abbrev eO (n : Int64) (sv : Value) : va_E := .inr (5, [.long n, sv])

theorem e_X0_put (w : Bool) (a : Int32) (rv : Int32) (f : Nat → Int64) (p0 : Int32) (p1 : Int64) : (o_X0_put w a rv f p0 p1).1 = o_X2_checkCell p0 := by
  rw [o_X0_put]
  by_cases c : o_X2_checkCell p0 = 0
  · rw [if_pos c, c]
    try ((repeat' split) <;> rfl)
  · rw [if_neg c]
theorem e_X0_putEnd (w : Bool) (a : Int32) (f : Nat → Int64) (p0 : Bool) (p1 : Int32) : (o_X0_putEnd w a f p0 p1).1 = o_X2_checkCell p1 := by
  rw [o_X0_putEnd]
  by_cases c : o_X2_checkCell p1 = 0
  · rw [if_pos c, c]
    try ((repeat' split) <;> rfl)
  · rw [if_neg c]
theorem e_X0_firstHalf (f : Nat → Int64) (p0 : Int32) : (o_X0_firstHalf f p0).1 = o_X2_checkCell p0 := by
  rw [o_X0_firstHalf]
  by_cases c : o_X2_checkCell p0 = 0
  · rw [if_pos c, c]
    try ((repeat' split) <;> rfl)
  · rw [if_neg c]
theorem e_X0_lastHalf (f : Nat → Int64) (p0 : Int32) : (o_X0_lastHalf f p0).1 = o_X2_checkCell p0 := by
  rw [o_X0_lastHalf]
  by_cases c : o_X2_checkCell p0 = 0
  · rw [if_pos c, c]
    try ((repeat' split) <;> rfl)
  · rw [if_neg c]
theorem e_X0_quarters (w : Bool) (f : Nat → Int64) (p0 : Int32) : (o_X0_quarters w f p0).1 = o_X2_checkCell p0 := by
  rw [o_X0_quarters]
  by_cases c : o_X2_checkCell p0 = 0
  · rw [if_pos c, c]
    try ((repeat' split) <;> rfl)
  · rw [if_neg c]
theorem e_X0_find (f : Nat → Int64) (p0 : Int32) (p1 : Bool) : (o_X0_find f p0 p1).1 = o_X2_checkCell p0 := by
  rw [o_X0_find]
  by_cases c : o_X2_checkCell p0 = 0
  · rw [if_pos c, c]
    try ((repeat' split) <;> rfl)
  · rw [if_neg c]
theorem e_X0_copy (a : Int32) (f : Nat → Int64) (p0 : Int32) (p1 : Int32) : (o_X0_copy a f p0 p1).1 = cc2 p0 p1 := by
  rw [o_X0_copy]
  by_cases c : o_X2_checkCell p0 = 0
  · rw [if_pos c, cc2, if_pos c]
    by_cases d : o_X2_checkCell p1 = 0
    · rw [if_pos d, d]
      try ((repeat' split) <;> rfl)
    · rw [if_neg d]
  · rw [if_neg c, cc2, if_neg c]
theorem e_X0_swap (a : Int32) (f : Nat → Int64) (p0 : Int32) (p1 : Int32) : (o_X0_swap a f p0 p1).1 = cc2 p0 p1 := by
  rw [o_X0_swap]
  by_cases c : o_X2_checkCell p0 = 0
  · rw [if_pos c, cc2, if_pos c]
    by_cases d : o_X2_checkCell p1 = 0
    · rw [if_pos d, d]
      try ((repeat' split) <;> rfl)
    · rw [if_neg d]
  · rw [if_neg c, cc2, if_neg c]
theorem e_X0_areLike (w : Bool) (f : Nat → Int64) (p0 : Int32) (p1 : Int32) : (o_X0_areLike w f p0 p1).1 = cc2 p0 p1 := by
  rw [o_X0_areLike]
  by_cases c : o_X2_checkCell p0 = 0
  · rw [if_pos c, cc2, if_pos c]
    by_cases d : o_X2_checkCell p1 = 0
    · rw [if_pos d, d]
      try ((repeat' split) <;> rfl)
    · rw [if_neg d]
  · rw [if_neg c, cc2, if_neg c]
theorem e_X0_isBelow (w : Bool) (f : Nat → Int64) (p0 : Int32) (p1 : Int32) (p2 : Bool) : (o_X0_isBelow w f p0 p1 p2).1 = cc2 p0 p1 := by
  rw [o_X0_isBelow]
  by_cases c : o_X2_checkCell p0 = 0
  · rw [if_pos c, cc2, if_pos c]
    by_cases d : o_X2_checkCell p1 = 0
    · rw [if_pos d, d]
      try ((repeat' split) <;> rfl)
    · rw [if_neg d]
  · rw [if_neg c, cc2, if_neg c]
theorem e_X0_putGreater (w : Bool) (a : Int32) (f : Nat → Int64) (p0 : Int32) (p1 : Int32) (p2 : Int32) : (o_X0_putGreater w a f p0 p1 p2).1 = o_X0_checkCells p0 p1 p2 := by
  rw [o_X0_putGreater]
  by_cases c : o_X0_checkCells p0 p1 p2 = 0
  · rw [if_pos c, c]
    try ((repeat' split) <;> rfl)
  · rw [if_neg c]
theorem e_X0_putLesser (w : Bool) (a : Int32) (f : Nat → Int64) (p0 : Int32) (p1 : Int32) (p2 : Int32) : (o_X0_putLesser w a f p0 p1 p2).1 = o_X0_checkCells p0 p1 p2 := by
  rw [o_X0_putLesser]
  by_cases c : o_X0_checkCells p0 p1 p2 = 0
  · rw [if_pos c, c]
    try ((repeat' split) <;> rfl)
  · rw [if_neg c]
theorem e_X0_putSum (w : Bool) (a : Int32) (rv : Int32) (f : Nat → Int64) (p0 : Int32) (p1 : Int32) (p2 : Int32) : (o_X0_putSum w a rv f p0 p1 p2).1 = o_X0_checkCells p0 p1 p2 := by
  rw [o_X0_putSum]
  by_cases c : o_X0_checkCells p0 p1 p2 = 0
  · rw [if_pos c, c]
    try ((repeat' split) <;> rfl)
  · rw [if_neg c]
theorem e_X0_sort (w : Bool) (a : Int32) (f : Nat → Int64) (g : Nat → Int64) (p0 : Int32) : (o_X0_sort w a f g p0).1 = o_X2_checkChoice p0 1 := by
  rw [o_X0_sort]
  by_cases c : o_X2_checkChoice p0 1 = 0
  · rw [if_pos c, c]
    try exact has_0 _ _ _ _ _
  · rw [if_neg c]
theorem e_X0_has (w : Bool) (f : Nat → Int64) (p0 : Int32) : (o_X0_has w f p0).1 = o_X2_checkChoice p0 6 := by
  rw [o_X0_has]
  by_cases c : o_X2_checkChoice p0 6 = 0
  · rw [if_pos c, c]
    try exact has_0 _ _ _ _ _
  · rw [if_neg c]
theorem e_X2_digits (f2 : Nat → Int64) (p0 : Int32) : (o_X2_digits f2 p0).1 = (o_X0_lastHalf f2 p0).1 := by
  rw [o_X2_digits]
  by_cases c : (o_X0_lastHalf f2 p0).1 = 0
  · rw [if_pos c, c]
  · rw [if_neg c]
theorem xr_X2_digits (f2 : Nat → Int64) (p0 : Int32) : ¬ (o_X2_digits f2 p0).1 = 0 → (o_X2_digits f2 p0).1 = 1 := by
  rw [e_X2_digits, e_X0_lastHalf]
  exact or_r (cc_01 _)
theorem e_X2_lower (f1 : Nat → Int64) (p0 : Int32) : (o_X2_lower f1 p0).1 = (o_X0_lastHalf f1 p0).1 := by
  rw [o_X2_lower]
  by_cases c : (o_X0_lastHalf f1 p0).1 = 0
  · rw [if_pos c, c]
  · rw [if_neg c]
theorem xr_X2_lower (f1 : Nat → Int64) (p0 : Int32) : ¬ (o_X2_lower f1 p0).1 = 0 → (o_X2_lower f1 p0).1 = 1 := by
  rw [e_X2_lower, e_X0_lastHalf]
  exact or_r (cc_01 _)
theorem e_X2_narrowBelow (f2 : Nat → Int64) (p0 : Int32) (p1 : Int32) (p2 : Bool) : (o_X2_narrowBelow f2 p0 p1 p2).1 = (o_X0_isBelow false f2 p0 p1 p2).1 := by
  rw [o_X2_narrowBelow]
  by_cases c : (o_X0_isBelow false f2 p0 p1 p2).1 = 0
  · rw [if_pos c, c]
  · rw [if_neg c]
theorem xr_X2_narrowBelow (f2 : Nat → Int64) (p0 : Int32) (p1 : Int32) (p2 : Bool) : ¬ (o_X2_narrowBelow f2 p0 p1 p2).1 = 0 → (o_X2_narrowBelow f2 p0 p1 p2).1 = 1 := by
  rw [e_X2_narrowBelow, e_X0_isBelow]
  exact or_r (cc2_01 _ _)
theorem e_X2_narrowCopy (a2 : Int32) (f2 : Nat → Int64) (p0 : Int32) (p1 : Int32) : (o_X2_narrowCopy a2 f2 p0 p1).1 = (o_X0_copy a2 f2 p0 p1).1 := by
  rw [o_X2_narrowCopy]
  by_cases c : (o_X0_copy a2 f2 p0 p1).1 = 0
  · rw [if_pos c, c]
  · rw [if_neg c]
theorem xr_X2_narrowCopy (a2 : Int32) (f2 : Nat → Int64) (p0 : Int32) (p1 : Int32) : ¬ (o_X2_narrowCopy a2 f2 p0 p1).1 = 0 → (o_X2_narrowCopy a2 f2 p0 p1).1 = 1 := by
  rw [e_X2_narrowCopy, e_X0_copy]
  exact or_r (cc2_01 _ _)
theorem e_X2_narrowCount (f2 : Nat → Int64) (p0 : Int32) : (o_X2_narrowCount f2 p0).1 = (o_X0_quarters false f2 p0).1 := by
  rw [o_X2_narrowCount]
  by_cases c : (o_X0_quarters false f2 p0).1 = 0
  · rw [if_pos c, c]
  · rw [if_neg c]
theorem xr_X2_narrowCount (f2 : Nat → Int64) (p0 : Int32) : ¬ (o_X2_narrowCount f2 p0).1 = 0 → (o_X2_narrowCount f2 p0).1 = 1 := by
  rw [e_X2_narrowCount, e_X0_quarters]
  exact or_r (cc_01 _)
theorem e_X2_narrowEnd (a2 : Int32) (f2 : Nat → Int64) (p0 : Bool) (p1 : Int32) : (o_X2_narrowEnd a2 f2 p0 p1).1 = (o_X0_putEnd false a2 f2 p0 p1).1 := by
  rw [o_X2_narrowEnd]
  by_cases c : (o_X0_putEnd false a2 f2 p0 p1).1 = 0
  · rw [if_pos c, c]
  · rw [if_neg c]
theorem xr_X2_narrowEnd (a2 : Int32) (f2 : Nat → Int64) (p0 : Bool) (p1 : Int32) : ¬ (o_X2_narrowEnd a2 f2 p0 p1).1 = 0 → (o_X2_narrowEnd a2 f2 p0 p1).1 = 1 := by
  rw [e_X2_narrowEnd, e_X0_putEnd]
  exact or_r (cc_01 _)
theorem e_X2_narrowEndless (f2 : Nat → Int64) (p0 : Int32) (p1 : Int32) : (o_X2_narrowEndless f2 p0 p1).1 = (o_X0_isEndless false f2 p0 p1).1 := by
  rw [o_X2_narrowEndless]
  by_cases c : (o_X0_isEndless false f2 p0 p1).1 = 0
  · rw [if_pos c, c]
  · rw [if_neg c]
theorem e_X2_narrowFind (f2 : Nat → Int64) (p0 : Int32) (p1 : Bool) : (o_X2_narrowFind f2 p0 p1).1 = (o_X0_find f2 p0 p1).1 := by
  rw [o_X2_narrowFind]
  by_cases c : (o_X0_find f2 p0 p1).1 = 0
  · rw [if_pos c, c]
  · rw [if_neg c]
theorem xr_X2_narrowFind (f2 : Nat → Int64) (p0 : Int32) (p1 : Bool) : ¬ (o_X2_narrowFind f2 p0 p1).1 = 0 → (o_X2_narrowFind f2 p0 p1).1 = 1 := by
  rw [e_X2_narrowFind, e_X0_find]
  exact or_r (cc_01 _)
theorem e_X2_narrowHas (f2 : Nat → Int64) (p0 : Int32) : (o_X2_narrowHas f2 p0).1 = (o_X0_has false f2 p0).1 := by
  rw [o_X2_narrowHas]
  by_cases c : (o_X0_has false f2 p0).1 = 0
  · rw [if_pos c, c]
  · rw [if_neg c]
theorem xr_X2_narrowHas (f2 : Nat → Int64) (p0 : Int32) : ¬ (o_X2_narrowHas f2 p0).1 = 0 → (o_X2_narrowHas f2 p0).1 = 2 := by
  rw [e_X2_narrowHas, e_X0_has]
  exact or_r (ch_02 _ _)
theorem e_X2_narrowHash (f2 : Nat → Int64) (p0 : Int32) (p1 : Int32) : (o_X2_narrowHash f2 p0 p1).1 = (o_X0_hash f2 p0 p1).1 := by
  rw [o_X2_narrowHash]
  by_cases c : (o_X0_hash f2 p0 p1).1 = 0
  · rw [if_pos c, c]
  · rw [if_neg c]
theorem e_X2_narrowKnown (a2 : Int32) (f2 : Nat → Int64) (p0 : Int32) (p1 : Int32) : (o_X2_narrowKnown a2 f2 p0 p1).1 = (o_X0_putKnown false a2 f2 p0 p1).1 := by
  rw [o_X2_narrowKnown]
  by_cases c : (o_X0_putKnown false a2 f2 p0 p1).1 = 0
  · rw [if_pos c, c]
  · rw [if_neg c]
theorem e_X2_narrowLike (f2 : Nat → Int64) (p0 : Int32) (p1 : Int32) : (o_X2_narrowLike f2 p0 p1).1 = (o_X0_areLike false f2 p0 p1).1 := by
  rw [o_X2_narrowLike]
  by_cases c : (o_X0_areLike false f2 p0 p1).1 = 0
  · rw [if_pos c, c]
  · rw [if_neg c]
theorem xr_X2_narrowLike (f2 : Nat → Int64) (p0 : Int32) (p1 : Int32) : ¬ (o_X2_narrowLike f2 p0 p1).1 = 0 → (o_X2_narrowLike f2 p0 p1).1 = 1 := by
  rw [e_X2_narrowLike, e_X0_areLike]
  exact or_r (cc2_01 _ _)
theorem e_X2_narrowMax (a2 : Int32) (f2 : Nat → Int64) (p0 : Int32) (p1 : Int32) (p2 : Int32) : (o_X2_narrowMax a2 f2 p0 p1 p2).1 = (o_X0_putGreater false a2 f2 p0 p1 p2).1 := by
  rw [o_X2_narrowMax]
  by_cases c : (o_X0_putGreater false a2 f2 p0 p1 p2).1 = 0
  · rw [if_pos c, c]
  · rw [if_neg c]
theorem xr_X2_narrowMax (a2 : Int32) (f2 : Nat → Int64) (p0 : Int32) (p1 : Int32) (p2 : Int32) : ¬ (o_X2_narrowMax a2 f2 p0 p1 p2).1 = 0 → (o_X2_narrowMax a2 f2 p0 p1 p2).1 = 1 := by
  rw [e_X2_narrowMax, e_X0_putGreater]
  exact or_r (ccs_01 _ _ _)
theorem e_X2_narrowMin (a2 : Int32) (f2 : Nat → Int64) (p0 : Int32) (p1 : Int32) (p2 : Int32) : (o_X2_narrowMin a2 f2 p0 p1 p2).1 = (o_X0_putLesser false a2 f2 p0 p1 p2).1 := by
  rw [o_X2_narrowMin]
  by_cases c : (o_X0_putLesser false a2 f2 p0 p1 p2).1 = 0
  · rw [if_pos c, c]
  · rw [if_neg c]
theorem xr_X2_narrowMin (a2 : Int32) (f2 : Nat → Int64) (p0 : Int32) (p1 : Int32) (p2 : Int32) : ¬ (o_X2_narrowMin a2 f2 p0 p1 p2).1 = 0 → (o_X2_narrowMin a2 f2 p0 p1 p2).1 = 1 := by
  rw [e_X2_narrowMin, e_X0_putLesser]
  exact or_r (ccs_01 _ _ _)
theorem e_X2_narrowOrder (f2 : Nat → Int64) (p0 : Int32) (p1 : Int32) (p2 : Int32) : (o_X2_narrowOrder f2 p0 p1 p2).1 = (o_X0_order false f2 p0 p1 p2).1 := by
  rw [o_X2_narrowOrder]
  by_cases c : (o_X0_order false f2 p0 p1 p2).1 = 0
  · rw [if_pos c, c]
  · rw [if_neg c]
theorem e_X2_narrowOther  (p0 : Int32) (p1 : Int32) : (o_X2_narrowOther p0 p1).1 = (o_X0_isEqualToOther p0 p1).1 := by
  rw [o_X2_narrowOther]
  by_cases c : (o_X0_isEqualToOther p0 p1).1 = 0
  · rw [if_pos c, c]
  · rw [if_neg c]
theorem e_X2_narrowQuarters (a2 : Int32) (f2 : Nat → Int64) (p0 : Int32) (p1 : Int32) : (o_X2_narrowQuarters a2 f2 p0 p1).1 = (o_X0_putQuarters false a2 f2 p0 p1).1 := by
  rw [o_X2_narrowQuarters]
  by_cases c : (o_X0_putQuarters false a2 f2 p0 p1).1 = 0
  · rw [if_pos c, c]
  · rw [if_neg c]
theorem e_X2_narrowSame (f2 : Nat → Int64) (p0 : Int32) (p1 : Int32) (p2 : Int32) : (o_X2_narrowSame f2 p0 p1 p2).1 = (o_X0_areSame false f2 p0 p1 p2).1 := by
  rw [o_X2_narrowSame]
  by_cases c : (o_X0_areSame false f2 p0 p1 p2).1 = 0
  · rw [if_pos c, c]
  · rw [if_neg c]
theorem e_X2_narrowSort (a2 : Int32) (f2 : Nat → Int64) (g2 : Nat → Int64) (p0 : Int32) : (o_X2_narrowSort a2 f2 g2 p0).1 = (o_X0_sort false a2 f2 g2 p0).1 := by
  rw [o_X2_narrowSort]
  by_cases c : (o_X0_sort false a2 f2 g2 p0).1 = 0
  · rw [if_pos c, c]
  · rw [if_neg c]
theorem xr_X2_narrowSort (a2 : Int32) (f2 : Nat → Int64) (g2 : Nat → Int64) (p0 : Int32) : ¬ (o_X2_narrowSort a2 f2 g2 p0).1 = 0 → (o_X2_narrowSort a2 f2 g2 p0).1 = 2 := by
  rw [e_X2_narrowSort, e_X0_sort]
  exact or_r (ch_02 _ _)
theorem e_X2_narrowSum (a2 : Int32) (r2 : Int32) (f2 : Nat → Int64) (p0 : Int32) (p1 : Int32) (p2 : Int32) : (o_X2_narrowSum a2 r2 f2 p0 p1 p2).1 = (o_X0_putSum false a2 r2 f2 p0 p1 p2).1 := by
  rw [o_X2_narrowSum]
  by_cases c : (o_X0_putSum false a2 r2 f2 p0 p1 p2).1 = 0
  · rw [if_pos c, c]
  · rw [if_neg c]
theorem xr_X2_narrowSum (a2 : Int32) (r2 : Int32) (f2 : Nat → Int64) (p0 : Int32) (p1 : Int32) (p2 : Int32) : ¬ (o_X2_narrowSum a2 r2 f2 p0 p1 p2).1 = 0 → (o_X2_narrowSum a2 r2 f2 p0 p1 p2).1 = 1 := by
  rw [e_X2_narrowSum, e_X0_putSum]
  exact or_r (ccs_01 _ _ _)
theorem e_X2_narrowSwap (a2 : Int32) (f2 : Nat → Int64) (p0 : Int32) (p1 : Int32) : (o_X2_narrowSwap a2 f2 p0 p1).1 = (o_X0_swap a2 f2 p0 p1).1 := by
  rw [o_X2_narrowSwap]
  by_cases c : (o_X0_swap a2 f2 p0 p1).1 = 0
  · rw [if_pos c, c]
  · rw [if_neg c]
theorem xr_X2_narrowSwap (a2 : Int32) (f2 : Nat → Int64) (p0 : Int32) (p1 : Int32) : ¬ (o_X2_narrowSwap a2 f2 p0 p1).1 = 0 → (o_X2_narrowSwap a2 f2 p0 p1).1 = 1 := by
  rw [e_X2_narrowSwap, e_X0_swap]
  exact or_r (cc2_01 _ _)
theorem e_X2_putNarrow (a2 : Int32) (r2 : Int32) (f2 : Nat → Int64) (p0 : Int32) (p1 : Int32) : (o_X2_putNarrow a2 r2 f2 p0 p1).1 = (o_X0_put false a2 r2 f2 p0 (p1.toInt64 &&& 4294967295)).1 := by
  rw [o_X2_putNarrow]
  by_cases c : (o_X0_put false a2 r2 f2 p0 (p1.toInt64 &&& 4294967295)).1 = 0
  · rw [if_pos c, c]
  · rw [if_neg c]
theorem xr_X2_putNarrow (a2 : Int32) (r2 : Int32) (f2 : Nat → Int64) (p0 : Int32) (p1 : Int32) : ¬ (o_X2_putNarrow a2 r2 f2 p0 p1).1 = 0 → (o_X2_putNarrow a2 r2 f2 p0 p1).1 = 1 := by
  rw [e_X2_putNarrow, e_X0_put]
  exact or_r (cc_01 _)
theorem e_X2_putWide (a1 : Int32) (r1 : Int32) (f1 : Nat → Int64) (p0 : Int32) (p1 : Int32) (p2 : Int32) : (o_X2_putWide a1 r1 f1 p0 p1 p2).1 = (o_X0_put true a1 r1 f1 p0 ((jLshl p1.toInt64 32) ||| (p2.toInt64 &&& 4294967295))).1 := by
  rw [o_X2_putWide]
  by_cases c : (o_X0_put true a1 r1 f1 p0 ((jLshl p1.toInt64 32) ||| (p2.toInt64 &&& 4294967295))).1 = 0
  · rw [if_pos c, c]
  · rw [if_neg c]
theorem xr_X2_putWide (a1 : Int32) (r1 : Int32) (f1 : Nat → Int64) (p0 : Int32) (p1 : Int32) (p2 : Int32) : ¬ (o_X2_putWide a1 r1 f1 p0 p1 p2).1 = 0 → (o_X2_putWide a1 r1 f1 p0 p1 p2).1 = 1 := by
  rw [e_X2_putWide, e_X0_put]
  exact or_r (cc_01 _)
theorem e_X2_upper (f1 : Nat → Int64) (p0 : Int32) : (o_X2_upper f1 p0).1 = (o_X0_firstHalf f1 p0).1 := by
  rw [o_X2_upper]
  by_cases c : (o_X0_firstHalf f1 p0).1 = 0
  · rw [if_pos c, c]
  · rw [if_neg c]
theorem xr_X2_upper (f1 : Nat → Int64) (p0 : Int32) : ¬ (o_X2_upper f1 p0).1 = 0 → (o_X2_upper f1 p0).1 = 1 := by
  rw [e_X2_upper, e_X0_firstHalf]
  exact or_r (cc_01 _)
theorem e_X2_wideBelow (f1 : Nat → Int64) (p0 : Int32) (p1 : Int32) (p2 : Bool) : (o_X2_wideBelow f1 p0 p1 p2).1 = (o_X0_isBelow true f1 p0 p1 p2).1 := by
  rw [o_X2_wideBelow]
  by_cases c : (o_X0_isBelow true f1 p0 p1 p2).1 = 0
  · rw [if_pos c, c]
  · rw [if_neg c]
theorem xr_X2_wideBelow (f1 : Nat → Int64) (p0 : Int32) (p1 : Int32) (p2 : Bool) : ¬ (o_X2_wideBelow f1 p0 p1 p2).1 = 0 → (o_X2_wideBelow f1 p0 p1 p2).1 = 1 := by
  rw [e_X2_wideBelow, e_X0_isBelow]
  exact or_r (cc2_01 _ _)
theorem e_X2_wideCopy (a1 : Int32) (f1 : Nat → Int64) (p0 : Int32) (p1 : Int32) : (o_X2_wideCopy a1 f1 p0 p1).1 = (o_X0_copy a1 f1 p0 p1).1 := by
  rw [o_X2_wideCopy]
  by_cases c : (o_X0_copy a1 f1 p0 p1).1 = 0
  · rw [if_pos c, c]
  · rw [if_neg c]
theorem xr_X2_wideCopy (a1 : Int32) (f1 : Nat → Int64) (p0 : Int32) (p1 : Int32) : ¬ (o_X2_wideCopy a1 f1 p0 p1).1 = 0 → (o_X2_wideCopy a1 f1 p0 p1).1 = 1 := by
  rw [e_X2_wideCopy, e_X0_copy]
  exact or_r (cc2_01 _ _)
theorem e_X2_wideCount (f1 : Nat → Int64) (p0 : Int32) : (o_X2_wideCount f1 p0).1 = (o_X0_quarters true f1 p0).1 := by
  rw [o_X2_wideCount]
  by_cases c : (o_X0_quarters true f1 p0).1 = 0
  · rw [if_pos c, c]
  · rw [if_neg c]
theorem xr_X2_wideCount (f1 : Nat → Int64) (p0 : Int32) : ¬ (o_X2_wideCount f1 p0).1 = 0 → (o_X2_wideCount f1 p0).1 = 1 := by
  rw [e_X2_wideCount, e_X0_quarters]
  exact or_r (cc_01 _)
theorem e_X2_wideEnd (a1 : Int32) (f1 : Nat → Int64) (p0 : Bool) (p1 : Int32) : (o_X2_wideEnd a1 f1 p0 p1).1 = (o_X0_putEnd true a1 f1 p0 p1).1 := by
  rw [o_X2_wideEnd]
  by_cases c : (o_X0_putEnd true a1 f1 p0 p1).1 = 0
  · rw [if_pos c, c]
  · rw [if_neg c]
theorem xr_X2_wideEnd (a1 : Int32) (f1 : Nat → Int64) (p0 : Bool) (p1 : Int32) : ¬ (o_X2_wideEnd a1 f1 p0 p1).1 = 0 → (o_X2_wideEnd a1 f1 p0 p1).1 = 1 := by
  rw [e_X2_wideEnd, e_X0_putEnd]
  exact or_r (cc_01 _)
theorem e_X2_wideEndless (f1 : Nat → Int64) (p0 : Int32) (p1 : Int32) : (o_X2_wideEndless f1 p0 p1).1 = (o_X0_isEndless true f1 p0 p1).1 := by
  rw [o_X2_wideEndless]
  by_cases c : (o_X0_isEndless true f1 p0 p1).1 = 0
  · rw [if_pos c, c]
  · rw [if_neg c]
theorem e_X2_wideFind (f1 : Nat → Int64) (p0 : Int32) (p1 : Bool) : (o_X2_wideFind f1 p0 p1).1 = (o_X0_find f1 p0 p1).1 := by
  rw [o_X2_wideFind]
  by_cases c : (o_X0_find f1 p0 p1).1 = 0
  · rw [if_pos c, c]
  · rw [if_neg c]
theorem xr_X2_wideFind (f1 : Nat → Int64) (p0 : Int32) (p1 : Bool) : ¬ (o_X2_wideFind f1 p0 p1).1 = 0 → (o_X2_wideFind f1 p0 p1).1 = 1 := by
  rw [e_X2_wideFind, e_X0_find]
  exact or_r (cc_01 _)
theorem e_X2_wideHas (f1 : Nat → Int64) (p0 : Int32) : (o_X2_wideHas f1 p0).1 = (o_X0_has true f1 p0).1 := by
  rw [o_X2_wideHas]
  by_cases c : (o_X0_has true f1 p0).1 = 0
  · rw [if_pos c, c]
  · rw [if_neg c]
theorem xr_X2_wideHas (f1 : Nat → Int64) (p0 : Int32) : ¬ (o_X2_wideHas f1 p0).1 = 0 → (o_X2_wideHas f1 p0).1 = 2 := by
  rw [e_X2_wideHas, e_X0_has]
  exact or_r (ch_02 _ _)
theorem e_X2_wideHash (f1 : Nat → Int64) (p0 : Int32) (p1 : Int32) : (o_X2_wideHash f1 p0 p1).1 = (o_X0_hash f1 p0 p1).1 := by
  rw [o_X2_wideHash]
  by_cases c : (o_X0_hash f1 p0 p1).1 = 0
  · rw [if_pos c, c]
  · rw [if_neg c]
theorem e_X2_wideKnown (a1 : Int32) (f1 : Nat → Int64) (p0 : Int32) (p1 : Int32) : (o_X2_wideKnown a1 f1 p0 p1).1 = (o_X0_putKnown true a1 f1 p0 p1).1 := by
  rw [o_X2_wideKnown]
  by_cases c : (o_X0_putKnown true a1 f1 p0 p1).1 = 0
  · rw [if_pos c, c]
  · rw [if_neg c]
theorem e_X2_wideLike (f1 : Nat → Int64) (p0 : Int32) (p1 : Int32) : (o_X2_wideLike f1 p0 p1).1 = (o_X0_areLike true f1 p0 p1).1 := by
  rw [o_X2_wideLike]
  by_cases c : (o_X0_areLike true f1 p0 p1).1 = 0
  · rw [if_pos c, c]
  · rw [if_neg c]
theorem xr_X2_wideLike (f1 : Nat → Int64) (p0 : Int32) (p1 : Int32) : ¬ (o_X2_wideLike f1 p0 p1).1 = 0 → (o_X2_wideLike f1 p0 p1).1 = 1 := by
  rw [e_X2_wideLike, e_X0_areLike]
  exact or_r (cc2_01 _ _)
theorem e_X2_wideMax (a1 : Int32) (f1 : Nat → Int64) (p0 : Int32) (p1 : Int32) (p2 : Int32) : (o_X2_wideMax a1 f1 p0 p1 p2).1 = (o_X0_putGreater true a1 f1 p0 p1 p2).1 := by
  rw [o_X2_wideMax]
  by_cases c : (o_X0_putGreater true a1 f1 p0 p1 p2).1 = 0
  · rw [if_pos c, c]
  · rw [if_neg c]
theorem xr_X2_wideMax (a1 : Int32) (f1 : Nat → Int64) (p0 : Int32) (p1 : Int32) (p2 : Int32) : ¬ (o_X2_wideMax a1 f1 p0 p1 p2).1 = 0 → (o_X2_wideMax a1 f1 p0 p1 p2).1 = 1 := by
  rw [e_X2_wideMax, e_X0_putGreater]
  exact or_r (ccs_01 _ _ _)
theorem e_X2_wideMin (a1 : Int32) (f1 : Nat → Int64) (p0 : Int32) (p1 : Int32) (p2 : Int32) : (o_X2_wideMin a1 f1 p0 p1 p2).1 = (o_X0_putLesser true a1 f1 p0 p1 p2).1 := by
  rw [o_X2_wideMin]
  by_cases c : (o_X0_putLesser true a1 f1 p0 p1 p2).1 = 0
  · rw [if_pos c, c]
  · rw [if_neg c]
theorem xr_X2_wideMin (a1 : Int32) (f1 : Nat → Int64) (p0 : Int32) (p1 : Int32) (p2 : Int32) : ¬ (o_X2_wideMin a1 f1 p0 p1 p2).1 = 0 → (o_X2_wideMin a1 f1 p0 p1 p2).1 = 1 := by
  rw [e_X2_wideMin, e_X0_putLesser]
  exact or_r (ccs_01 _ _ _)
theorem e_X2_wideOrder (f1 : Nat → Int64) (p0 : Int32) (p1 : Int32) (p2 : Int32) : (o_X2_wideOrder f1 p0 p1 p2).1 = (o_X0_order true f1 p0 p1 p2).1 := by
  rw [o_X2_wideOrder]
  by_cases c : (o_X0_order true f1 p0 p1 p2).1 = 0
  · rw [if_pos c, c]
  · rw [if_neg c]
theorem e_X2_wideOther  (p0 : Int32) (p1 : Int32) : (o_X2_wideOther p0 p1).1 = (o_X0_isEqualToOther p0 p1).1 := by
  rw [o_X2_wideOther]
  by_cases c : (o_X0_isEqualToOther p0 p1).1 = 0
  · rw [if_pos c, c]
  · rw [if_neg c]
theorem e_X2_wideQuarters (a1 : Int32) (f1 : Nat → Int64) (p0 : Int32) (p1 : Int32) : (o_X2_wideQuarters a1 f1 p0 p1).1 = (o_X0_putQuarters true a1 f1 p0 p1).1 := by
  rw [o_X2_wideQuarters]
  by_cases c : (o_X0_putQuarters true a1 f1 p0 p1).1 = 0
  · rw [if_pos c, c]
  · rw [if_neg c]
theorem e_X2_wideSame (f1 : Nat → Int64) (p0 : Int32) (p1 : Int32) (p2 : Int32) : (o_X2_wideSame f1 p0 p1 p2).1 = (o_X0_areSame true f1 p0 p1 p2).1 := by
  rw [o_X2_wideSame]
  by_cases c : (o_X0_areSame true f1 p0 p1 p2).1 = 0
  · rw [if_pos c, c]
  · rw [if_neg c]
theorem e_X2_wideSort (a1 : Int32) (f1 : Nat → Int64) (g1 : Nat → Int64) (p0 : Int32) : (o_X2_wideSort a1 f1 g1 p0).1 = (o_X0_sort true a1 f1 g1 p0).1 := by
  rw [o_X2_wideSort]
  by_cases c : (o_X0_sort true a1 f1 g1 p0).1 = 0
  · rw [if_pos c, c]
  · rw [if_neg c]
theorem xr_X2_wideSort (a1 : Int32) (f1 : Nat → Int64) (g1 : Nat → Int64) (p0 : Int32) : ¬ (o_X2_wideSort a1 f1 g1 p0).1 = 0 → (o_X2_wideSort a1 f1 g1 p0).1 = 2 := by
  rw [e_X2_wideSort, e_X0_sort]
  exact or_r (ch_02 _ _)
theorem e_X2_wideSum (a1 : Int32) (r1 : Int32) (f1 : Nat → Int64) (p0 : Int32) (p1 : Int32) (p2 : Int32) : (o_X2_wideSum a1 r1 f1 p0 p1 p2).1 = (o_X0_putSum true a1 r1 f1 p0 p1 p2).1 := by
  rw [o_X2_wideSum]
  by_cases c : (o_X0_putSum true a1 r1 f1 p0 p1 p2).1 = 0
  · rw [if_pos c, c]
  · rw [if_neg c]
theorem xr_X2_wideSum (a1 : Int32) (r1 : Int32) (f1 : Nat → Int64) (p0 : Int32) (p1 : Int32) (p2 : Int32) : ¬ (o_X2_wideSum a1 r1 f1 p0 p1 p2).1 = 0 → (o_X2_wideSum a1 r1 f1 p0 p1 p2).1 = 1 := by
  rw [e_X2_wideSum, e_X0_putSum]
  exact or_r (ccs_01 _ _ _)
theorem e_X2_wideSwap (a1 : Int32) (f1 : Nat → Int64) (p0 : Int32) (p1 : Int32) : (o_X2_wideSwap a1 f1 p0 p1).1 = (o_X0_swap a1 f1 p0 p1).1 := by
  rw [o_X2_wideSwap]
  by_cases c : (o_X0_swap a1 f1 p0 p1).1 = 0
  · rw [if_pos c, c]
  · rw [if_neg c]
theorem xr_X2_wideSwap (a1 : Int32) (f1 : Nat → Int64) (p0 : Int32) (p1 : Int32) : ¬ (o_X2_wideSwap a1 f1 p0 p1).1 = 0 → (o_X2_wideSwap a1 f1 p0 p1).1 = 1 := by
  rw [e_X2_wideSwap, e_X0_swap]
  exact or_r (cc2_01 _ _)
theorem xr_X2_house (a1 : Int32) (r1 : Int32) (a2 : Int32) (r2 : Int32) (kn : Int32) (p0 : Int32) : ¬ (o_X2_house a1 r1 a2 r2 kn p0).1 = 0 → (o_X2_house a1 r1 a2 r2 kn p0).1 = 2 := by
  rw [o_X2_house]
  by_cases c : o_X2_checkChoice p0 3 = 0
  · rw [if_pos c]
    exact fun h => absurd rfl h
  · rw [if_neg c]
    exact fun _ => (ch_02 p0 3).resolve_left c
