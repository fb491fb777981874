/-! the digest, by both sides -/
theorem mg_cc {i : Nat} (hi : i < 8) : o_X2_checkCell (nI i) = 0 ∧ (nI i).toNatClampNeg = i ∧ vp_in (nI i) 8 :=
  ⟨xm_cc0 (xm_in0 ⟨rfl, hi⟩), nI_clamp (by omega), xm_in0 ⟨rfl, hi⟩⟩
theorem mg_mix (x y : Int64) : o_X2_mixed x y = o_X5_add x y := rfl
theorem mg_ch (p n : Int32) (h : 0 ≤ p) (h2 : p ≤ n) : o_X2_checkChoice p n = 0 := by
  rw [o_X2_checkChoice, if_neg (fun z => by
    have z := Int32.lt_iff_toInt_lt.mp z
    have h := Int32.le_iff_toInt_le.mp h
    omega), if_pos h2]
theorem mg_order {w : Bool} {f : Nat → Int64} (h : okA w f) {i j : Nat} (hi : i < 8) (hj : j < 8) : (o_X0_order w f (nI i) (nI j) 0).2 = o_X4_order w (f i) (f j) := by
  obtain ⟨a1, a2, a3⟩ := mg_cc hi
  obtain ⟨b1, b2, b3⟩ := mg_cc hj
  rw [o_X0_order, a1, b1, mg_ch 0 2 (by decide) (by decide), if_pos rfl, if_pos rfl, if_pos rfl, a2, b2, mo_order (h i hi).1 (h j hj).1]
theorem mg_like {w : Bool} {f : Nat → Int64} (h : okA w f) {i j : Nat} (hi : i < 8) (hj : j < 8) : (o_X0_areLike w f (nI i) (nI j)).2 = o_X5_areLike w (f i) (f j) := by
  obtain ⟨a1, a2, a3⟩ := mg_cc hi
  obtain ⟨b1, b2, b3⟩ := mg_cc hj
  rw [o_X0_areLike, a1, b1, if_pos rfl, if_pos rfl, a2, b2, mf_areLike (h i hi).1 (h j hj).1]
theorem mg_pb {w : Bool} {f : Nat → Int64} (h : okA w f) {i : Nat} (hi : i < 8) : ∀ (n j : Nat) (v : Int64), j + n = 8 → L_xpb w f i n j v = L_mpb w f i n j v := by
  intro n
  induction n with
  | zero => intro j v _; rw [L_xpb, L_mpb]
  | succ n ih =>
    intro j v hj
    rw [L_xpb, L_mpb, mg_order h hi (show j < 8 by omega), mg_like h hi (show j < 8 by omega), ih (j + 1) _ (by omega), ih (j + 1) _ (by omega)]
    by_cases c : o_X5_areLike w (f i) (f j) = true
    · rw [if_pos c, c]; rfl
    · rw [if_neg c, Bool.eq_false_iff.mpr c]; rfl
theorem mg_pa {w : Bool} {f : Nat → Int64} (h : okA w f) : ∀ (n i : Nat) (v : Int64), i + n = 8 → L_xpa w f n i v = L_mpa w f n i v := by
  intro n
  induction n with
  | zero => intro i v _; rw [L_xpa, L_mpa]
  | succ n ih =>
    intro i v hi
    rw [L_xpa, L_mpa, mg_pb h (show i < 8 by omega) (8 - (i + 1)) (i + 1) v (by omega)]
    exact ih (i + 1) _ (by omega)
theorem mg_answers {w : Bool} {f : Nat → Int64} (h : okA w f) {i : Nat} (hi : i < 8) (v : Int64) : o_X2_mixedAnswers w f v (nI i) = o_X5_addCell w f (o_X5_add v (o_X1_hash (f i)).toInt64) (nI i) := by
  obtain ⟨a1, a2, a3⟩ := mg_cc hi
  rw [o_X2_mixedAnswers, o_X5_addCell, o_X0_hash, o_X0_quarters, o_X0_find, o_X0_find, a1, mg_ch 0 1 (by decide) (by decide), if_pos rfl, if_pos rfl, if_pos rfl, if_pos rfl, if_pos rfl, ms_find a3, ms_find a3, a2, mq_count (h i hi).1]
  rfl
theorem mg_da {f : Nat → Int64} (h : okA true f) : ∀ (n i : Nat) (v : Int64), i + n = 8 → L_xda f n i v = L_mda f n i v := by
  intro n
  induction n with
  | zero => intro i v _; rw [L_xda, L_mda]
  | succ n ih =>
    intro i v hi
    have hi8 : i < 8 := by omega
    obtain ⟨a1, a2, a3⟩ := mg_cc hi8
    rw [L_xda, L_mda, mg_answers h hi8, ih (i + 1) _ (by omega), o_X0_firstHalf, o_X0_lastHalf, a1, if_pos rfl, if_pos rfl, a2, o_X5_hashOf, a2, mf_half, o_X1_hash]
    rfl
theorem mg_db {f : Nat → Int64} (h : okA false f) : ∀ (n i : Nat) (v : Int64), i + n = 8 → L_xdb f n i v = L_mdb f n i v := by
  intro n
  induction n with
  | zero => intro i v _; rw [L_xdb, L_mdb]
  | succ n ih =>
    intro i v hi
    have hi8 : i < 8 := by omega
    obtain ⟨a1, a2, a3⟩ := mg_cc hi8
    rw [L_xdb, L_mdb, mg_answers h hi8, ih (i + 1) _ (by omega), o_X0_lastHalf, a1, if_pos rfl, a2, mf_hash0 (h i hi8).1]
    rfl
theorem mg_dc (a1 r1 a2 r2 kn : Int32) : ∀ (n i : Nat) (v : Int64), L_xdc a1 r1 a2 r2 kn n i v = L_mdc a1 a2 (r1 + r2) kn n i v := by
  intro n
  induction n with
  | zero => intro i v; rw [L_xdc, L_mdc]
  | succ n ih =>
    intro i v
    rw [L_xdc, L_mdc, ih]
    rfl
theorem mg_digest {f1 f2 : Nat → Int64} (h1 : okA true f1) (h2 : okA false f2) (a1 r1 a2 r2 kn : Int32) : o_X5_digest a1 f1 a2 f2 (r1 + r2) kn = (o_X2_digest a1 r1 f1 a2 r2 f2 kn, 0) := by
  rw [o_X5_digest, o_X2_digest, mg_dc, o_X2_mixedPairs, o_X2_mixedPairs, mg_pa h1 8 0 _ rfl, mg_pa h2 8 0 _ rfl, mg_da h1 8 0 _ rfl, mg_db h2 8 0 _ rfl]
  rfl
/-- at the start every cell is a nought -/
theorem mg_start (w : Bool) : okA w (fun _ => 0) := by
  have g : okV w 0 := by
    cases w
    · exact ⟨fun _ => by decide, by decide⟩
    · exact ⟨fun _ => by decide, by decide⟩
  exact fun k _ => g
