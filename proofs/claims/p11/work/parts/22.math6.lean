/-! rows of kit/laws/COUNTS.to-paste (starting texts: how many places have a property), then both sorts end alike -/
noncomputable def fb_ct (p : Nat → Bool) : Nat → Nat
  | 0 => 0
  | n + 1 => fb_ct p n + (if p n then 1 else 0)
theorem fb_ct_succ (p : Nat → Bool) (n : Nat) : fb_ct p (n + 1) = fb_ct p n + (if p n then 1 else 0) := rfl
theorem fb_ct_le (p : Nat → Bool) : ∀ n, fb_ct p n ≤ n
  | 0 => Nat.le_refl _
  | n + 1 => by
    have h := fb_ct_le p n
    rw [fb_ct_succ]
    split <;> omega
theorem fb_ct_step (p : Nat → Bool) (m : Nat) : ∀ n, fb_ct p m ≤ fb_ct p (m + n)
  | 0 => Nat.le_refl _
  | n + 1 => by
    have h := fb_ct_step p m n
    show fb_ct p m ≤ fb_ct p (m + n + 1)
    rw [fb_ct_succ]
    omega
theorem fb_ct_mono (p : Nat → Bool) {m n : Nat} (h : m ≤ n) : fb_ct p m ≤ fb_ct p n := by
  have := fb_ct_step p m (n - m)
  rwa [Nat.add_sub_cancel' h] at this
theorem fb_ct_cong {p q : Nat → Bool} : ∀ {n : Nat}, (∀ k, k < n → p k = q k) → fb_ct p n = fb_ct q n
  | 0, _ => rfl
  | n + 1, h => by
    rw [fb_ct_succ, fb_ct_succ, fb_ct_cong (fun k hk => h k (by omega)), h n (by omega)]
/-- one place changed -/
theorem fb_ct_out (p : Nat → Bool) (b : Bool) {i n : Nat} (h : n ≤ i) : fb_ct (fun k => if k = i then b else p k) n = fb_ct p n :=
  fb_ct_cong fun k hk => if_neg (by omega)
theorem fb_ct_upd (p : Nat → Bool) (b : Bool) {i : Nat} : ∀ {n : Nat}, i < n → fb_ct (fun k => if k = i then b else p k) n + (if p i then 1 else 0) = fb_ct p n + (if b then 1 else 0)
  | 0, h => absurd h (Nat.not_lt_zero i)
  | n + 1, h => by
    rw [fb_ct_succ, fb_ct_succ]
    rcases Nat.lt_or_ge i n with q | q
    · have := fb_ct_upd p b q
      have e : (if n = i then b else p n) = p n := if_neg (by omega)
      rw [e]
      omega
    · have e : i = n := by omega
      subst e
      rw [fb_ct_out p b (Nat.le_refl _)]
      simp only [if_true]
      omega
theorem fb_ct_sub {p q : Nat → Bool} : ∀ {n : Nat}, (∀ k, k < n → p k = true → q k = true) → fb_ct p n ≤ fb_ct q n
  | 0, _ => Nat.le_refl _
  | n + 1, h => by
    have h1 := fb_ct_sub (n := n) (p := p) (q := q) (fun k hk => h k (by omega))
    have h2 := h n (by omega)
    rw [fb_ct_succ, fb_ct_succ]
    cases hp : p n <;> cases hq : q n <;> simp_all <;> omega
theorem fb_ct_or {p q : Nat → Bool} : ∀ {n : Nat}, (∀ k, k < n → ¬ (p k = true ∧ q k = true)) → fb_ct (fun k => p k || q k) n = fb_ct p n + fb_ct q n
  | 0, _ => rfl
  | n + 1, h => by
    have h1 := fb_ct_or (n := n) (p := p) (q := q) (fun k hk => h k (by omega))
    have h2 := h n (by omega)
    rw [fb_ct_succ, fb_ct_succ, fb_ct_succ, h1]
    cases hp : p n <;> cases hq : q n <;> simp_all <;> omega
theorem fb_ct_not (p : Nat → Bool) : ∀ n, fb_ct p n + fb_ct (fun k => !p k) n = n
  | 0 => rfl
  | n + 1 => by
    have h := fb_ct_not p n
    rw [fb_ct_succ, fb_ct_succ]
    cases p n <;> simp <;> omega
theorem fb_ct_split (p : Nat → Bool) (m : Nat) : ∀ n, fb_ct p (m + n) = fb_ct p m + fb_ct (fun k => p (m + k)) n
  | 0 => rfl
  | n + 1 => by
    have h := fb_ct_split p m n
    show fb_ct p (m + n + 1) = _
    rw [fb_ct_succ, fb_ct_succ, h, Nat.add_assoc]
theorem fb_ct_zero {p : Nat → Bool} : ∀ {n : Nat}, fb_ct p n = 0 ↔ ∀ k, k < n → p k = false
  | 0 => ⟨fun _ k hk => absurd hk (Nat.not_lt_zero k), fun _ => rfl⟩
  | n + 1 => by
    have h := fb_ct_zero (p := p) (n := n)
    rw [fb_ct_succ]
    constructor
    · intro e k hk
      have e1 : fb_ct p n = 0 := by omega
      rcases Nat.lt_or_ge k n with q | q
      · exact h.mp e1 k q
      · have ek : k = n := by omega
        subst ek
        cases hp : p k
        · rfl
        · simp [hp] at e
    · intro a
      rw [h.mpr (fun k hk => a k (by omega)), a n (by omega)]
      rfl
theorem fb_ct_pos {p : Nat → Bool} {n : Nat} : 0 < fb_ct p n ↔ ∃ k, k < n ∧ p k = true := by
  constructor
  · intro h
    refine Classical.byContradiction fun hx => ?_
    have := fb_ct_zero.mpr (fun k hk => by
      cases hp : p k
      · rfl
      · exact absurd ⟨k, hk, hp⟩ hx : ∀ k, k < n → p k = false)
    omega
  · rintro ⟨k, hk, hp⟩
    rcases Nat.eq_zero_or_pos (fb_ct p n) with e | e
    · have := fb_ct_zero.mp e k hk
      rw [this] at hp
      cases hp
    · exact e
theorem fb_ct_all {p : Nat → Bool} {n : Nat} : fb_ct p n = n ↔ ∀ k, k < n → p k = true := by
  have h := fb_ct_not p n
  constructor
  · intro e k hk
    have z : fb_ct (fun k => !p k) n = 0 := by omega
    have := fb_ct_zero.mp z k hk
    cases hp : p k
    · simp [hp] at this
    · rfl
  · intro a
    have z : fb_ct (fun k => !p k) n = 0 := fb_ct_zero.mpr (fun k hk => by simp [a k hk])
    omega
noncomputable def mK (w : Bool) (d : Int64) : Int := (o_X1_standing w d).toInt
noncomputable def mPm (f g : Nat → Int64) : Prop := (∀ p : Int64 → Bool, fb_ct (fun k => p (f k)) 8 = fb_ct (fun k => p (g k)) 8) ∧ ∀ k, 8 ≤ k → f k = g k
theorem mw_refl (f : Nat → Int64) : mPm f f := ⟨fun _ => rfl, fun _ _ => rfl⟩
theorem mw_trans {f g h : Nat → Int64} (a : mPm f g) (b : mPm g h) : mPm f h := ⟨fun p => (a.1 p).trans (b.1 p), fun k hk => (a.2 k hk).trans (b.2 k hk)⟩
theorem mw_symm {f g : Nat → Int64} (a : mPm f g) : mPm g f := ⟨fun p => (a.1 p).symm, fun k hk => (a.2 k hk).symm⟩
theorem mw_at (f : Nat → Int64) (i : Nat) (v : Int64) : vp_updL f i v i = v := if_pos rfl
theorem mw_ne {f : Nat → Int64} {i k : Nat} {v : Int64} (h : k ≠ i) : vp_updL f i v k = f k := if_neg h
theorem mw_upd (p : Int64 → Bool) (f : Nat → Int64) (v : Int64) {i : Nat} (hi : i < 8) : fb_ct (fun k => p (vp_updL f i v k)) 8 + (if p (f i) then 1 else 0) = fb_ct (fun k => p (f k)) 8 + (if p v then 1 else 0) := by
  rw [← fb_ct_upd (fun k => p (f k)) (p v) hi]
  rw [fb_ct_cong (p := fun k => p (vp_updL f i v k)) (q := fun k => if k = i then p v else p (f k)) (fun k _ => by
    by_cases c : k = i
    · rw [c, mw_at, if_pos rfl]
    · rw [mw_ne c, if_neg c])]
theorem mw_swap (f : Nat → Int64) {i j : Nat} (hi : i < 8) (hj : j < 8) (hij : j ≠ i) : mPm (vp_updL (vp_updL f i (f j)) j (f i)) f := by
  refine ⟨fun p => ?_, fun k hk => ?_⟩
  · have a := mw_upd p (vp_updL f i (f j)) (f i) hj
    have b := mw_upd p f (f j) hi
    rw [mw_ne hij] at a
    omega
  · rw [mw_ne (by omega), mw_ne (by omega)]
theorem mw_shift (f : Nat → Int64) (x : Int64) {m : Nat} (hm : m + 1 < 8) : mPm (vp_updL (vp_updL f (m + 1) (f m)) m x) (vp_updL f (m + 1) x) := by
  refine ⟨fun p => ?_, fun k hk => ?_⟩
  · have a := mw_upd p (vp_updL f (m + 1) (f m)) x (i := m) (by omega)
    have b := mw_upd p f (f m) hm
    have c := mw_upd p f x hm
    rw [mw_ne (by omega)] at a
    omega
  · rw [mw_ne (by omega), mw_ne (by omega), mw_ne (by omega)]
theorem mw_all {f g : Nat → Int64} (h : mPm f g) (P : Int64 → Prop) (hg : ∀ k, k < 8 → P (g k)) : ∀ k, k < 8 → P (f k) := by
  intro k hk
  have a := h.1 (fun d => @decide (P d) (Classical.propDecidable _))
  have e : fb_ct (fun k => @decide (P (g k)) (Classical.propDecidable _)) 8 = 8 := fb_ct_all.mpr (fun k hk => by simp only [decide_eq_true_eq]; exact hg k hk)
  have := fb_ct_all.mp (a.trans e) k hk
  simpa only [decide_eq_true_eq] using this
theorem mw_ok {w : Bool} {f g : Nat → Int64} (h : mPm f g) (hg : okF w g) : okF w f := mw_all h (okN w) hg
noncomputable def mSo (w : Bool) (n : Nat) (f : Nat → Int64) : Prop := ∀ i j, i < j → j < n → mK w (f i) ≤ mK w (f j)
theorem mw_key {w : Bool} {f g : Nat → Int64} (hf : mSo w 8 f) (hg : mSo w 8 g) (h : mPm f g) {k : Nat} (hk : k < 8) : mK w (g k) ≤ mK w (f k) := by
  refine Classical.byContradiction fun hx => ?_
  have a := h.1 (fun d => decide (mK w d ≤ mK w (f k)))
  have b : k + 1 ≤ fb_ct (fun i => decide (mK w (f i) ≤ mK w (f k))) 8 := by
    have b1 := fb_ct_mono (fun i => decide (mK w (f i) ≤ mK w (f k))) (show k + 1 ≤ 8 by omega)
    rw [fb_ct_all.mpr (fun i hi => by
      simp only [decide_eq_true_eq]
      by_cases c : i = k
      · rw [c]; exact Int.le_refl _
      · exact hf i k (by omega) hk)] at b1
    exact b1
  have c : fb_ct (fun i => decide (mK w (g i) ≤ mK w (f k))) 8 ≤ k := by
    have c1 := fb_ct_split (fun i => decide (mK w (g i) ≤ mK w (f k))) k (8 - k)
    rw [Nat.add_sub_cancel' (show k ≤ 8 by omega)] at c1
    have c2 : fb_ct (fun i => decide (mK w (g (k + i)) ≤ mK w (f k))) (8 - k) = 0 := fb_ct_zero.mpr (fun i hi => by
      simp only [decide_eq_false_iff_not]
      intro z
      by_cases d : i = 0
      · rw [d] at z; exact hx z
      · have := hg k (k + i) (by omega) (by omega)
        omega)
    rw [c1, c2]
    exact fb_ct_le _ _
  omega
theorem mw_uniq {w : Bool} {f g : Nat → Int64} (hf : mSo w 8 f) (hg : mSo w 8 g) (h : mPm f g) (ok : okF w g) : f = g := by
  funext k
  rcases Nat.lt_or_ge k 8 with c | c
  · have a := mw_key hf hg h c
    have b := mw_key hg hf (mw_symm h) c
    exact mo_st_inj (mw_ok h ok k c) (ok k c) (Int.le_antisymm b a)
  · exact h.2 k c
theorem mw_le (w : Bool) (x y : Int64) : o_X1_order w x y ≤ 0 ↔ mK w x ≤ mK w y := by
  rw [mo_ord, mK, mK]
  by_cases c : (o_X1_standing w x).toInt < (o_X1_standing w y).toInt
  · rw [if_pos c]
    exact ⟨fun _ => by omega, fun _ => by decide⟩
  · rw [if_neg c]
    by_cases d : (o_X1_standing w y).toInt < (o_X1_standing w x).toInt
    · rw [if_pos d]
      exact ⟨fun z => absurd z (by decide), fun z => by omega⟩
    · rw [if_neg d]
      exact ⟨fun _ => by omega, fun _ => by decide⟩
theorem mw_ge (w : Bool) (x y : Int64) : 0 ≤ o_X1_order w x y ↔ mK w y ≤ mK w x := by
  rw [mo_ord, mK, mK]
  by_cases c : (o_X1_standing w x).toInt < (o_X1_standing w y).toInt
  · rw [if_pos c]
    exact ⟨fun z => absurd z (by decide), fun z => by omega⟩
  · rw [if_neg c]
    by_cases d : (o_X1_standing w y).toInt < (o_X1_standing w x).toInt
    · rw [if_pos d]
      exact ⟨fun _ => by omega, fun _ => by decide⟩
    · rw [if_neg d]
      exact ⟨fun _ => by omega, fun _ => by decide⟩
/-- one is put in -/
theorem mw_ins {w : Bool} {f : Nat → Int64} {p : Int32} {k : Nat} (hk : k < 8) : ∀ (m : Nat) (f9 : Nat → Int64), m ≤ k → (∀ i j, i < j → j ≤ k → i ≠ m → j ≠ m → mK w (f9 i) ≤ mK w (f9 j)) → (∀ j, m < j → j ≤ k → mK w (f p.toNatClampNeg) < mK w (f9 j)) → mPm (vp_updL f9 m (f p.toNatClampNeg)) f → mPm (L_ins w f p m (nI m) f9) f ∧ mSo w (k + 1) (L_ins w f p m (nI m) f9) := by
  intro m
  induction m with
  | zero =>
    intro f9 hm h1 h2 h3
    rw [L_ins, nI_clamp (by omega)]
    refine ⟨h3, fun i j hij hj => ?_⟩
    rw [mw_ne (show j ≠ 0 by omega)]
    by_cases c : i = 0
    · rw [c, mw_at]
      have := h2 j (by omega) (by omega)
      omega
    · rw [mw_ne c]
      exact h1 i j hij (by omega) c (by omega)
  | succ m ih =>
    intro f9 hm h1 h2 h3
    have e1 : nI (m + 1) - 1 = nI m := by rw [← nI_1, Int32.add_sub_cancel]
    have e2 : nI (m + 1) + (-1) = nI m := by rw [← e1, Int32.sub_eq_add_neg]
    rw [L_ins, if_neg (nI_nle (by omega) (by omega)), e1, e2, nI_clamp (show m + 1 < 2 ^ 31 by omega), nI_clamp (show m < 2 ^ 31 by omega)]
    by_cases c : o_X1_order w (f9 m) (f p.toNatClampNeg) ≤ 0
    · rw [if_pos c]
      have c := (mw_le _ _ _).mp c
      refine ⟨h3, fun i j hij hj => ?_⟩
      by_cases a : j = m + 1
      · rw [a, mw_at, mw_ne (show i ≠ m + 1 by omega)]
        by_cases b : i = m
        · rw [b]; exact c
        · have := h1 i m (by omega) (by omega) (by omega) (by omega)
          omega
      · rw [mw_ne a]
        by_cases b : i = m + 1
        · rw [b, mw_at]
          have := h2 j (by omega) (by omega)
          omega
        · rw [mw_ne b]
          exact h1 i j hij (by omega) b a
    · rw [if_neg c]
      have c : mK w (f p.toNatClampNeg) < mK w (f9 m) := by
        exact Int.not_le.mp (fun z => c ((mw_le _ _ _).mpr z))
      refine ih _ (by omega) (fun i j hij hj hi' hj' => ?_) (fun j hj hj' => ?_) (mw_trans (mw_shift f9 _ (by omega)) h3)
      · by_cases a : j = m + 1
        · rw [a, mw_at, mw_ne (show i ≠ m + 1 by omega)]
          exact h1 i m (by omega) (by omega) (by omega) (by omega)
        · rw [mw_ne a]
          by_cases b : i = m + 1
          · rw [b, mw_at]
            exact h1 m j (by omega) hj (by omega) a
          · rw [mw_ne b]
            exact h1 i j hij hj b a
      · by_cases a : j = m + 1
        · rw [a, mw_at]; exact c
        · rw [mw_ne a]
          exact h2 j (by omega) hj'
theorem mw_xsa {w : Bool} {f : Nat → Int64} : ∀ (n i : Nat) (f8 : Nat → Int64), i + n = 8 → mSo w i f8 → mPm f8 f → mPm (L_xsa w n i f8) f ∧ mSo w 8 (L_xsa w n i f8) := by
  intro n
  induction n with
  | zero =>
    intro i f8 hi h1 h2
    rw [L_xsa]
    have e : i = 8 := by omega
    rw [e] at h1
    exact ⟨h2, h1⟩
  | succ n ih =>
    intro i f8 hi h1 h2
    rw [L_xsa, o_X0_insert]
    have e : (nI i).toNatClampNeg = i := nI_clamp (by omega)
    have g := mw_ins (w := w) (f := f8) (p := nI i) (k := i) (by omega) i f8 (Nat.le_refl _) (fun a b hab hb ha' hb' => h1 a b hab (by omega)) (fun j hj hj' => by omega) (by
      rw [e]
      have : vp_updL f8 i (f8 i) = f8 := by
        funext k
        by_cases c : k = i
        · rw [c, mw_at]
        · rw [mw_ne c]
      rw [this]
      exact mw_refl _)
    rw [e]
    exact ih (i + 1) _ (by omega) g.2 (mw_trans g.1 h2)
/-- exchanging -/
theorem mw_msn {w : Bool} {f : Nat → Int64} (ok : okF w f) {k : Nat} (hk : k < 8) : ∀ (n j : Nat) (f9 : Nat → Int64), j + n = 8 → k < j → (∀ a b, a < k → a < b → b < 8 → mK w (f9 a) ≤ mK w (f9 b)) → (∀ b, k < b → b < j → mK w (f9 k) ≤ mK w (f9 b)) → mPm f9 f → mPm (L_msn w k n j f9) f ∧ ∀ a b, a < k + 1 → a < b → b < 8 → mK w (L_msn w k n j f9 a) ≤ mK w (L_msn w k n j f9 b) := by
  intro n
  induction n with
  | zero =>
    intro j f9 hj hkj h1 h2 h3
    rw [L_msn]
    refine ⟨h3, fun a b ha hab hb => ?_⟩
    by_cases c : a = k
    · rw [c]; exact h2 b (by omega) (by omega)
    · exact h1 a b (by omega) hab hb
  | succ n ih =>
    intro j f9 hj hkj h1 h2 h3
    have o9 := mw_ok h3 ok
    rw [L_msn, mo_order (o9 j (by omega)) (o9 k hk)]
    by_cases c : 0 ≤ o_X1_order w (f9 j) (f9 k)
    · rw [if_pos c]
      have c := (mw_ge _ _ _).mp c
      refine ih (j + 1) f9 (by omega) (by omega) h1 (fun b hb hb' => ?_) h3
      by_cases d : b = j
      · rw [d]; exact c
      · exact h2 b hb (by omega)
    · rw [if_neg c]
      have c : mK w (f9 j) < mK w (f9 k) := by
        exact Int.not_le.mp (fun z => c ((mw_ge _ _ _).mpr z))
      have ek : vp_updL (vp_updL f9 k (f9 j)) j (f9 k) k = f9 j := by rw [mw_ne (show k ≠ j by omega), mw_at]
      have ej : vp_updL (vp_updL f9 k (f9 j)) j (f9 k) j = f9 k := mw_at _ _ _
      have eo : ∀ a, a ≠ k → a ≠ j → vp_updL (vp_updL f9 k (f9 j)) j (f9 k) a = f9 a := fun a x y => by rw [mw_ne y, mw_ne x]
      refine ih (j + 1) _ (by omega) (by omega) (fun a b ha hab hb => ?_) (fun b hb hb' => ?_) (mw_trans (mw_swap f9 hk (by omega) (by omega)) h3)
      · rw [eo a (by omega) (by omega)]
        by_cases d : b = k
        · rw [d, ek]; exact h1 a j ha (by omega) (by omega)
        · by_cases d' : b = j
          · rw [d', ej]; exact h1 a k ha (by omega) (by omega)
          · rw [eo b d d']; exact h1 a b ha hab hb
      · rw [ek]
        by_cases d : b = j
        · rw [d, ej]; omega
        · rw [eo b (by omega) d]
          have := h2 b hb (by omega)
          omega
theorem mw_msk {w : Bool} {f : Nat → Int64} (ok : okF w f) : ∀ (n k : Nat) (f8 : Nat → Int64), k + n = 8 → (∀ a b, a < k → a < b → b < 8 → mK w (f8 a) ≤ mK w (f8 b)) → mPm f8 f → mPm (L_msk w n k f8) f ∧ mSo w 8 (L_msk w n k f8) := by
  intro n
  induction n with
  | zero =>
    intro k f8 hk h1 h2
    rw [L_msk]
    exact ⟨h2, fun a b hab hb => h1 a b (by omega) hab hb⟩
  | succ n ih =>
    intro k f8 hk h1 h2
    rw [L_msk]
    have g := mw_msn ok (show k < 8 by omega) (8 - (k + 1)) (k + 1) f8 (by omega) (by omega) h1 (fun b hb hb' => by omega) h2
    exact ih (k + 1) _ (by omega) g.2 g.1
theorem mw_sorts {w : Bool} {f : Nat → Int64} (ok : okF w f) : L_xsa w 7 1 f = L_msk w 8 0 f ∧ mPm (L_msk w 8 0 f) f := by
  have a := mw_xsa (w := w) (f := f) 7 1 f rfl (fun i j hij hj => by omega) (mw_refl f)
  have b := mw_msk ok 8 0 f rfl (fun a b ha => by omega) (mw_refl f)
  exact ⟨mw_uniq a.2 b.2 (mw_trans a.1 (mw_symm b.1)) (mw_ok b.1 ok), b.1⟩
theorem mw_msa {f : Nat → Int64} : ∀ (n i : Nat) (g : Nat → Int64), i + n = 8 → ∀ k, L_msa f n i g k = if i ≤ k ∧ k < 8 then f k else g k := by
  intro n
  induction n with
  | zero =>
    intro i g hi k
    rw [L_msa, if_neg (by omega)]
  | succ n ih =>
    intro i g hi k
    rw [L_msa, ih (i + 1) _ (by omega)]
    by_cases c : k = i
    · rw [if_neg (by omega), if_pos (by omega), c, mw_at]
    · rw [mw_ne c]
      by_cases d : i ≤ k ∧ k < 8
      · rw [if_pos d, if_pos (by omega)]
      · rw [if_neg d, if_neg (by omega)]
theorem mw_cnt {w : Bool} {f g : Nat → Int64} (ok : okF w f) : ∀ (n i : Nat) (v : Int32), i + n = 8 → L_xsb w f g n i v = L_msc w f n i v := by
  intro n
  induction n with
  | zero => intro i v hi; rw [L_xsb, L_msc]
  | succ n ih =>
    intro i v hi
    rw [L_xsb, L_msc, (mw_sorts ok).1, mw_msa 8 0 _ rfl i, if_pos (show 0 ≤ i ∧ i < 8 by omega), va_cpy, if_pos (show 0 ≤ i ∧ i < 0 + 8 by omega), Nat.sub_zero, Nat.zero_add, Int32.add_zero, ih (i + 1) _ (by omega), ih (i + 1) _ (by omega)]
/-- the whole of sorting -/
theorem mw_sort {w : Bool} {f g : Nat → Int64} (ok : ∀ k, k < 8 → okV w (f k)) : L_xsb w f g 8 0 0 = L_msc w f 8 0 0 ∧ L_xsa w 7 1 f = L_msk w 8 0 f ∧ ∀ k, k < 8 → okV w (L_msk w 8 0 f k) :=
  ⟨mw_cnt (fun k hk => (ok k hk).1) 8 0 0 rfl, (mw_sorts (fun k hk => (ok k hk).1)).1, mw_all (mw_sorts (fun k hk => (ok k hk).1)).2 (okV w) ok⟩
