/-! sums, and looking for, by both sides -/
noncomputable def okV (w : Bool) (d : Int64) : Prop := okN w d ∧ o_X1_isSpoiled w d = false
theorem ms_rng {w : Bool} {d : Int64} (h : okN w d) (hq : o_X1_isQuarter w d = true) : -(bD w : Int) ≤ (o_X1_quarters w d).toInt ∧ (o_X1_quarters w d).toInt ≤ bD w := by
  obtain ⟨n, hn, rfl⟩ := mo_of h
  obtain ⟨k1, k2, k3, k4, k5, k6, k7, k8, k9, k10, k11, k12⟩ := mq_k w
  have hne : ¬ o_X1_quarters w (lN n) = -2147483648 := by
    intro z
    rw [o_X1_isQuarter, if_pos z] at hq
    exact absurd hq (by decide)
  rw [mq_class hn] at hne ⊢
  have key : ∀ m : Nat, m ≤ bD w → -(bD w : Int) ≤ (qS w n m).toInt ∧ (qS w n m).toInt ≤ bD w := by
    intro m hm
    rw [qS]
    by_cases c : n < bB w
    · rw [if_pos c, nI_toInt (by omega)]
      omega
    · rw [if_neg c, sb_negT (by omega)]
      omega
  rw [qN] at hne ⊢
  by_cases c0 : n % bB w = 0
  · rw [if_pos c0]
    have : (0 : Int32).toInt = 0 := by decide
    omega
  · rw [if_neg c0] at hne ⊢
    by_cases c1 : n / bP w % bQ w < bE w
    · rw [if_pos c1] at hne; exact absurd rfl hne
    · rw [if_neg c1] at hne ⊢
      by_cases c2 : n / bP w % bQ w - bE w ≤ bH w
      · rw [if_pos c2] at hne ⊢
        by_cases c3 : (bP w + n % bP w) % 2 ^ (bF w - (n / bP w % bQ w - bE w)) = 0
        · rw [if_pos c3] at hne ⊢
          by_cases c4 : (bP w + n % bP w) / 2 ^ (bF w - (n / bP w % bQ w - bE w)) ≤ bD w
          · rw [if_pos c4]
            exact key _ c4
          · rw [if_neg c4] at hne; exact absurd rfl hne
        · rw [if_neg c3] at hne; exact absurd rfl hne
      · rw [if_neg c2] at hne; exact absurd rfl hne
theorem ms_noq {w : Bool} {d : Int64} (h : okN w d) (he : o_X1_isEndless w d = true) : ¬ o_X1_isQuarter w d = true := by
  obtain ⟨n, hn, rfl⟩ := mo_of h
  obtain ⟨s1, s2, s3, s4⟩ := mp_split w n
  obtain ⟨q1, q2, q3, q4, q5, q6⟩ := mp_q w
  have hw : bE w + bH w < bQ w - 1 ∧ 0 < bE w := by cases w <;> decide
  have e1 : n / bP w % bQ w = bQ w - 1 := by
    rw [o_X1_isEndless, mp_ex hn, mp_eo] at he
    by_cases a : nI (n / bP w % bQ w) = nI (bQ w - 1)
    · exact (nI_eq (by omega) (by omega)).mp a
    · rw [if_neg a] at he; exact absurd he (by decide)
  intro z
  rw [o_X1_isQuarter, mq_class hn, qN, e1] at z
  have hz : ¬ n % bB w = 0 := by
    intro q
    rw [q, e1] at s1
    have : 0 < (bQ w - 1) * bP w := Nat.mul_pos (by omega) q3
    omega
  rw [if_neg hz, if_neg (show ¬ bQ w - 1 < bE w by omega), if_neg (show ¬ bQ w - 1 - bE w ≤ bH w by omega), if_pos rfl] at z
  exact absurd z (by decide)
theorem ms_isq {w : Bool} {d : Int64} (h : okN w d) : o_X4_isQuarter w d = o_X1_isQuarter w d := by
  rw [o_X4_isQuarter, o_X1_isQuarter, mq_count h]
theorem ms_have {w : Bool} {a b : Int64} (ha : okN w a) (hb : okN w b) : o_X4_haveSum w a b = o_X1_haveSum w a b := by
  have e1 : (-(wQb w)).toInt64 = -(mMo w) := by cases w <;> decide
  have e2 : (wQb w).toInt64 = mMo w := by cases w <;> decide
  rw [o_X4_haveSum, o_X1_haveSum, mp_endless ha, mp_endless hb, ms_isq ha, ms_isq hb, mq_count ha, mq_count hb, e1, e2]
  by_cases c1 : o_X1_isEndless w a = true
  · rw [if_pos c1, if_pos c1]
    by_cases c2 : o_X1_isEndless w b = true
    · rw [if_pos c2, if_neg (ms_noq hb c2)]
    · rw [if_neg c2]
      by_cases c3 : a = b
      · rw [c3] at c1; exact absurd c1 c2
      · rw [if_neg c3]
        by_cases c4 : o_X1_isQuarter w b = true
        · rw [if_pos c4, c4]
        · rw [if_neg c4]
          exact Bool.eq_false_iff.mpr c4
  · rw [if_neg c1, if_neg c1]
    by_cases c2 : o_X1_isEndless w b = true
    · rw [if_pos c2, if_pos c2]
    · rw [if_neg c2, if_neg c2]
      by_cases c3 : o_X1_isQuarter w a = true
      · rw [if_pos c3, if_pos c3]
        by_cases c4 : o_X1_isQuarter w b = true
        · rw [if_pos c4, if_pos c4]
          by_cases d1 : mMo w < (o_X1_quarters w a).toInt64 + (o_X1_quarters w b).toInt64
          · rw [if_pos d1]
            by_cases d2 : (o_X1_quarters w a).toInt64 + (o_X1_quarters w b).toInt64 < -mMo w
            · rw [if_pos d2]
            · rw [if_neg d2, if_pos d1]
          · rw [if_neg d1]
            by_cases d2 : (o_X1_quarters w a).toInt64 + (o_X1_quarters w b).toInt64 < -mMo w
            · rw [if_pos d2, if_pos d2]
            · rw [if_neg d2, if_neg d2, if_neg d1]
        · rw [if_neg c4, if_neg c4]
      · rw [if_neg c3, if_neg c3]
theorem ms_okq {w : Bool} {q : Int32} (h1 : -(bD w : Int) ≤ q.toInt) (h2 : q.toInt ≤ bD w) : okV w (o_X1_ofQuarters w q) := by
  obtain ⟨n, hn, e, hx⟩ := (mr_made h1 h2).2
  obtain ⟨q1, q2, q3, q4, q5, q6⟩ := mp_q w
  rw [e]
  refine ⟨?_, ?_⟩
  · intro hw
    subst hw
    have h3 : n < 4294967296 := hn
    rw [mo_toInt (by omega)]
    omega
  · rw [o_X1_isSpoiled, mp_ex hn, mp_eo, if_neg (fun z => by
      have := (nI_eq (by omega) (by omega)).mp z
      omega)]
theorem ms_sum {w : Bool} {a b : Int64} (ha : okV w a) (hb : okV w b) (h : o_X1_haveSum w a b = true) : o_X4_sum w a b = o_X1_sum w a b ∧ okV w (o_X1_sum w a b) := by
  rw [o_X4_sum, o_X1_sum, mp_endless ha.1, mp_endless hb.1, mq_count ha.1, mq_count hb.1, mo_sign]
  by_cases c1 : o_X1_isEndless w a = true
  · rw [if_pos c1, if_pos c1]
    exact ⟨rfl, ha⟩
  · rw [if_neg c1, if_neg c1]
    by_cases c2 : o_X1_isEndless w b = true
    · rw [if_pos c2, if_pos c2]
      exact ⟨rfl, hb⟩
    · rw [if_neg c2, if_neg c2]
      have key : o_X4_made w ((o_X1_quarters w a).toInt64 + (o_X1_quarters w b).toInt64) = o_X1_ofQuarters w (o_X1_quarters w a + o_X1_quarters w b) ∧ okV w (o_X1_ofQuarters w (o_X1_quarters w a + o_X1_quarters w b)) := by
        obtain ⟨k1, k2, k3, k4, k5, k6, k7, k8, k9, k10, k11, k12⟩ := mq_k w
        rw [o_X1_haveSum, if_neg c1, if_neg c2] at h
        by_cases c3 : o_X1_isQuarter w a = true
        · rw [if_pos c3] at h
          by_cases c4 : o_X1_isQuarter w b = true
          · rw [if_pos c4] at h
            obtain ⟨a1, a2⟩ := ms_rng ha.1 c3
            obtain ⟨b1, b2⟩ := ms_rng hb.1 c4
            have e1 : (o_X1_quarters w a + o_X1_quarters w b).toInt = (o_X1_quarters w a).toInt + (o_X1_quarters w b).toInt := by
              rw [Int32.toInt_add]
              exact Int.bmod_eq_of_le (by omega) (by omega)
            have e2 : (o_X1_quarters w a).toInt64 + (o_X1_quarters w b).toInt64 = (o_X1_quarters w a + o_X1_quarters w b).toInt64 := by
              apply Int64.toInt_inj.mp
              rw [Int64.toInt_add, Int32.toInt_toInt64, Int32.toInt_toInt64, Int32.toInt_toInt64, e1]
              exact Int.bmod_eq_of_le (by omega) (by omega)
            have e3 : ((-(wQb w)).toInt64).toInt = -(bD w : Int) := by cases w <;> decide
            have e4 : ((wQb w).toInt64).toInt = (bD w : Int) := by cases w <;> decide
            have e5 : ((o_X1_quarters w a).toInt64 + (o_X1_quarters w b).toInt64).toInt = (o_X1_quarters w a).toInt + (o_X1_quarters w b).toInt := by rw [e2, Int32.toInt_toInt64, e1]
            by_cases d1 : (o_X1_quarters w a).toInt64 + (o_X1_quarters w b).toInt64 < (-(wQb w)).toInt64
            · rw [if_pos d1] at h; exact absurd h (by decide)
            · rw [if_neg d1] at h
              by_cases d2 : (wQb w).toInt64 < (o_X1_quarters w a).toInt64 + (o_X1_quarters w b).toInt64
              · rw [if_pos d2] at h; exact absurd h (by decide)
              · rw [Int64.lt_iff_toInt_lt, e3, e5] at d1
                rw [Int64.lt_iff_toInt_lt, e4, e5] at d2
                have r1 : -(bD w : Int) ≤ (o_X1_quarters w a + o_X1_quarters w b).toInt := by rw [e1]; omega
                have r2 : (o_X1_quarters w a + o_X1_quarters w b).toInt ≤ bD w := by rw [e1]; omega
                rw [e2]
                exact ⟨(mr_made r1 r2).1, ms_okq r1 r2⟩
          · rw [if_neg c4] at h; exact absurd h (by decide)
        · rw [if_neg c3] at h; exact absurd h (by decide)
      by_cases c3 : a = wSg w
      · rw [if_pos c3, if_pos c3]
        by_cases c4 : b = wSg w
        · rw [if_pos c4, if_pos c4]
          exact ⟨c3, by rw [← c3]; exact ha⟩
        · rw [if_neg c4, if_neg c4]
          exact key
      · rw [if_neg c3, if_neg c3]
        exact key
theorem ms_known (w : Bool) (p : Int32) : okV w (o_X1_known w p) := by
  have h : ∀ d : Int64, d ∈ [0, wSg w, jLshl ((wEo w).toInt64) (wFd w), (wSg w) ||| (jLshl ((wEo w).toInt64) (wFd w)), (jLshl ((wEo w).toInt64) (wFd w)) - 1, 1, jLshl 1 (wFd w)] → (w = false → 0 ≤ d.toInt ∧ d.toInt < 4294967296) ∧ o_X1_isSpoiled w d = false := by
    cases w
    · decide
    · decide
  have g : o_X1_known w p ∈ [0, wSg w, jLshl ((wEo w).toInt64) (wFd w), (wSg w) ||| (jLshl ((wEo w).toInt64) (wFd w)), (jLshl ((wEo w).toInt64) (wFd w)) - 1, 1, jLshl 1 (wFd w)] := by
    rw [o_X1_known]
    repeat' split
    all_goals simp
  exact h _ g
/-- the first and the last like cell -/
theorem ms_first {f : Nat → Int64} {k : Nat} (hk : k < 8) : ∀ (n i : Nat) (v u : Int32), i + n = 8 → ((u = -1 ∧ v = nI k ∧ i ≤ k ∧ ∀ j, j < i → f j ≠ f k) ∨ (∃ j, j < i ∧ u = nI j ∧ v = nI j)) → L_xfind f (nI k) false n i v = L_mfind f (f k) false n i u := by
  intro n
  induction n with
  | zero =>
    intro i v u hi h
    rcases h with ⟨_, _, h3, _⟩ | ⟨j, _, h2, h3⟩
    · omega
    · rw [L_xfind, L_mfind, h2, h3]
  | succ n ih =>
    intro i v u hi h
    have hc : (nI k).toNatClampNeg = k := nI_clamp (by omega)
    rw [L_xfind, L_mfind, hc, if_neg (show ¬ false = true by decide), if_neg (show ¬ false = true by decide)]
    rcases h with ⟨h1, h2, h3, h4⟩ | ⟨j, h1, h2, h3⟩
    · subst h1 h2
      rw [if_neg (show ¬ (0 : Int32) ≤ -1 by decide)]
      by_cases c : f i = f k
      · rw [if_pos c]
        by_cases d : k ≤ i
        · have e : i = k := by omega
          rw [if_pos (nI_le d (by omega)), if_pos c]
          exact ih (i + 1) (nI k) (nI i) (by omega) (Or.inr ⟨k, by omega, by rw [e], rfl⟩)
        · rw [if_neg (nI_ge (by omega) (by omega)), if_pos c]
          exact ih _ _ _ (by omega) (Or.inr ⟨i, by omega, rfl, rfl⟩)
      · rw [if_neg c]
        have hne : i ≠ k := fun z => c (by rw [z])
        rw [if_neg (nI_ge (by omega) (by omega)), if_neg c]
        refine ih _ _ _ (by omega) (Or.inl ⟨rfl, rfl, by omega, fun j hj => ?_⟩)
        by_cases d : j = i
        · rw [d]; exact c
        · exact h4 j (by omega)
    · subst h2 h3
      rw [if_pos (nI_le (by omega) (by omega)), if_pos (nI_pos' (by omega))]
      have g := ih (i + 1) (nI j) (nI j) (by omega) (Or.inr ⟨j, by omega, rfl, rfl⟩)
      by_cases c : f i = f k
      · rw [if_pos c]; exact g
      · rw [if_neg c]; exact g
theorem ms_last {f : Nat → Int64} {k : Nat} (hk : k < 8) : ∀ (n i : Nat) (v u : Int32), i + n = 8 → ((i ≤ k ∧ v = nI k) ∨ (k < i ∧ v = u ∧ ∃ j, j < i ∧ v = nI j)) → L_xfind f (nI k) true n i v = L_mfind f (f k) true n i u := by
  intro n
  induction n with
  | zero =>
    intro i v u hi h
    rcases h with ⟨h1, _⟩ | ⟨_, h2, _⟩
    · omega
    · rw [L_xfind, L_mfind, h2]
  | succ n ih =>
    intro i v u hi h
    have hc : (nI k).toNatClampNeg = k := nI_clamp (by omega)
    rw [L_xfind, L_mfind, hc, if_pos rfl, if_pos rfl]
    rcases h with ⟨h1, h2⟩ | ⟨h1, h2, j, h3, h4⟩
    · subst h2
      rw [if_pos (nI_le h1 (by omega))]
      by_cases c : f i = f k
      · rw [if_pos c]
        by_cases d : i = k
        · subst d
          exact ih _ _ _ (by omega) (Or.inr ⟨by omega, rfl, i, by omega, rfl⟩)
        · exact ih _ _ _ (by omega) (Or.inl ⟨by omega, rfl⟩)
      · rw [if_neg c]
        have hne : i ≠ k := fun z => c (by rw [z])
        exact ih _ _ _ (by omega) (Or.inl ⟨by omega, rfl⟩)
    · subst h2
      rw [h4, if_neg (nI_ge (by omega) (by omega))]
      by_cases c : f i = f k
      · rw [if_pos c, if_pos c]
        exact ih _ _ _ (by omega) (Or.inr ⟨by omega, rfl, i, by omega, rfl⟩)
      · rw [if_neg c, if_neg c]
        exact ih _ _ _ (by omega) (Or.inr ⟨by omega, rfl, j, by omega, rfl⟩)
theorem ms_find {f : Nat → Int64} {p : Int32} (h : vp_in p 8) (b : Bool) : L_xfind f p b 8 0 p = o_X4_find f (f p.toNatClampNeg) b := by
  obtain ⟨e, hk⟩ := xm_nI h
  rw [o_X4_find]
  generalize p.toNatClampNeg = k at *
  subst e
  cases b
  · exact ms_first hk 8 0 _ _ rfl (Or.inl ⟨rfl, rfl, by omega, fun j hj => by omega⟩)
  · exact ms_last hk 8 0 _ _ rfl (Or.inl ⟨by omega, rfl⟩)
/-- is there a known one -/
theorem ms_hasX {w : Bool} {f : Nat → Int64} {p : Int32} : ∀ (n i : Nat), i + n = 8 → ((L_xhas w f p n i).2 = true ↔ ∃ j, i ≤ j ∧ j < 8 ∧ f j = o_X1_known w p) := by
  intro n
  induction n with
  | zero =>
    intro i hi
    rw [L_xhas]
    exact ⟨fun z => absurd z (by decide), fun ⟨j, a, b, _⟩ => by omega⟩
  | succ n ih =>
    intro i hi
    rw [L_xhas]
    by_cases c : f i = o_X1_known w p
    · rw [if_pos c]
      exact ⟨fun _ => ⟨i, by omega, by omega, c⟩, fun _ => rfl⟩
    · rw [if_neg c, ih (i + 1) (by omega)]
      constructor
      · rintro ⟨j, a, b, d⟩
        exact ⟨j, by omega, b, d⟩
      · rintro ⟨j, a, b, d⟩
        refine ⟨j, ?_, b, d⟩
        by_cases z : j = i
        · rw [z] at d; exact absurd d c
        · omega
theorem ms_hasM {f : Nat → Int64} {x : Int64} : ∀ (n i : Nat) (u : Int32), i + n = 8 → (u = -1 ∨ ∃ j, j < 8 ∧ u = nI j) → (0 ≤ L_mfind f x false n i u ↔ u ≠ -1 ∨ ∃ j, i ≤ j ∧ j < 8 ∧ f j = x) := by
  intro n
  induction n with
  | zero =>
    intro i u hi h
    rw [L_mfind]
    rcases h with h | ⟨j, h1, h2⟩
    · rw [h]
      exact ⟨fun z => absurd z (by decide), fun z => by rcases z with z | ⟨j, a, b, _⟩; exact absurd rfl z; omega⟩
    · rw [h2]
      refine ⟨fun _ => Or.inl (fun z => ?_), fun _ => nI_pos' (by omega)⟩
      have := congrArg Int32.toInt z
      rw [nI_toInt (by omega), show (-1 : Int32).toInt = -1 by decide] at this
      omega
  | succ n ih =>
    intro i u hi h
    rw [L_mfind, if_neg (show ¬ false = true by decide)]
    have step : ∀ u2 : Int32, (u2 ≠ -1 ∨ ∃ j, i + 1 ≤ j ∧ j < 8 ∧ f j = x) → ¬ f i = x → (u2 ≠ -1 ∨ ∃ j, i ≤ j ∧ j < 8 ∧ f j = x) := by
      intro u2 z _
      rcases z with z | ⟨j, a, b, d⟩
      · exact Or.inl z
      · exact Or.inr ⟨j, by omega, b, d⟩
    by_cases c : f i = x
    · rw [if_pos c]
      rcases h with h | ⟨j, h1, h2⟩
      · rw [h, if_neg (show ¬ (0 : Int32) ≤ -1 by decide), ih (i + 1) (nI i) (by omega) (Or.inr ⟨i, by omega, rfl⟩)]
        refine ⟨fun _ => Or.inr ⟨i, by omega, by omega, c⟩, fun _ => Or.inl (fun z => ?_)⟩
        have := congrArg Int32.toInt z
        rw [nI_toInt (by omega), show (-1 : Int32).toInt = -1 by decide] at this
        omega
      · rw [h2, if_pos (nI_pos' (by omega)), ih (i + 1) (nI j) (by omega) (Or.inr ⟨j, h1, rfl⟩)]
        have hne : nI j ≠ -1 := fun z => by
          have := congrArg Int32.toInt z
          rw [nI_toInt (by omega), show (-1 : Int32).toInt = -1 by decide] at this
          omega
        exact ⟨fun _ => Or.inl hne, fun _ => Or.inl hne⟩
    · rw [if_neg c, ih (i + 1) u (by omega) h]
      constructor
      · exact fun z => step u z c
      · intro z
        rcases z with z | ⟨j, a, b, d⟩
        · exact Or.inl z
        · refine Or.inr ⟨j, ?_, b, d⟩
          by_cases e : j = i
          · rw [e] at d; exact absurd d c
          · omega
theorem ms_has {w : Bool} {f : Nat → Int64} {p : Int32} : (L_xhas w f p 8 0).2 = true ↔ 0 ≤ o_X4_find f (o_X4_known w p) false := by
  rw [o_X4_find, mp_known, ms_hasX 8 0 rfl, ms_hasM 8 0 (-1) rfl (Or.inl rfl)]
  exact ⟨fun z => Or.inr z, fun z => z.resolve_left (fun q => q rfl)⟩
