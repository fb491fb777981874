/-! the texts' contents: P's letters stand in g from n on, what is ahead of n is as in f -/
noncomputable def dL : Nat → Nat → List Nat
  | 0, _ => []
  | k + 1, w => dL k (w / 10) ++ [48 + w % 10]
theorem dL_len : ∀ (k w : Nat), (dL k w).length = k
  | 0, _ => rfl
  | k + 1, w => by rw [dL, List.length_append, dL_len k]; rfl
theorem dL_at : ∀ (k w i : Nat), i < k → (dL k w)[i]? = some (48 + w / 10 ^ (k - 1 - i) % 10) := by
  intro k
  induction k with
  | zero => intro w i h; omega
  | succ k ih =>
    intro w i h
    rw [dL]
    by_cases c : i < k
    · rw [List.getElem?_append_left (by rw [dL_len]; exact c), ih (w / 10) i c, Nat.div_div_eq_div_mul, show k + 1 - 1 - i = (k - 1 - i) + 1 by omega, Nat.pow_succ, Nat.mul_comm]
    · obtain rfl : i = k := by omega
      rw [List.getElem?_append_right (by rw [dL_len]; exact Nat.le_refl _), dL_len, Nat.sub_self, show i + 1 - 1 - i = 0 by omega, Nat.pow_zero, Nat.div_one]
      rfl
noncomputable def tX (f g : Nat → Int32) (n : Nat) (P : List Nat) : Prop := (∀ j, j < n → g j = f j) ∧ ∀ (i c : Nat), P[i]? = some c → g (n + i) = sb_b c
theorem tX_nil (f : Nat → Int32) (n : Nat) : tX f f n [] := ⟨fun _ _ => rfl, fun i c h => by simp at h⟩
theorem tX_trans {f g h : Nat → Int32} {n n2 : Nat} {P Q : List Nat} (a : tX f g n P) (e : n2 = n + P.length) (b : tX g h n2 Q) : tX f h n (P ++ Q) := by
  subst e
  refine ⟨fun j hj => (b.1 j (by omega)).trans (a.1 j hj), fun i c hc => ?_⟩
  by_cases z : i < P.length
  · rw [List.getElem?_append_left z] at hc
    exact (b.1 (n + i) (by omega)).trans (a.2 i c hc)
  · rw [List.getElem?_append_right (Nat.le_of_not_lt z)] at hc
    have h2 := b.2 (i - P.length) c hc
    rw [show n + P.length + (i - P.length) = n + i by omega] at h2
    exact h2
theorem tX_pre {f g h : Nat → Int32} {n m : Nat} {P : List Nat} (k : ∀ j, j < m → g j = f j) (hn : n ≤ m) (b : tX g h n P) : tX f h n P := ⟨fun j hj => (b.1 j hj).trans (k j (by omega)), b.2⟩
theorem sb_bb (c : Nat) : (sb_b c).toInt8.toInt32 = sb_b c := by unfold sb_b; simp
theorem tX_put {f : Nat → Int32} {n c : Nat} (hn : n < 2 ^ 31) : tX f (upd f (nI n).toNatClampNeg (vp_nar .byte (nI c).toInt8.toInt32)) n [c] := by
  rw [nI_clamp hn, vp_nar_byte]
  refine ⟨fun j hj => pk_un (by omega), fun i d hd => ?_⟩
  rcases i with _ | i
  · have e : c = d := by simpa using hd
    subst e
    show upd f n _ n = _
    rw [pk_us]
    exact sb_bb c
  · simp at hd
theorem tX_cpy {f g : Nat → Int32} {b : List Int32} {n w : Nat} {P : List Nat} (hP : ∀ (i c : Nat), P[i]? = some c → i < w ∧ b.getD i 0 = sb_b c) (hg : g = va_cpy (fun j => b.getD j 0) f 0 n w) : tX f g n P := by
  subst hg
  refine ⟨fun j hj => if_neg (by omega), fun i c hc => ?_⟩
  obtain ⟨h1, h2⟩ := hP i c hc
  have e : va_cpy (fun j => b.getD j 0) f 0 n w (n + i) = b.getD (0 + (n + i - n)) 0 := if_pos (by omega)
  rw [e, show 0 + (n + i - n) = i by omega]
  exact h2
/-- d digits of w, written down from q -/
noncomputable def tW (f g : Nat → Int32) (q d w : Nat) : Prop := (∀ j, j + d < q ∨ q ≤ j → g j = f j) ∧ ∀ i, i < d → g (q - 1 - i) = sb_b (48 + w / 10 ^ i % 10)
theorem tW_X {f g : Nat → Int32} {n d w : Nat} (h : tW f g (n + d) d w) : tX f g n (dL d w) := by
  refine ⟨fun j hj => h.1 j (Or.inl (by omega)), fun i c hc => ?_⟩
  have hi : i < d := by
    obtain ⟨h9, _⟩ := List.getElem?_eq_some_iff.mp hc
    rw [dL_len] at h9
    exact h9
  rw [dL_at d w i hi] at hc
  have hc2 : 48 + w / 10 ^ (d - 1 - i) % 10 = c := Option.some.inj hc
  subst hc2
  have h2 := h.2 (d - 1 - i) (by omega)
  rw [show n + d - 1 - (d - 1 - i) = n + i by omega] at h2
  exact h2
theorem tW_one {f : Nat → Int32} {q w : Nat} {x : Int32} (hq : 0 < q) (hw : w < 10) (hx : x = sb_b (48 + w % 10)) : tW f (upd f (q - 1) x) q 1 w := by
  refine ⟨fun j hj => pk_un (by omega), fun i hi => ?_⟩
  obtain rfl : i = 0 := by omega
  rw [Nat.sub_zero, pk_us, Nat.pow_zero, Nat.div_one]
  exact hx
theorem tW_two {f : Nat → Int32} {q w : Nat} {x y : Int32} (hq : 1 < q) (hw : w < 100) (hx : x = sb_b (48 + w % 10)) (hy : y = sb_b (48 + w / 10)) : tW f (upd (upd f (q - 1) x) (q - 1 - 1) y) q 2 w := by
  refine ⟨fun j hj => by rw [pk_un (by omega), pk_un (by omega)], fun i hi => ?_⟩
  obtain rfl | rfl : i = 0 ∨ i = 1 := by omega
  · rw [Nat.sub_zero, pk_un (by omega), pk_us, Nat.pow_zero, Nat.div_one]
    exact hx
  · rw [pk_us, Nat.pow_one, show w / 10 % 10 = w / 10 by omega]
    exact hy
theorem tW_step {f g : Nat → Int32} {q d w : Nat} {x y : Int32} (hq : d + 2 ≤ q) (hx : x = sb_b (48 + w % 10)) (hy : y = sb_b (48 + w / 10 % 10)) (h : tW (upd (upd f (q - 1) x) (q - 1 - 1) y) g (q - 1 - 1) d (w / 100)) : tW f g q (d + 2) w := by
  refine ⟨fun j hj => by rw [h.1 j (by omega), pk_un (by omega), pk_un (by omega)], fun i hi => ?_⟩
  match i, hi with
  | 0, _ =>
    rw [Nat.sub_zero, h.1 _ (by omega), pk_un (by omega), pk_us, Nat.pow_zero, Nat.div_one]
    exact hx
  | 1, _ =>
    rw [h.1 _ (by omega), pk_us, Nat.pow_one]
    exact hy
  | k + 2, hi =>
    rw [show q - 1 - (k + 2) = q - 1 - 1 - 1 - k by omega, h.2 k (by omega), Nat.div_div_eq_div_mul, show 100 * 10 ^ k = 10 ^ (k + 2) by rw [show k + 2 = k + 1 + 1 from rfl, Nat.pow_succ, Nat.pow_succ]; omega]
theorem tD_1 {fO fT : Nat → Int32} (h : tD fO fT) (w : Nat) : vp_nar .byte (fO (w % 100)) = sb_b (48 + w % 10) := by
  have h1 := (h (w % 100) (by omega)).1
  rw [show w % 100 % 10 = w % 10 by omega] at h1
  exact h1
theorem tD_2 {fO fT : Nat → Int32} (h : tD fO fT) (w : Nat) : vp_nar .byte (fT (w % 100)) = sb_b (48 + w / 10 % 10) := by
  have h1 := (h (w % 100) (by omega)).2
  rw [show w % 100 / 10 = w / 10 % 10 by omega] at h1
  exact h1
theorem dL_big (a W : Nat) : dL (9 + a) W = dL a (W / 1000000000) ++ [48 + W % 1000000000 / 100000000 % 10] ++ [48 + W % 1000000000 / 10000000 % 10] ++ [48 + W % 1000000000 / 1000000 % 10] ++ [48 + W % 1000000000 / 100000 % 10] ++ [48 + W % 1000000000 / 10000 % 10] ++ [48 + W % 1000000000 / 1000 % 10] ++ [48 + W % 1000000000 / 100 % 10] ++ [48 + W % 1000000000 / 10 % 10] ++ [48 + W % 1000000000 / 1 % 10] := by
  rw [show 9 + a = a + 1 + 1 + 1 + 1 + 1 + 1 + 1 + 1 + 1 by omega, dL, dL, dL, dL, dL, dL, dL, dL, dL]
  rw [show W / 10 / 10 / 10 / 10 / 10 / 10 / 10 / 10 / 10 = W / 1000000000 by omega, show W / 10 / 10 / 10 / 10 / 10 / 10 / 10 / 10 % 10 = W % 1000000000 / 100000000 % 10 by omega, show W / 10 / 10 / 10 / 10 / 10 / 10 / 10 % 10 = W % 1000000000 / 10000000 % 10 by omega, show W / 10 / 10 / 10 / 10 / 10 / 10 % 10 = W % 1000000000 / 1000000 % 10 by omega, show W / 10 / 10 / 10 / 10 / 10 % 10 = W % 1000000000 / 100000 % 10 by omega, show W / 10 / 10 / 10 / 10 % 10 = W % 1000000000 / 10000 % 10 by omega, show W / 10 / 10 / 10 % 10 = W % 1000000000 / 1000 % 10 by omega, show W / 10 / 10 % 10 = W % 1000000000 / 100 % 10 by omega, show W / 10 % 10 = W % 1000000000 / 10 % 10 by omega, show W % 10 = W % 1000000000 / 1 % 10 by omega]
theorem lN_clamp {n : Nat} (h : n < 9223372036854775808) : (lN n).toNatClampNeg = n := by
  show (lN n).toInt.toNat = n
  rw [pk_lT h]
  rfl
/-- a text of n letters: those of L -/
noncomputable def tL (L : List Nat) (n : Nat) (g : Nat → Int32) : Prop := n = L.length ∧ ∀ (i c : Nat), L[i]? = some c → g i = sb_b c
theorem tL_of {f0 f g : Nat → Int32} {n : Nat} {P L : List Nat} (h : tX f0 f 0 P) (hn : P.length = n) (k : ∀ j, j < n → g j = f j) (e : P = L) : tL L n g := by
  subst e
  refine ⟨hn.symm, fun i c hc => ?_⟩
  obtain ⟨h9, _⟩ := List.getElem?_eq_some_iff.mp hc
  rw [k i (by omega)]
  have h2 := h.2 i c hc
  rw [Nat.zero_add] at h2
  exact h2
theorem tL_eq {L : List Nat} {n m : Nat} {f g : Nat → Int32} (h : tL L n f) (h2 : tL L m g) : m = n ∧ ∀ i, i < n → f i = g i := by
  refine ⟨h2.1.trans h.1.symm, fun i hi => ?_⟩
  have hi2 : i < L.length := by rw [← h.1]; exact hi
  have e : L[i]? = some L[i] := List.getElem?_eq_getElem hi2
  exact (h.2 i _ e).trans (h2.2 i _ e).symm

set_option maxHeartbeats 4000000 in
set_option maxRecDepth 100000 in
theorem kk_J7_copyOf_9075b (l : Launch) (dC : Nat → ClassId) (dI : Nat → Nat → Nat) (cB : ClassId) (v : Nat) (f : Nat → Int32) (sz N : Nat) (hf : sb_Fit f) : Met l yJ7_copyOf_9075b wsJ7_copyOf_9075b ({ frames := 1, cells := 1, slots := 34, locals := 100 }) (va_Pc [.ref v, .int 34] (xT (dC, dI) xCl [(v, eY cB 16 f)] [(cB, .byte)] sz N)) (va_Qr (fun (u : (Nat → Int32)) => sb_Fit u ∧ ∀ j, j < 16 → u j = f j) (fun (u : (Nat → Int32)) a t => xW (dC, dI) xCl [(a, eY cB 34 u)] (va_A [(v, eY cB 16 f)] sz) t) (va_A [(v, eY cB 16 f)] sz)) 1 34 (va_A [(v, eY cB 16 f)] sz) := by
  refine Met.ofW (cc := cJ7_copyOf_9075b) (maxL := 3) (ret := (some (.array .byte))) (by decide +kernel) rfl ?_
  intro p e s m args below meth c s₁ B hml hv
  obtain ⟨rfl, ⟨hsz, hP, hK, hD0, hN, hG⟩, hT⟩ := hv
  have hx := B.exec
  have hb := B.bytes
  have hr := B.returns
  have hts := atoms_spec (ws := wsJ7_copyOf_9075b) B.pre
  have hown : s.vm.findClass RJ7 = some m.cls := findClass_of_methodNamed B.named
  have hlocks := B.notSynchronized
  subst hsz
  have hAN : ∀ q, va_A [(v, eY cB 16 f)] s.heap.size q → N ≤ q := xA_N hD0 hN
  have hD := hD0.self (sz := s.heap.size)
  generalize hAe : va_A [(v, eY cB 16 f)] s.heap.size = A at hD hAN ⊢
  have hA : ∀ q : Nat, s.heap.size ≤ q → A q := fun q h => by rw [← hAe]; exact Or.inr h
  have hS : va_S A s.heap s.heap [] := va_S.rf
  have hP : va_P (dC, dI) xCl [(v, eY cB 16 f)] s.heap := hP
  obtain ⟨hTc, ⟨tO, tT, fO, fT, hTo, hTt, hTa, hTb, hTf, hTg⟩, ⟨adK, adV, hTs, hTr0, hTr1, hTr2⟩, ⟨aE, hTe⟩, hTn⟩ := id hT
  have hl := lv_entry ([.ref v, .int 34]) (n := 3) (Nat.le_of_ble_eq_true rfl)
  rw [lg_entry_eq]
  generalize (lg_sl ([.ref v, .int 34]) ++ List.replicate (3 - (lg_sl ([.ref v, .int 34])).length) Slot.unset).toArray = ls at hl ⊢
  have hl : lv_has ls 3 [(0, .ref v), (1, .int 34)] := hl
  refine lv_iload_n hx hb dJ7_copyOf_9075b_0 rfl (lv_at hl 1 rfl) ?_
  refine lv_aload_n hx hb dJ7_copyOf_9075b_1 rfl (lv_at hl 0 rfl) ?_
  refine va_alen hx hb hK hP 0 0 rfl rfl (v := 16) rfl dJ7_copyOf_9075b_2 ?_
  refine lv_icmp_ne (tgt := 14) hx hb dJ7_copyOf_9075b_3 (by decide) (fun _ => ?_) (fun c9 => absurd c9 (by decide))
  refine lv_iload_n hx hb dJ7_copyOf_9075b_14 rfl (lv_at hl 1 rfl) ?_
  refine va_newa (atype := .byte) (a0 := (34, .inl (fun _ => 0))) (N' := 34) hx hb (hts (.arrayClass .byte) (by decide +kernel)) rfl hK hP hD hS hA (fun cA => rfl) (by decide) (by decide) (by decide) (show _ ≤ 1 by omega) (show _ ≤ 34 by omega) dJ7_copyOf_9075b_15 (fun q15 cA H hK9 hP hD hS => ?_)
  have hcA : cA = cB := Option.some.inj ((((hK9.2 1 _ rfl).2).symm).trans (hK.2 0 _ rfl).2)
  rw [hcA] at hP hD
  have hP : va_P (dC, dI) xCl [(v, eY cB 16 f), (q15, eY cB 34 (fun _ => 0))] H := hP
  have hD : va_D A [(v, eY cB 16 f), (q15, eY cB 34 (fun _ => 0))] := hD
  refine lv_astore_n (lv' := [(2, .ref q15), (0, .ref v), (1, .int 34)]) hx hb dJ7_copyOf_9075b_17 rfl hl (by decide) rfl (fun ls hl => ?_)
  refine lv_aload_n hx hb dJ7_copyOf_9075b_18 rfl (lv_at hl 1 rfl) ?_
  refine lv_iconst (v := 0) hx hb dJ7_copyOf_9075b_19 (by decide) ?_
  refine lv_aload_n hx hb dJ7_copyOf_9075b_20 rfl (lv_at hl 0 rfl) ?_
  refine lv_iconst (v := 0) hx hb dJ7_copyOf_9075b_21 (by decide) ?_
  refine lv_aload_n hx hb dJ7_copyOf_9075b_22 rfl (lv_at hl 1 rfl) ?_
  refine va_alen hx hb hK hP 0 0 rfl rfl (v := 16) rfl dJ7_copyOf_9075b_23 ?_
  refine lv_iload_n hx hb dJ7_copyOf_9075b_24 rfl (lv_at hl 2 rfl) ?_
  refine va_mmin hx hb (hml.trans hl.1.symm) hown (hts (.methodLink RJ7 304 Lib.Math.min.name) (by decide +kernel)) (hts (.static Lib.Math.min.name) (by decide +kernel)) (hts (.initialized "java/lang/Math") (by decide +kernel)) (hts (.code Lib.Math.min.name Lib.Math.min.code 2 (some .int)) (by decide +kernel)) (Nat.le_of_ble_eq_true rfl) (Nat.le_of_ble_eq_true rfl) (show _ ≤ 1 by omega) (show _ ≤ 34 by omega) dJ7_copyOf_9075b_25 ?_
  rw [show ((if (34 : Int32) < 16 then 34 else 16) : Int32) = 16 from by decide]
  refine va_copyi hx hb (hml.trans hl.1.symm) hown (hts (.methodLink RJ7 150 arraycopyName) (by decide +kernel)) (hts (.native arraycopyName) (by decide +kernel)) (hts (.static arraycopyName) (by decide +kernel)) (hts (.initialized "java/lang/System") (by decide +kernel)) hK hP hD hS 0 1 0 0 (f := f) (g := (fun _ => 0)) rfl rfl rfl rfl rfl (by decide) (by decide) (by decide) (by decide) (by decide) (fun i _ => hf _) (Nat.le_of_ble_eq_true rfl) (by decide +kernel) dJ7_copyOf_9075b_28 (fun H locs hP hD hS => ?_)
  obtain ⟨f_1, hf_1⟩ : ∃ z : Nat → Int32, z = va_cpy f (fun _ => 0) (0 : Int32).toNatClampNeg (0 : Int32).toNatClampNeg (16 : Int32).toNatClampNeg := ⟨_, rfl⟩
  have hf_2 : sb_Fit f_1 := by rw [hf_1]; exact sb_fitC hf sb_fit0
  have hP : va_P (dC, dI) xCl [(v, eY cB 16 f), (q15, eY cB 34 (va_cpy f (fun _ => 0) (0 : Int32).toNatClampNeg (0 : Int32).toNatClampNeg (16 : Int32).toNatClampNeg))] H := hP
  have hD : va_D A [(v, eY cB 16 f), (q15, eY cB 34 (va_cpy f (fun _ => 0) (0 : Int32).toNatClampNeg (0 : Int32).toNatClampNeg (16 : Int32).toNatClampNeg))] := hD
  rw [← hf_1] at hP hD
  have hP : va_P (dC, dI) xCl [(v, eY cB 16 f), (q15, eY cB 34 f_1)] H := hP
  have hD : va_D A [(v, eY cB 16 f), (q15, eY cB 34 f_1)] := hD
  refine lv_aload_n hx hb dJ7_copyOf_9075b_31 rfl (lv_at hl 0 rfl) ?_
  have hP := hP.sub (ws' := [(q15, eY cB 34 f_1)]) [1] rfl
  have hD := hD.sub (ws' := [(q15, eY cB 34 f_1)]) [1] (by decide) rfl
  refine W.widen (k := 1) (n := 34) (by omega) (by omega) ?_
  exact W.aret (v := .ref q15) hx hb hr (Or.inr ⟨_, rfl⟩) (Or.inr ⟨_, rfl⟩) (fun t ht hW => ⟨⟨f_1, _, rfl, ⟨hf_2, fun j hj => by rw [hf_1, sb_cl0, show (16 : Int32).toNatClampNeg = 16 from by decide]; exact sb_cpy0 hj⟩, ⟨by rw [ht]; exact hP, hD⟩⟩, hS.F ht⟩) hS.2.2 dJ7_copyOf_9075b_32
set_option maxHeartbeats 4000000 in
set_option maxRecDepth 100000 in
theorem kk_J5_ensureCapacityInternal_d00df (l : Launch) (dC : Nat → ClassId) (dI : Nat → Nat → Nat) (cB : ClassId) (h : Nat) (v : Nat) (n : Int32) (mm : Nat) (f : Nat → Int32) (q : Nat) (sz N : Nat) (hm : mm = 16 ∨ mm = 34) (hf : sb_Fit f) (hq : q ≤ 34) : Met l yJ5_ensureCapacityInternal_d00df wsJ5_ensureCapacityInternal_d00df ({ frames := 3, cells := 1, slots := 34, locals := 122 }) (va_Pc [.ref h, .int (nI q)] (xT (dC, dI) xCl [(h, eB v n), (v, eY cB mm f)] [(cB, .byte)] sz N)) (va_Qv (fun (u : Nat × Nat × (Nat → Int32)) => (u.2.1 = 16 ∨ u.2.1 = 34) ∧ q ≤ u.2.1 ∧ sb_Fit u.2.2 ∧ ∀ j, j < mm → u.2.2 j = f j) (fun (u : Nat × Nat × (Nat → Int32)) t => xW (dC, dI) xCl [(h, eB u.1 n), (u.1, eY cB u.2.1 u.2.2)] (va_A [(h, eB v n), (v, eY cB mm f)] sz) t) (va_A [(h, eB v n), (v, eY cB mm f)] sz)) 1 34 (va_A [(h, eB v n), (v, eY cB mm f)] sz) := by
  refine Met.ofW (cc := cJ5_ensureCapacityInternal_d00df) (maxL := 3) (ret := none) (by decide +kernel) rfl ?_
  intro p e s m args below meth c s₁ B hml hv
  obtain ⟨rfl, ⟨hsz, hP, hK, hD0, hN, hG⟩, hT⟩ := hv
  have hx := B.exec
  have hb := B.bytes
  have hr := B.returns
  have hts := atoms_spec (ws := wsJ5_ensureCapacityInternal_d00df) B.pre
  have hown : s.vm.findClass RJ5 = some m.cls := findClass_of_methodNamed B.named
  have hlocks := B.notSynchronized
  subst hsz
  have hAN : ∀ q, va_A [(h, eB v n), (v, eY cB mm f)] s.heap.size q → N ≤ q := xA_N hD0 hN
  have hD := hD0.self (sz := s.heap.size)
  generalize hAe : va_A [(h, eB v n), (v, eY cB mm f)] s.heap.size = A at hD hAN ⊢
  have hA : ∀ q : Nat, s.heap.size ≤ q → A q := fun q h => by rw [← hAe]; exact Or.inr h
  have hS : va_S A s.heap s.heap [] := va_S.rf
  have hP : va_P (dC, dI) xCl [(h, eB v n), (v, eY cB mm f)] s.heap := hP
  obtain ⟨hTc, ⟨tO, tT, fO, fT, hTo, hTt, hTa, hTb, hTf, hTg⟩, ⟨adK, adV, hTs, hTr0, hTr1, hTr2⟩, ⟨aE, hTe⟩, hTn⟩ := id hT
  have hl := lv_entry ([.ref h, .int (nI q)]) (n := 3) (Nat.le_of_ble_eq_true rfl)
  rw [lg_entry_eq]
  generalize (lg_sl ([.ref h, .int (nI q)]) ++ List.replicate (3 - (lg_sl ([.ref h, .int (nI q)])).length) Slot.unset).toArray = ls at hl ⊢
  have hl : lv_has ls 3 [(0, .ref h), (1, .int (nI q))] := hl
  refine lv_aload_n hx hb dJ5_ensureCapacityInternal_d00df_0 rfl (lv_at hl 0 rfl) ?_
  refine va_get (D := (dC, dI)) (ci := 1) (v := .ref v) (C := RJ4) (T := TJ4) (N := 4) hx hb hts (by decide +kernel) hown hK hP 0 rfl rfl 0 (by decide) (hts (.fieldLink RJ5 15 "java/lang/AbstractStringBuilder" "value" "[B") (by decide +kernel)) (fun _ h9 => h9) rfl dJ5_ensureCapacityInternal_d00df_1 ?_
  refine va_alen hx hb hK hP 1 0 rfl rfl (v := (nI mm)) rfl dJ5_ensureCapacityInternal_d00df_4 ?_
  refine lv_aload_n hx hb dJ5_ensureCapacityInternal_d00df_5 rfl (lv_at hl 0 rfl) ?_
  refine va_get (D := (dC, dI)) (ci := 1) (v := .int 0) (C := RJ4) (T := TJ4) (N := 4) hx hb hts (by decide +kernel) hown hK hP 0 rfl rfl 1 (by decide) (hts (.fieldLink RJ5 22 "java/lang/AbstractStringBuilder" "coder" "B") (by decide +kernel)) (fun _ h9 => h9) rfl dJ5_ensureCapacityInternal_d00df_6 ?_
  refine lv_ishr hx hb dJ5_ensureCapacityInternal_d00df_9 ?_
  rw [show ((((nI mm) : Int32) >>> ((0 : Int32) &&& 31)) : Int32) = (nI mm) from sb_shr0 _]
  refine lv_istore_n (lv' := [(2, .int (nI mm)), (0, .ref h), (1, .int (nI q))]) hx hb dJ5_ensureCapacityInternal_d00df_10 rfl hl (by decide) rfl (fun ls hl => ?_)
  refine lv_iload_n hx hb dJ5_ensureCapacityInternal_d00df_11 rfl (lv_at hl 2 rfl) ?_
  refine lv_iload_n hx hb dJ5_ensureCapacityInternal_d00df_12 rfl (lv_at hl 0 rfl) ?_
  refine lv_isub hx hb dJ5_ensureCapacityInternal_d00df_13 ?_
  refine lv_if_le (tgt := 38) hx hb dJ5_ensureCapacityInternal_d00df_14 (by decide) (fun c_1 => ?_) (fun c_1 => ?_)
  · skip
    have hql : q ≤ mm := (jl_le (by omega) (by omega)).mp c_1
    have hP := hP.sub (ws' := [(h, eB v n), (v, eY cB mm f)]) [0, 1] rfl
    have hD := hD.sub (ws' := [(h, eB v n), (v, eY cB mm f)]) [0, 1] (by decide) rfl
    refine W.widen (k := 1) (n := 34) (by omega) (by omega) ?_
    exact W.vret hx hb hr (fun t ht hW => ⟨⟨(v, mm, f), rfl, ⟨hm, hql, hf, fun _ _ => rfl⟩, by rw [ht]; exact hP, hD⟩, hS.F ht⟩) hS.2.2 dJ5_ensureCapacityInternal_d00df_38
  · skip
    have hlt : ¬ q ≤ mm := fun z => c_1 ((jl_le (by omega) (by omega)).mpr z)
    obtain rfl : mm = 16 := by omega
    have hq1 : 16 < q := by omega
    have hP : va_P (dC, dI) xCl [(h, eB v n), (v, eY cB 16 f)] s.heap := hP
    have hD : va_D A [(h, eB v n), (v, eY cB 16 f)] := hD
    refine lv_aload_n hx hb dJ5_ensureCapacityInternal_d00df_17 rfl (lv_at hl 1 rfl) ?_
    refine lv_aload_n hx hb dJ5_ensureCapacityInternal_d00df_18 rfl (lv_at hl 1 rfl) ?_
    refine va_get (D := (dC, dI)) (ci := 1) (v := .ref v) (C := RJ4) (T := TJ4) (N := 4) hx hb hts (by decide +kernel) hown hK hP 0 rfl rfl 0 (by decide) (hts (.fieldLink RJ5 15 "java/lang/AbstractStringBuilder" "value" "[B") (by decide +kernel)) (fun _ h9 => h9) rfl dJ5_ensureCapacityInternal_d00df_19 ?_
    refine lv_aload_n hx hb dJ5_ensureCapacityInternal_d00df_22 rfl (lv_at hl 1 rfl) ?_
    refine lv_iload_n hx hb dJ5_ensureCapacityInternal_d00df_23 rfl (lv_at hl 2 rfl) ?_
    have hPc := hP.sub (ws' := [(h, eB v n), (v, eY cB 16 f)]) [0, 1] rfl
    have hDc := hD.sub (ws' := [(h, eB v n), (v, eY cB 16 f)]) [0, 1] (by decide) rfl
    have hKc := hK.sub (tys' := [(cB, .byte)]) [0] rfl
    have hFc := va_free (wc := [(h, eB v n), (v, eY cB 16 f)]) hD hS hA [0, 1] rfl
    refine va_calli (va_runU (As := [.int (nI q)]) (rest := [.ref v, .ref h]) ⟨hx, hb, hml, hown, hts⟩ (k_J5_newCapacity_0f7a4 l dC dI cB h v n f q s.heap.size N (by omega) (by omega)) (va_cwU 1 hts gJ5_ensureCapacityInternal_d00df_J5_newCapacity_0f7a4_u104J4 rfl rfl rfl rfl (by decide +kernel) ⟨Nat.le_of_ble_eq_true rfl, Nat.le_of_ble_eq_true rfl⟩) (xT.preV hKc hPc hDc hAN (Nat.le_trans hN hS.1) (hG.kept hS hAN) (hT.kept hS hAN) (ci := 1) (q0 := 0) rfl rfl) rfl rfl hl.1 rfl (lv_room (Nat.le_of_ble_eq_true rfl)) dJ5_ensureCapacityInternal_d00df_24 ⟨(show _ ≤ 1 by omega), (show _ ≤ 34 by omega)⟩) hS (fun q _ h => hFc q h) hFc (fun r_2 u_3 t H locs ht hvm hw hB hz hk hS => ?_)
    obtain ⟨hP1, hD1⟩ := hB
    rw [ht] at hP1
    obtain ⟨hP, hD⟩ := va_join (wr := []) (w1 := [(h, eB v n), (v, eY cB 16 f)]) hP hD [0, 1] [] rfl rfl (by decide) (by decide) hk hFc hP1 hD1
    have hP : va_P (dC, dI) xCl [(h, eB v n), (v, eY cB 16 f)] H := hP
    have hD : va_D A [(h, eB v n), (v, eY cB 16 f)] := hD
    have hw : r_2 = 34 := hw
    rw [hw]
    refine lv_aload_n hx hb dJ5_ensureCapacityInternal_d00df_27 rfl (lv_at hl 1 rfl) ?_
    refine va_get (D := (dC, dI)) (ci := 1) (v := .int 0) (C := RJ4) (T := TJ4) (N := 4) hx hb hts (by decide +kernel) hown hK hP 0 rfl rfl 1 (by decide) (hts (.fieldLink RJ5 22 "java/lang/AbstractStringBuilder" "coder" "B") (by decide +kernel)) (fun _ h9 => h9) rfl dJ5_ensureCapacityInternal_d00df_28 ?_
    refine lv_ishl hx hb dJ5_ensureCapacityInternal_d00df_31 ?_
    rw [show (((34 : Int32) <<< ((0 : Int32) &&& 31)) : Int32) = 34 from by decide]
    have hPc := hP.sub (ws' := [(v, eY cB 16 f)]) [1] rfl
    have hDc := hD.sub (ws' := [(v, eY cB 16 f)]) [1] (by decide) rfl
    have hKc := hK.sub (tys' := [(cB, .byte)]) [0] rfl
    have hFc := va_free (wc := [(v, eY cB 16 f)]) hD hS hA [1] rfl
    refine va_callr (va_runS (As := [.ref v, .int 34]) (rest := [.ref h]) ⟨hx, hb, hml, hown, hts⟩ (kk_J7_copyOf_9075b l dC dI cB v f H.size N hf) (va_cwS 2 hts gJ5_ensureCapacityInternal_d00df_J7_copyOf_9075b rfl rfl rfl (by decide +kernel) ⟨Nat.le_of_ble_eq_true rfl, Nat.le_of_ble_eq_true rfl⟩) (xT.preS hKc hPc hDc hAN (Nat.le_trans hN hS.1) (hG.kept hS hAN) (hT.kept hS hAN)) rfl rfl hl.1 rfl (lv_room (Nat.le_of_ble_eq_true rfl)) dJ5_ensureCapacityInternal_d00df_32 ⟨(show _ ≤ 1 by omega), (show _ ≤ 34 by omega)⟩) hS (fun q _ h => hFc q h) hFc (fun u_6 r_5 t H locs ht hvm hw hB hz hk hS => ?_)
    obtain ⟨hP1, hD1⟩ := hB
    rw [ht] at hP1
    obtain ⟨f2_4, rfl⟩ : ∃ z, z = u_6 := ⟨_, rfl⟩
    obtain ⟨hP, hD⟩ := va_join (wr := [(h, eB v n)]) (w1 := [(r_5, eY cB 34 f2_4)]) hP hD [1] [0] rfl rfl (by decide) (by decide) hk hFc hP1 hD1
    have hP : va_P (dC, dI) xCl [(h, eB v n), (r_5, eY cB 34 f2_4)] H := hP
    have hD : va_D A [(h, eB v n), (r_5, eY cB 34 f2_4)] := hD
    obtain ⟨hf_f2_4, hk_f2_4⟩ : sb_Fit f2_4 ∧ ∀ j, j < 16 → f2_4 j = f j := hw
    refine va_put (D := (dC, dI)) (ci := 1) (v := .ref r_5) (ty := (.array .byte)) (C := RJ4) (T := TJ4) (N := 4) hx hb hts (by decide +kernel) tyJ4 tyJ4_ok nmJ4 hown hK hP hD hS 0 rfl rfl 0 (by decide) (hts (.fieldLink RJ5 15 "java/lang/AbstractStringBuilder" "value" "[B") (by decide +kernel)) (fun _ h9 => h9) rfl (by decide +kernel) rfl rfl (Nat.le_of_ble_eq_true rfl) dJ5_ensureCapacityInternal_d00df_35 (fun H locs hP hD hS => ?_)
    have hP : va_P (dC, dI) xCl [(h, eB r_5 n), (r_5, eY cB 34 f2_4)] H := hP
    have hD : va_D A [(h, eB r_5 n), (r_5, eY cB 34 f2_4)] := hD
    have hP := hP.sub (ws' := [(h, eB r_5 n), (r_5, eY cB 34 f2_4)]) [0, 1] rfl
    have hD := hD.sub (ws' := [(h, eB r_5 n), (r_5, eY cB 34 f2_4)]) [0, 1] (by decide) rfl
    refine W.widen (k := 1) (n := 34) (by omega) (by omega) ?_
    exact W.vret hx hb hr (fun t ht hW => ⟨⟨(r_5, 34, f2_4), rfl, ⟨Or.inr rfl, hq, hf_f2_4, hk_f2_4⟩, by rw [ht]; exact hP, hD⟩, hS.F ht⟩) hS.2.2 dJ5_ensureCapacityInternal_d00df_38
set_option maxHeartbeats 4000000 in
set_option maxRecDepth 100000 in
theorem kk_J5_append_3fe6f (l : Launch) (dC : Nat → ClassId) (dI : Nat → Nat → Nat) (cB : ClassId) (h : Nat) (v : Nat) (n : Nat) (mm : Nat) (f : Nat → Int32) (ch : Nat) (sz N : Nat) (hm : mm = 16 ∨ mm = 34) (hf : sb_Fit f) (hnm : n ≤ mm) (hn : n + 1 ≤ 34) (hc : ch < 256) : Met l yJ5_append_3fe6f wsJ5_append_3fe6f ({ frames := 4, cells := 1, slots := 34, locals := 144 }) (va_Pc [.ref h, .int (nI ch)] (xT (dC, dI) xCl [(h, eB v (nI n)), (v, eY cB mm f)] [(cB, .byte)] sz N)) (va_Qr (fun (u : Nat × Nat × (Nat → Int32)) => (u.2.1 = 16 ∨ u.2.1 = 34) ∧ n + 1 ≤ u.2.1 ∧ sb_Fit u.2.2 ∧ tX f u.2.2 n [ch]) (fun (u : Nat × Nat × (Nat → Int32)) a t => a = h ∧ xW (dC, dI) xCl [(h, eB u.1 (nI (n + 1))), (u.1, eY cB u.2.1 u.2.2)] (va_A [(h, eB v (nI n)), (v, eY cB mm f)] sz) t) (va_A [(h, eB v (nI n)), (v, eY cB mm f)] sz)) 1 34 (va_A [(h, eB v (nI n)), (v, eY cB mm f)] sz) := by
  refine Met.ofW (cc := cJ5_append_3fe6f) (maxL := 2) (ret := (some (.object "java/lang/AbstractStringBuilder"))) (by decide +kernel) rfl ?_
  intro p e s m args below meth c s₁ B hml hv
  obtain ⟨rfl, ⟨hsz, hP, hK, hD0, hN, hG⟩, hT⟩ := hv
  have hx := B.exec
  have hb := B.bytes
  have hr := B.returns
  have hts := atoms_spec (ws := wsJ5_append_3fe6f) B.pre
  have hown : s.vm.findClass RJ5 = some m.cls := findClass_of_methodNamed B.named
  have hlocks := B.notSynchronized
  subst hsz
  have hAN : ∀ q, va_A [(h, eB v (nI n)), (v, eY cB mm f)] s.heap.size q → N ≤ q := xA_N hD0 hN
  have hD := hD0.self (sz := s.heap.size)
  generalize hAe : va_A [(h, eB v (nI n)), (v, eY cB mm f)] s.heap.size = A at hD hAN ⊢
  have hA : ∀ q : Nat, s.heap.size ≤ q → A q := fun q h => by rw [← hAe]; exact Or.inr h
  have hS : va_S A s.heap s.heap [] := va_S.rf
  have hP : va_P (dC, dI) xCl [(h, eB v (nI n)), (v, eY cB mm f)] s.heap := hP
  obtain ⟨hTc, ⟨tO, tT, fO, fT, hTo, hTt, hTa, hTb, hTf, hTg⟩, ⟨adK, adV, hTs, hTr0, hTr1, hTr2⟩, ⟨aE, hTe⟩, hTn⟩ := id hT
  have hl := lv_entry ([.ref h, .int (nI ch)]) (n := 2) (Nat.le_of_ble_eq_true rfl)
  rw [lg_entry_eq]
  generalize (lg_sl ([.ref h, .int (nI ch)]) ++ List.replicate (2 - (lg_sl ([.ref h, .int (nI ch)])).length) Slot.unset).toArray = ls at hl ⊢
  have hl : lv_has ls 2 [(0, .ref h), (1, .int (nI ch))] := hl
  refine lv_aload_n hx hb dJ5_append_3fe6f_0 rfl (lv_at hl 0 rfl) ?_
  refine lv_aload_n hx hb dJ5_append_3fe6f_1 rfl (lv_at hl 0 rfl) ?_
  refine va_get (D := (dC, dI)) (ci := 1) (v := .int (nI n)) (C := RJ4) (T := TJ4) (N := 4) hx hb hts (by decide +kernel) hown hK hP 0 rfl rfl 3 (by decide) (hts (.fieldLink RJ5 79 "java/lang/AbstractStringBuilder" "count" "I") (by decide +kernel)) (fun _ h9 => h9) rfl dJ5_append_3fe6f_2 ?_
  refine lv_iconst (v := 1) hx hb dJ5_append_3fe6f_5 (by decide) ?_
  refine lv_iadd hx hb dJ5_append_3fe6f_6 ?_
  rw [show (((nI n) + 1) : Int32) = (nI (n + 1)) from nI_1 n]
  have hPc := hP.sub (ws' := [(h, eB v (nI n)), (v, eY cB mm f)]) [0, 1] rfl
  have hDc := hD.sub (ws' := [(h, eB v (nI n)), (v, eY cB mm f)]) [0, 1] (by decide) rfl
  have hKc := hK.sub (tys' := [(cB, .byte)]) [0] rfl
  have hFc := va_free (wc := [(h, eB v (nI n)), (v, eY cB mm f)]) hD hS hA [0, 1] rfl
  refine va_callv (va_runU (As := [.int (nI (n + 1))]) (rest := []) ⟨hx, hb, hml, hown, hts⟩ (kk_J5_ensureCapacityInternal_d00df l dC dI cB h v (nI n) mm f (n + 1) s.heap.size N hm hf (by omega)) (va_cwU 1 hts gJ5_append_3fe6f_J5_ensureCapacityInternal_d00df_u100J4 rfl rfl rfl rfl (by decide +kernel) ⟨Nat.le_of_ble_eq_true rfl, Nat.le_of_ble_eq_true rfl⟩) (xT.preV hKc hPc hDc hAN (Nat.le_trans hN hS.1) (hG.kept hS hAN) (hT.kept hS hAN) (ci := 1) (q0 := 0) rfl rfl) rfl rfl hl.1 rfl (lv_room (Nat.le_of_ble_eq_true rfl)) dJ5_append_3fe6f_7 ⟨(show _ ≤ 1 by omega), (show _ ≤ 34 by omega)⟩) hS (fun q _ h => hFc q h) hFc (fun u_5 t H locs ht hvm hw hB hz hk hS => ?_)
  obtain ⟨hP1, hD1⟩ := hB
  rw [ht] at hP1
  obtain ⟨v2_1, m2_2, f2_3⟩ := u_5
  obtain ⟨hP, hD⟩ := va_join (wr := []) (w1 := [(h, eB v2_1 (nI n)), (v2_1, eY cB m2_2 f2_3)]) hP hD [0, 1] [] rfl rfl (by decide) (by decide) hk hFc hP1 hD1
  have hP : va_P (dC, dI) xCl [(h, eB v2_1 (nI n)), (v2_1, eY cB m2_2 f2_3)] H := hP
  have hD : va_D A [(h, eB v2_1 (nI n)), (v2_1, eY cB m2_2 f2_3)] := hD
  obtain ⟨hm_m2_2, hq_m2_2, hf_m2_2, hk_m2_2⟩ : (m2_2 = 16 ∨ m2_2 = 34) ∧ (n + 1) ≤ m2_2 ∧ sb_Fit f2_3 ∧ ∀ j, j < mm → f2_3 j = f j := hw
  refine lv_aload_n hx hb dJ5_append_3fe6f_10 rfl (lv_at hl 0 rfl) ?_
  have hPc := hP.sub (ws' := [(h, eB v2_1 (nI n))]) [0] rfl
  have hDc := hD.sub (ws' := [(h, eB v2_1 (nI n))]) [0] (by decide) rfl
  have hKc := hK.sub (tys' := [(cB, .byte)]) [0] rfl
  have hFc := va_free (wc := [(h, eB v2_1 (nI n))]) hD hS hA [0] rfl
  refine va_calli (va_runU (As := []) (rest := []) ⟨hx, hb, hml, hown, hts⟩ (k_J5_isLatin1_aae02 l dC dI cB h v2_1 (nI n) H.size N) (va_cwU 0 hts gJ5_append_3fe6f_J5_isLatin1_aae02_u83J4 rfl rfl rfl rfl (by decide +kernel) ⟨Nat.le_of_ble_eq_true rfl, Nat.le_of_ble_eq_true rfl⟩) (xT.preV hKc hPc hDc hAN (Nat.le_trans hN hS.1) (hG.kept hS hAN) (hT.kept hS hAN) (ci := 1) (q0 := 0) rfl rfl) rfl rfl hl.1 rfl (lv_room (Nat.le_of_ble_eq_true rfl)) dJ5_append_3fe6f_11 ⟨(show _ ≤ 1 by omega), (show _ ≤ 34 by omega)⟩) hS (fun q _ h => hFc q h) hFc (fun r_6 u_7 t H locs ht hvm hw hB hz hk hS => ?_)
  obtain ⟨hP1, hD1⟩ := hB
  rw [ht] at hP1
  obtain ⟨hP, hD⟩ := va_join (wr := [(v2_1, eY cB m2_2 f2_3)]) (w1 := [(h, eB v2_1 (nI n))]) hP hD [0] [1] rfl rfl (by decide) (by decide) hk hFc hP1 hD1
  have hP : va_P (dC, dI) xCl [(v2_1, eY cB m2_2 f2_3), (h, eB v2_1 (nI n))] H := hP
  have hD : va_D A [(v2_1, eY cB m2_2 f2_3), (h, eB v2_1 (nI n))] := hD
  have hw : r_6 = 1 := hw
  rw [hw]
  refine lv_if_eq (tgt := 45) hx hb dJ5_append_3fe6f_14 (by decide) (fun c9 => absurd c9 (by decide)) (fun _ => ?_)
  refine lv_iload_n hx hb dJ5_append_3fe6f_17 rfl (lv_at hl 1 rfl) ?_
  have hPc := xP_nil (D := (dC, dI)) (cl := xCl) (H := H)
  have hDc := xD_nil (A := A)
  have hKc := hK.sub (tys' := [(cB, .byte)]) [0] rfl
  have hFc := va_free (wc := []) hD hS hA [] rfl
  refine va_calli (va_runS (As := [.int (nI ch)]) (rest := []) ⟨hx, hb, hml, hown, hts⟩ (k_J1_canEncode_fc78d l dC dI cB ch H.size N hc) (va_cwS 1 hts gJ5_append_3fe6f_J1_canEncode_fc78d rfl rfl rfl (by decide +kernel) ⟨Nat.le_of_ble_eq_true rfl, Nat.le_of_ble_eq_true rfl⟩) (xT.preS hKc hPc hDc hAN (Nat.le_trans hN hS.1) (hG.kept hS hAN) (hT.kept hS hAN)) rfl rfl hl.1 rfl (lv_room (Nat.le_of_ble_eq_true rfl)) dJ5_append_3fe6f_18 ⟨(show _ ≤ 1 by omega), (show _ ≤ 34 by omega)⟩) hS (fun q _ h => hFc q h) hFc (fun r_8 u_9 t H locs ht hvm hw hB hz hk hS => ?_)
  obtain ⟨hP1, hD1⟩ := hB
  rw [ht] at hP1
  obtain ⟨hP, hD⟩ := va_join (wr := [(v2_1, eY cB m2_2 f2_3), (h, eB v2_1 (nI n))]) (w1 := []) hP hD [] [0, 1] rfl rfl (by decide) (by decide) hk hFc hP1 hD1
  have hP : va_P (dC, dI) xCl [(v2_1, eY cB m2_2 f2_3), (h, eB v2_1 (nI n))] H := hP
  have hD : va_D A [(v2_1, eY cB m2_2 f2_3), (h, eB v2_1 (nI n))] := hD
  have hw : r_8 = 1 := hw
  rw [hw]
  refine lv_if_eq (tgt := 45) hx hb dJ5_append_3fe6f_21 (by decide) (fun c9 => absurd c9 (by decide)) (fun _ => ?_)
  refine lv_aload_n hx hb dJ5_append_3fe6f_24 rfl (lv_at hl 0 rfl) ?_
  refine va_get (D := (dC, dI)) (ci := 1) (v := .ref v2_1) (C := RJ4) (T := TJ4) (N := 4) hx hb hts (by decide +kernel) hown hK hP 1 rfl rfl 0 (by decide) (hts (.fieldLink RJ5 15 "java/lang/AbstractStringBuilder" "value" "[B") (by decide +kernel)) (fun _ h9 => h9) rfl dJ5_append_3fe6f_25 ?_
  refine lv_aload_n hx hb dJ5_append_3fe6f_28 rfl (lv_at hl 0 rfl) ?_
  refine lv_dup hx hb dJ5_append_3fe6f_29 rfl ?_
  refine va_get (D := (dC, dI)) (ci := 1) (v := .int (nI n)) (C := RJ4) (T := TJ4) (N := 4) hx hb hts (by decide +kernel) hown hK hP 1 rfl rfl 3 (by decide) (hts (.fieldLink RJ5 79 "java/lang/AbstractStringBuilder" "count" "I") (by decide +kernel)) (fun _ h9 => h9) rfl dJ5_append_3fe6f_30 ?_
  refine lv_dup_x1 hx hb dJ5_append_3fe6f_33 rfl rfl ?_
  refine lv_iconst (v := 1) hx hb dJ5_append_3fe6f_34 (by decide) ?_
  refine lv_iadd hx hb dJ5_append_3fe6f_35 ?_
  rw [show (((nI n) + 1) : Int32) = (nI (n + 1)) from nI_1 n]
  refine va_put (D := (dC, dI)) (ci := 1) (v := .int (nI (n + 1))) (ty := .int) (C := RJ4) (T := TJ4) (N := 4) hx hb hts (by decide +kernel) tyJ4 tyJ4_ok nmJ4 hown hK hP hD hS 1 rfl rfl 3 (by decide) (hts (.fieldLink RJ5 79 "java/lang/AbstractStringBuilder" "count" "I") (by decide +kernel)) (fun _ h9 => h9) rfl (by decide +kernel) rfl rfl (Nat.le_of_ble_eq_true rfl) dJ5_append_3fe6f_36 (fun H locs hP hD hS => ?_)
  have hP : va_P (dC, dI) xCl [(v2_1, eY cB m2_2 f2_3), (h, eB v2_1 (nI (n + 1)))] H := hP
  have hD : va_D A [(v2_1, eY cB m2_2 f2_3), (h, eB v2_1 (nI (n + 1)))] := hD
  refine lv_iload_n hx hb dJ5_append_3fe6f_39 rfl (lv_at hl 1 rfl) ?_
  refine lv_i2b (v := (nI ch).toInt8.toInt32) hx hb dJ5_append_3fe6f_40 rfl ?_
  refine va_bast hx hb hK hP hD hS 0 0 rfl rfl (vp_in_nI (n := n) (N := m2_2) (by omega) (by omega)) dJ5_append_3fe6f_41 (fun H locs hP hD hS => ?_)
  have hP : va_P (dC, dI) xCl [(v2_1, eY cB m2_2 (upd f2_3 (nI n).toNatClampNeg (vp_nar .byte ((nI ch).toInt8.toInt32)))), (h, eB v2_1 (nI (n + 1)))] H := hP
  have hD : va_D A [(v2_1, eY cB m2_2 (upd f2_3 (nI n).toNatClampNeg (vp_nar .byte ((nI ch).toInt8.toInt32)))), (h, eB v2_1 (nI (n + 1)))] := hD
  obtain ⟨f_10, hf_10⟩ : ∃ z : Nat → Int32, z = (upd f2_3 (nI n).toNatClampNeg (vp_nar .byte ((nI ch).toInt8.toInt32))) := ⟨_, rfl⟩
  have hf_11 : sb_Fit f_10 := by rw [hf_10]; exact sb_fitU hf_m2_2 (sb_nar _)
  rw [← hf_10] at hP hD
  have hP : va_P (dC, dI) xCl [(v2_1, eY cB m2_2 f_10), (h, eB v2_1 (nI (n + 1)))] H := hP
  have hD : va_D A [(v2_1, eY cB m2_2 f_10), (h, eB v2_1 (nI (n + 1)))] := hD
  refine lv_goto (tgt := 75) hx hb dJ5_append_3fe6f_42 (by decide) ?_
  refine lv_aload_n hx hb dJ5_append_3fe6f_75 rfl (lv_at hl 0 rfl) ?_
  have hP := hP.sub (ws' := [(h, eB v2_1 (nI (n + 1))), (v2_1, eY cB m2_2 f_10)]) [1, 0] rfl
  have hD := hD.sub (ws' := [(h, eB v2_1 (nI (n + 1))), (v2_1, eY cB m2_2 f_10)]) [1, 0] (by decide) rfl
  refine W.widen (k := 1) (n := 34) (by omega) (by omega) ?_
  exact W.aret (v := .ref h) hx hb hr (Or.inl ⟨_, rfl⟩) (Or.inr ⟨_, rfl⟩) (fun t ht hW => ⟨⟨(v2_1, m2_2, f_10), _, rfl, ⟨hm_m2_2, hq_m2_2, hf_11, (tX_pre hk_m2_2 hnm (by rw [hf_10]; exact tX_put (by omega)))⟩, ⟨rfl, by rw [ht]; exact hP, hD⟩⟩, hS.F ht⟩) hS.2.2 dJ5_append_3fe6f_76
set_option maxHeartbeats 4000000 in
set_option maxRecDepth 100000 in
theorem kk_J4_append_cf468 (l : Launch) (dC : Nat → ClassId) (dI : Nat → Nat → Nat) (cB : ClassId) (h : Nat) (v : Nat) (n : Nat) (mm : Nat) (f : Nat → Int32) (ch : Nat) (sz N : Nat) (hm : mm = 16 ∨ mm = 34) (hf : sb_Fit f) (hnm : n ≤ mm) (hn : n + 1 ≤ 34) (hc : ch < 256) : Met l yJ4_append_cf468 wsJ4_append_cf468 ({ frames := 5, cells := 1, slots := 34, locals := 165 }) (va_Pc [.ref h, .int (nI ch)] (xT (dC, dI) xCl [(h, eB v (nI n)), (v, eY cB mm f)] [(cB, .byte)] sz N)) (va_Qr (fun (u : Nat × Nat × (Nat → Int32)) => (u.2.1 = 16 ∨ u.2.1 = 34) ∧ n + 1 ≤ u.2.1 ∧ sb_Fit u.2.2 ∧ tX f u.2.2 n [ch]) (fun (u : Nat × Nat × (Nat → Int32)) a t => a = h ∧ xW (dC, dI) xCl [(h, eB u.1 (nI (n + 1))), (u.1, eY cB u.2.1 u.2.2)] (va_A [(h, eB v (nI n)), (v, eY cB mm f)] sz) t) (va_A [(h, eB v (nI n)), (v, eY cB mm f)] sz)) 1 34 (va_A [(h, eB v (nI n)), (v, eY cB mm f)] sz) := by
  refine Met.ofW (cc := cJ4_append_cf468) (maxL := 2) (ret := (some (.object "java/lang/StringBuilder"))) (by decide +kernel) rfl ?_
  intro p e s m args below meth c s₁ B hml hv
  obtain ⟨rfl, ⟨hsz, hP, hK, hD0, hN, hG⟩, hT⟩ := hv
  have hx := B.exec
  have hb := B.bytes
  have hr := B.returns
  have hts := atoms_spec (ws := wsJ4_append_cf468) B.pre
  have hown : s.vm.findClass RJ4 = some m.cls := findClass_of_methodNamed B.named
  have hlocks := B.notSynchronized
  subst hsz
  have hAN : ∀ q, va_A [(h, eB v (nI n)), (v, eY cB mm f)] s.heap.size q → N ≤ q := xA_N hD0 hN
  have hD := hD0.self (sz := s.heap.size)
  generalize hAe : va_A [(h, eB v (nI n)), (v, eY cB mm f)] s.heap.size = A at hD hAN ⊢
  have hA : ∀ q : Nat, s.heap.size ≤ q → A q := fun q h => by rw [← hAe]; exact Or.inr h
  have hS : va_S A s.heap s.heap [] := va_S.rf
  have hP : va_P (dC, dI) xCl [(h, eB v (nI n)), (v, eY cB mm f)] s.heap := hP
  obtain ⟨hTc, ⟨tO, tT, fO, fT, hTo, hTt, hTa, hTb, hTf, hTg⟩, ⟨adK, adV, hTs, hTr0, hTr1, hTr2⟩, ⟨aE, hTe⟩, hTn⟩ := id hT
  have hl := lv_entry ([.ref h, .int (nI ch)]) (n := 2) (Nat.le_of_ble_eq_true rfl)
  rw [lg_entry_eq]
  generalize (lg_sl ([.ref h, .int (nI ch)]) ++ List.replicate (2 - (lg_sl ([.ref h, .int (nI ch)])).length) Slot.unset).toArray = ls at hl ⊢
  have hl : lv_has ls 2 [(0, .ref h), (1, .int (nI ch))] := hl
  refine lv_aload_n hx hb dJ4_append_cf468_0 rfl (lv_at hl 0 rfl) ?_
  refine lv_iload_n hx hb dJ4_append_cf468_1 rfl (lv_at hl 1 rfl) ?_
  have hPc := hP.sub (ws' := [(h, eB v (nI n)), (v, eY cB mm f)]) [0, 1] rfl
  have hDc := hD.sub (ws' := [(h, eB v (nI n)), (v, eY cB mm f)]) [0, 1] (by decide) rfl
  have hKc := hK.sub (tys' := [(cB, .byte)]) [0] rfl
  have hFc := va_free (wc := [(h, eB v (nI n)), (v, eY cB mm f)]) hD hS hA [0, 1] rfl
  refine va_callr (va_runSU (hK.1 1 _ rfl).2 (As := [.int (nI ch)]) (rest := []) ⟨hx, hb, hml, hown, hts⟩ (kk_J5_append_3fe6f l dC dI cB h v n mm f ch s.heap.size N hm hf (by omega) (by omega) (by omega)) (va_cwSU 1 hts gJ4_append_cf468_J5_append_3fe6f_s50 rfl rfl rfl (by decide +kernel) ⟨Nat.le_of_ble_eq_true rfl, Nat.le_of_ble_eq_true rfl⟩) (xT.preV hKc hPc hDc hAN (Nat.le_trans hN hS.1) (hG.kept hS hAN) (hT.kept hS hAN) (ci := 1) (q0 := 0) rfl rfl) rfl rfl hl.1 rfl (lv_room (Nat.le_of_ble_eq_true rfl)) dJ4_append_cf468_2 ⟨(show _ ≤ 1 by omega), (show _ ≤ 34 by omega)⟩) hS (fun q _ h => hFc q h) hFc (fun u_5 r_4 t H locs ht hvm hw hB hz hk hS => ?_)
  obtain ⟨he_r_4, hP1, hD1⟩ := hB
  rw [ht] at hP1
  obtain ⟨v2_1, m2_2, f2_3⟩ := u_5
  obtain ⟨hP, hD⟩ := va_join (wr := []) (w1 := [(h, eB v2_1 (nI (n + 1))), (v2_1, eY cB m2_2 f2_3)]) hP hD [0, 1] [] rfl rfl (by decide) (by decide) hk hFc hP1 hD1
  have hP : va_P (dC, dI) xCl [(h, eB v2_1 (nI (n + 1))), (v2_1, eY cB m2_2 f2_3)] H := hP
  have hD : va_D A [(h, eB v2_1 (nI (n + 1))), (v2_1, eY cB m2_2 f2_3)] := hD
  obtain ⟨hm_m2_2, hq_m2_2, hf_m2_2, hx_m2_2⟩ : (m2_2 = 16 ∨ m2_2 = 34) ∧ n + 1 ≤ m2_2 ∧ sb_Fit f2_3 ∧ tX f f2_3 n ([ch] : List Nat) := hw
  rw [he_r_4]
  refine lv_pop hx hb dJ4_append_cf468_5 rfl ?_
  refine lv_aload_n hx hb dJ4_append_cf468_6 rfl (lv_at hl 0 rfl) ?_
  have hP := hP.sub (ws' := [(h, eB v2_1 (nI (n + 1))), (v2_1, eY cB m2_2 f2_3)]) [0, 1] rfl
  have hD := hD.sub (ws' := [(h, eB v2_1 (nI (n + 1))), (v2_1, eY cB m2_2 f2_3)]) [0, 1] (by decide) rfl
  refine W.widen (k := 1) (n := 34) (by omega) (by omega) ?_
  exact W.aret (v := .ref h) hx hb hr (Or.inl ⟨_, rfl⟩) (Or.inr ⟨_, rfl⟩) (fun t ht hW => ⟨⟨(v2_1, m2_2, f2_3), _, rfl, ⟨hm_m2_2, hq_m2_2, hf_m2_2, hx_m2_2⟩, ⟨rfl, by rw [ht]; exact hP, hD⟩⟩, hS.F ht⟩) hS.2.2 dJ4_append_cf468_7
set_option maxHeartbeats 4000000 in
set_option maxRecDepth 100000 in
theorem kk_J6_getChars_ba4f3 (l : Launch) (dC : Nat → ClassId) (dI : Nat → Nat → Nat) (cB : ClassId) (w0 : Nat) (q0 : Nat) (v : Nat) (mm : Nat) (f0 : Nat → Int32) (sz N : Nat) (hwb : w0 < 2 ^ 31) (hq : sb_dg w0 ≤ q0) (hqm : q0 ≤ mm) (hmb : mm ≤ 34) (hf : sb_Fit f0) : Met l yJ6_getChars_ba4f3 wsJ6_getChars_ba4f3 ({ frames := 0, cells := 0, slots := 0, locals := 0 }) (va_Pc [.int (nI w0), .int (nI q0), .ref v] (xT (dC, dI) xCl [(v, eY cB mm f0)] [(cB, .byte)] sz N)) (va_Qi (fun (r : Int32) (u : (Nat → Int32)) => sb_Fit u ∧ tW f0 u q0 (sb_dg w0) w0) (fun (u : (Nat → Int32)) t => xW (dC, dI) xCl [(v, eY cB mm u)] (va_A [(v, eY cB mm f0)] sz) t) (va_A [(v, eY cB mm f0)] sz)) 0 0 (va_A [(v, eY cB mm f0)] sz) := by
  refine Met.ofW (cc := cJ6_getChars_ba4f3) (maxL := 7) (ret := (some .int)) (by decide +kernel) rfl ?_
  intro p e s m args below meth c s₁ B hml hv
  obtain ⟨rfl, ⟨hsz, hP, hK, hD0, hN, hG⟩, hT⟩ := hv
  have hx := B.exec
  have hb := B.bytes
  have hr := B.returns
  have hts := atoms_spec (ws := wsJ6_getChars_ba4f3) B.pre
  have hown : s.vm.findClass RJ6 = some m.cls := findClass_of_methodNamed B.named
  have hlocks := B.notSynchronized
  subst hsz
  have hAN : ∀ q, va_A [(v, eY cB mm f0)] s.heap.size q → N ≤ q := xA_N hD0 hN
  have hD := hD0.self (sz := s.heap.size)
  generalize hAe : va_A [(v, eY cB mm f0)] s.heap.size = A at hD hAN ⊢
  have hA : ∀ q : Nat, s.heap.size ≤ q → A q := fun q h => by rw [← hAe]; exact Or.inr h
  have hS : va_S A s.heap s.heap [] := va_S.rf
  have hP : va_P (dC, dI) xCl [(v, eY cB mm f0)] s.heap := hP
  obtain ⟨hTc, ⟨tO, tT, fO, fT, hTo, hTt, hTa, hTb, hTf, hTg⟩, ⟨adK, adV, hTs, hTr0, hTr1, hTr2⟩, ⟨aE, hTe⟩, hTn⟩ := id hT
  have hl := lv_entry ([.int (nI w0), .int (nI q0), .ref v]) (n := 7) (Nat.le_of_ble_eq_true rfl)
  rw [lg_entry_eq]
  generalize (lg_sl ([.int (nI w0), .int (nI q0), .ref v]) ++ List.replicate (7 - (lg_sl ([.int (nI w0), .int (nI q0), .ref v])).length) Slot.unset).toArray = ls at hl ⊢
  have hl : lv_has ls 7 [(0, .int (nI w0)), (1, .int (nI q0)), (2, .ref v)] := hl
  refine lv_iload_n hx hb dJ6_getChars_ba4f3_0 rfl (lv_at hl 1 rfl) ?_
  refine lv_istore (lv' := [(5, .int (nI q0)), (0, .int (nI w0)), (1, .int (nI q0)), (2, .ref v)]) hx hb dJ6_getChars_ba4f3_1 hl (by decide) rfl (fun ls hl => ?_)
  refine lv_iload_n hx hb dJ6_getChars_ba4f3_3 rfl (lv_at hl 1 rfl) ?_
  refine lv_if_ge (tgt := 11) hx hb dJ6_getChars_ba4f3_4 (by decide) (fun c9 => ?_) (fun c9 => absurd (nI_pos' (by omega)) c9)
  refine lv_iconst (v := 0) hx hb dJ6_getChars_ba4f3_11 (by decide) ?_
  refine lv_istore (lv' := [(6, .int 0), (5, .int (nI q0)), (0, .int (nI w0)), (1, .int (nI q0)), (2, .ref v)]) hx hb dJ6_getChars_ba4f3_12 hl (by decide) rfl (fun ls hl => ?_)
  refine lv_iload hx hb dJ6_getChars_ba4f3_14 (lv_at hl 0 rfl) ?_
  refine lv_if_ne (tgt := 22) hx hb dJ6_getChars_ba4f3_16 (by decide) (fun c9 => absurd c9 (by decide)) (fun _ => ?_)
  refine lv_iload_n hx hb dJ6_getChars_ba4f3_19 rfl (lv_at hl 2 rfl) ?_
  refine lv_ineg hx hb dJ6_getChars_ba4f3_20 ?_
  refine lv_istore_n (lv' := [(0, .int (-(nI w0))), (6, .int 0), (5, .int (nI q0)), (1, .int (nI q0)), (2, .ref v)]) hx hb dJ6_getChars_ba4f3_21 rfl hl (by decide) rfl (fun ls hl => ?_)
  have loop_a : ∀ (k w q : Nat) (f : Nat → Int32) (H : Heap) (locs : List Loc) (ls : Array Slot), w < k → w < 2 ^ 31 → sb_dg w ≤ q → q ≤ mm → sb_Fit f → (∀ g, tW f g q (sb_dg w) w → tW f0 g q0 (sb_dg w0) w0) → va_P (dC, dI) xCl [(v, eY cB mm f)] H → va_D A [(v, eY cB mm f)] → va_S A s.heap H locs → lv_has ls 7 [(0, .int (-(nI w))), (2, .ref v), (5, .int (nI q)), (6, .int 0)] → W p l e (headSpec wsJ6_getChars_ba4f3 ({ frames := 0, cells := 0, slots := 0, locals := 0 } : Room)).room s m ([.int (nI w0), .int (nI q0), .ref v]).toArray below meth c H locs 0 0 (MQ below (va_Qi (fun (r : Int32) (u : (Nat → Int32)) => sb_Fit u ∧ tW f0 u q0 (sb_dg w0) w0) (fun (u : (Nat → Int32)) t => xW (dC, dI) xCl [(v, eY cB mm u)] A t) A) ([.int (nI w0), .int (nI q0), .ref v]).toArray s 0 0 A) (F0 m 22 ls []) := by
    intro k
    induction k with
    | zero => intro w q f H locs ls hk; exact absurd hk (Nat.not_lt_zero _)
    | succ k ih_a =>
      intro w q f H locs ls hk hwb hq hqm hf hz hP hD hS hl
      have hd0 := (sb_dg_in w).1
      have hd1 := (sb_dg_in (w / 100)).1
      refine lv_iload_n hx hb dJ6_getChars_ba4f3_22 rfl (lv_at hl 0 rfl) ?_
      refine lv_bipush (v := (-100)) hx hb dJ6_getChars_ba4f3_23 (by decide) ?_
      refine lv_icmp_gt (tgt := 72) hx hb dJ6_getChars_ba4f3_25 (by decide) (fun c_1 => ?_) (fun c_1 => ?_)
      · skip
        have z_c_1 : w < 100 := (sb_nlt (a := 100) (b := w) (by decide) (by omega)).mp c_1
        refine lv_aload_n hx hb dJ6_getChars_ba4f3_72 rfl (lv_at hl 1 rfl) ?_
        refine lv_iinc (v := (nI (q - 1))) (lv' := [(5, .int (nI (q - 1))), (0, .int (-(nI w))), (2, .ref v), (6, .int 0)]) hx hb dJ6_getChars_ba4f3_73 hl (k := 2) rfl (sb_m1 (by omega)) (by decide) rfl (fun ls hl => ?_)
        refine lv_iload hx hb dJ6_getChars_ba4f3_76 (lv_at hl 0 rfl) ?_
        refine va_gets hx hb (va_Z.narrow hTo hAN) hS hown (hts (.fieldLink RJ6 83 "java/lang/Integer" "DigitOnes" "[B") (by decide +kernel)) (fun _ h9 => h9) dJ6_getChars_ba4f3_78 ?_
        refine lv_iload_n hx hb dJ6_getChars_ba4f3_81 rfl (lv_at hl 1 rfl) ?_
        refine lv_ineg hx hb dJ6_getChars_ba4f3_82 ?_
        rw [show ((-(-(nI w))) : Int32) = (nI w) from Int32.neg_neg]
        refine va_tb hx hb (va_T.narrow hTa hAN) hS (vp_in_nI (n := w) (N := 100) (by omega) (by decide)) rfl dJ6_getChars_ba4f3_83 ?_
        refine va_bast hx hb hK hP hD hS 0 0 rfl rfl (vp_in_nI (n := (q - 1)) (N := mm) (by omega) (by omega)) dJ6_getChars_ba4f3_84 (fun H locs hP hD hS => ?_)
        have hP : va_P (dC, dI) xCl [(v, eY cB mm (upd f (nI (q - 1)).toNatClampNeg (vp_nar .byte (fO (nI w).toNatClampNeg))))] H := hP
        have hD : va_D A [(v, eY cB mm (upd f (nI (q - 1)).toNatClampNeg (vp_nar .byte (fO (nI w).toNatClampNeg))))] := hD
        obtain ⟨f_2, hf_2⟩ : ∃ z : Nat → Int32, z = (upd f (nI (q - 1)).toNatClampNeg (vp_nar .byte (fO (nI w).toNatClampNeg))) := ⟨_, rfl⟩
        have hf_3 : sb_Fit f_2 := by rw [hf_2]; exact sb_fitU hf (sb_nar _)
        rw [← hf_2] at hP hD
        have hP : va_P (dC, dI) xCl [(v, eY cB mm f_2)] H := hP
        have hD : va_D A [(v, eY cB mm f_2)] := hD
        refine lv_iload_n hx hb dJ6_getChars_ba4f3_85 rfl (lv_at hl 1 rfl) ?_
        refine lv_bipush (v := (-9)) hx hb dJ6_getChars_ba4f3_86 (by decide) ?_
        refine lv_icmp_ge (tgt := 104) hx hb dJ6_getChars_ba4f3_88 (by decide) (fun c_4 => ?_) (fun c_4 => ?_)
        · skip
          have z_c_4 : w ≤ 9 := (sb_nle (a := 9) (b := w) (by decide) (by omega)).mp c_4
          refine lv_iload hx hb dJ6_getChars_ba4f3_104 (lv_at hl 3 rfl) ?_
          refine lv_if_eq (tgt := 118) hx hb dJ6_getChars_ba4f3_106 (by decide) (fun _ => ?_) (fun c9 => absurd c9 (by decide))
          refine lv_iload hx hb dJ6_getChars_ba4f3_118 (lv_at hl 0 rfl) ?_
          have hz_5 : tW f f_2 q (sb_dg w) w := by
            rw [show sb_dg w = 1 from by rw [sb_dg, if_pos (show w < 10 by omega)], hf_2, nI_clamp (by omega), nI_clamp (by omega)]
            exact tW_one (by omega) (by omega) (hTg.2 w (by omega)).1
          have hP := hP.sub (ws' := [(v, eY cB mm f_2)]) [0] rfl
          have hD := hD.sub (ws' := [(v, eY cB mm f_2)]) [0] (by decide) rfl
          refine W.widen (k := 0) (n := 0) (by omega) (by omega) ?_
          exact W.iret (v := (nI (q - 1))) hx hb hr (fun t ht hW => ⟨⟨_, f_2, rfl, ⟨hf_3, hz _ hz_5⟩, by rw [ht]; exact hP, hD⟩, hS.F ht⟩) hS.2.2 dJ6_getChars_ba4f3_120
        · skip
          have z_c_4 : ¬ w ≤ 9 := fun z => c_4 ((sb_nle (a := 9) (b := w) (by decide) (by omega)).mpr z)
          have hd3 := dg_10 (w := w) (by omega)
          refine lv_aload_n hx hb dJ6_getChars_ba4f3_91 rfl (lv_at hl 2 rfl) ?_
          refine lv_iinc (v := (nI ((q - 1) - 1))) (lv' := [(5, .int (nI ((q - 1) - 1))), (0, .int (-(nI w))), (2, .ref v), (6, .int 0)]) hx hb dJ6_getChars_ba4f3_92 hl (k := 0) rfl (sb_m1 (by omega)) (by decide) rfl (fun ls hl => ?_)
          refine lv_iload hx hb dJ6_getChars_ba4f3_95 (lv_at hl 0 rfl) ?_
          refine va_gets hx hb (va_Z.narrow hTt hAN) hS hown (hts (.fieldLink RJ6 87 "java/lang/Integer" "DigitTens" "[B") (by decide +kernel)) (fun _ h9 => h9) dJ6_getChars_ba4f3_97 ?_
          refine lv_iload_n hx hb dJ6_getChars_ba4f3_100 rfl (lv_at hl 1 rfl) ?_
          refine lv_ineg hx hb dJ6_getChars_ba4f3_101 ?_
          rw [show ((-(-(nI w))) : Int32) = (nI w) from Int32.neg_neg]
          refine va_tb hx hb (va_T.narrow hTb hAN) hS (vp_in_nI (n := w) (N := 100) (by omega) (by decide)) rfl dJ6_getChars_ba4f3_102 ?_
          refine va_bast hx hb hK hP hD hS 0 0 rfl rfl (vp_in_nI (n := ((q - 1) - 1)) (N := mm) (by omega) (by omega)) dJ6_getChars_ba4f3_103 (fun H locs hP hD hS => ?_)
          have hP : va_P (dC, dI) xCl [(v, eY cB mm (upd f_2 (nI ((q - 1) - 1)).toNatClampNeg (vp_nar .byte (fT (nI w).toNatClampNeg))))] H := hP
          have hD : va_D A [(v, eY cB mm (upd f_2 (nI ((q - 1) - 1)).toNatClampNeg (vp_nar .byte (fT (nI w).toNatClampNeg))))] := hD
          obtain ⟨f_6, hf_6⟩ : ∃ z : Nat → Int32, z = (upd f_2 (nI ((q - 1) - 1)).toNatClampNeg (vp_nar .byte (fT (nI w).toNatClampNeg))) := ⟨_, rfl⟩
          have hf_7 : sb_Fit f_6 := by rw [hf_6]; exact sb_fitU hf_3 (sb_nar _)
          rw [← hf_6] at hP hD
          have hP : va_P (dC, dI) xCl [(v, eY cB mm f_6)] H := hP
          have hD : va_D A [(v, eY cB mm f_6)] := hD
          refine lv_iload hx hb dJ6_getChars_ba4f3_104 (lv_at hl 3 rfl) ?_
          refine lv_if_eq (tgt := 118) hx hb dJ6_getChars_ba4f3_106 (by decide) (fun _ => ?_) (fun c9 => absurd c9 (by decide))
          refine lv_iload hx hb dJ6_getChars_ba4f3_118 (lv_at hl 0 rfl) ?_
          have hz_8 : tW f f_6 q (sb_dg w) w := by
            rw [show sb_dg w = 2 from by rw [sb_dg, if_neg (show ¬ w < 10 by omega), if_pos (show w < 100 by omega)], hf_6, hf_2, nI_clamp (by omega), nI_clamp (by omega), nI_clamp (by omega)]
            exact tW_two (by omega) (by omega) (hTg.2 w (by omega)).1 (hTg.2 w (by omega)).2
          have hP := hP.sub (ws' := [(v, eY cB mm f_6)]) [0] rfl
          have hD := hD.sub (ws' := [(v, eY cB mm f_6)]) [0] (by decide) rfl
          refine W.widen (k := 0) (n := 0) (by omega) (by omega) ?_
          exact W.iret (v := (nI ((q - 1) - 1))) hx hb hr (fun t ht hW => ⟨⟨_, f_6, rfl, ⟨hf_7, hz _ hz_8⟩, by rw [ht]; exact hP, hD⟩, hS.F ht⟩) hS.2.2 dJ6_getChars_ba4f3_120
      · skip
        have z_c_1 : ¬ w < 100 := fun z => c_1 ((sb_nlt (a := 100) (b := w) (by decide) (by omega)).mpr z)
        have hd2 := sb_dg100 (w := w) (by omega) (by omega)
        refine lv_iload_n hx hb dJ6_getChars_ba4f3_28 rfl (lv_at hl 0 rfl) ?_
        refine lv_bipush (v := 100) hx hb dJ6_getChars_ba4f3_29 (by decide) ?_
        refine lv_idiv hx hb dJ6_getChars_ba4f3_31 (by decide) ?_
        rw [show (((-(nI w)) / 100) : Int32) = (-(nI (w / 100))) from sb_ndiv (by omega)]
        refine lv_istore_n (lv' := [(3, .int (-(nI (w / 100)))), (0, .int (-(nI w))), (2, .ref v), (5, .int (nI q)), (6, .int 0)]) hx hb dJ6_getChars_ba4f3_32 rfl hl (by decide) rfl (fun ls hl => ?_)
        refine lv_iload_n hx hb dJ6_getChars_ba4f3_33 rfl (lv_at hl 0 rfl) ?_
        refine lv_bipush (v := 100) hx hb dJ6_getChars_ba4f3_34 (by decide) ?_
        refine lv_imul hx hb dJ6_getChars_ba4f3_36 ?_
        refine lv_iload_n hx hb dJ6_getChars_ba4f3_37 rfl (lv_at hl 1 rfl) ?_
        refine lv_isub hx hb dJ6_getChars_ba4f3_38 ?_
        rw [show ((((-(nI (w / 100))) * 100) - (-(nI w))) : Int32) = (nI (w % 100)) from sb_nrem (by omega)]
        refine lv_istore (lv' := [(4, .int (nI (w % 100))), (3, .int (-(nI (w / 100)))), (0, .int (-(nI w))), (2, .ref v), (5, .int (nI q)), (6, .int 0)]) hx hb dJ6_getChars_ba4f3_39 hl (by decide) rfl (fun ls hl => ?_)
        refine lv_iload_n hx hb dJ6_getChars_ba4f3_41 rfl (lv_at hl 1 rfl) ?_
        refine lv_istore_n (lv' := [(0, .int (-(nI (w / 100)))), (4, .int (nI (w % 100))), (3, .int (-(nI (w / 100)))), (2, .ref v), (5, .int (nI q)), (6, .int 0)]) hx hb dJ6_getChars_ba4f3_42 rfl hl (by decide) rfl (fun ls hl => ?_)
        refine lv_aload_n hx hb dJ6_getChars_ba4f3_43 rfl (lv_at hl 3 rfl) ?_
        refine lv_iinc (v := (nI (q - 1))) (lv' := [(5, .int (nI (q - 1))), (0, .int (-(nI (w / 100)))), (4, .int (nI (w % 100))), (3, .int (-(nI (w / 100)))), (2, .ref v), (6, .int 0)]) hx hb dJ6_getChars_ba4f3_44 hl (k := 4) rfl (sb_m1 (by omega)) (by decide) rfl (fun ls hl => ?_)
        refine lv_iload hx hb dJ6_getChars_ba4f3_47 (lv_at hl 0 rfl) ?_
        refine va_gets hx hb (va_Z.narrow hTo hAN) hS hown (hts (.fieldLink RJ6 83 "java/lang/Integer" "DigitOnes" "[B") (by decide +kernel)) (fun _ h9 => h9) dJ6_getChars_ba4f3_49 ?_
        refine lv_iload hx hb dJ6_getChars_ba4f3_52 (lv_at hl 2 rfl) ?_
        refine va_tb hx hb (va_T.narrow hTa hAN) hS (vp_in_nI (n := (w % 100)) (N := 100) (by omega) (by decide)) rfl dJ6_getChars_ba4f3_54 ?_
        refine va_bast hx hb hK hP hD hS 0 0 rfl rfl (vp_in_nI (n := (q - 1)) (N := mm) (by omega) (by omega)) dJ6_getChars_ba4f3_55 (fun H locs hP hD hS => ?_)
        have hP : va_P (dC, dI) xCl [(v, eY cB mm (upd f (nI (q - 1)).toNatClampNeg (vp_nar .byte (fO (nI (w % 100)).toNatClampNeg))))] H := hP
        have hD : va_D A [(v, eY cB mm (upd f (nI (q - 1)).toNatClampNeg (vp_nar .byte (fO (nI (w % 100)).toNatClampNeg))))] := hD
        obtain ⟨f_9, hf_9⟩ : ∃ z : Nat → Int32, z = (upd f (nI (q - 1)).toNatClampNeg (vp_nar .byte (fO (nI (w % 100)).toNatClampNeg))) := ⟨_, rfl⟩
        have hf_10 : sb_Fit f_9 := by rw [hf_9]; exact sb_fitU hf (sb_nar _)
        rw [← hf_9] at hP hD
        have hP : va_P (dC, dI) xCl [(v, eY cB mm f_9)] H := hP
        have hD : va_D A [(v, eY cB mm f_9)] := hD
        refine lv_aload_n hx hb dJ6_getChars_ba4f3_56 rfl (lv_at hl 4 rfl) ?_
        refine lv_iinc (v := (nI ((q - 1) - 1))) (lv' := [(5, .int (nI ((q - 1) - 1))), (0, .int (-(nI (w / 100)))), (4, .int (nI (w % 100))), (3, .int (-(nI (w / 100)))), (2, .ref v), (6, .int 0)]) hx hb dJ6_getChars_ba4f3_57 hl (k := 0) rfl (sb_m1 (by omega)) (by decide) rfl (fun ls hl => ?_)
        refine lv_iload hx hb dJ6_getChars_ba4f3_60 (lv_at hl 0 rfl) ?_
        refine va_gets hx hb (va_Z.narrow hTt hAN) hS hown (hts (.fieldLink RJ6 87 "java/lang/Integer" "DigitTens" "[B") (by decide +kernel)) (fun _ h9 => h9) dJ6_getChars_ba4f3_62 ?_
        refine lv_iload hx hb dJ6_getChars_ba4f3_65 (lv_at hl 2 rfl) ?_
        refine va_tb hx hb (va_T.narrow hTb hAN) hS (vp_in_nI (n := (w % 100)) (N := 100) (by omega) (by decide)) rfl dJ6_getChars_ba4f3_67 ?_
        refine va_bast hx hb hK hP hD hS 0 0 rfl rfl (vp_in_nI (n := ((q - 1) - 1)) (N := mm) (by omega) (by omega)) dJ6_getChars_ba4f3_68 (fun H locs hP hD hS => ?_)
        have hP : va_P (dC, dI) xCl [(v, eY cB mm (upd f_9 (nI ((q - 1) - 1)).toNatClampNeg (vp_nar .byte (fT (nI (w % 100)).toNatClampNeg))))] H := hP
        have hD : va_D A [(v, eY cB mm (upd f_9 (nI ((q - 1) - 1)).toNatClampNeg (vp_nar .byte (fT (nI (w % 100)).toNatClampNeg))))] := hD
        obtain ⟨f_11, hf_11⟩ : ∃ z : Nat → Int32, z = (upd f_9 (nI ((q - 1) - 1)).toNatClampNeg (vp_nar .byte (fT (nI (w % 100)).toNatClampNeg))) := ⟨_, rfl⟩
        have hf_12 : sb_Fit f_11 := by rw [hf_11]; exact sb_fitU hf_10 (sb_nar _)
        rw [← hf_11] at hP hD
        have hP : va_P (dC, dI) xCl [(v, eY cB mm f_11)] H := hP
        have hD : va_D A [(v, eY cB mm f_11)] := hD
        refine lv_goto (tgt := 22) hx hb dJ6_getChars_ba4f3_69 (by decide) ?_
        have hs_13 : ∀ g, tW f_11 g (q - 1 - 1) (sb_dg (w / 100)) (w / 100) → tW f0 g q0 (sb_dg w0) w0 := by
          intro g h9
          rw [hf_11, hf_9, nI_clamp (by omega), nI_clamp (by omega), nI_clamp (by omega)] at h9
          refine hz g ?_
          rw [hd2]
          exact tW_step (by omega) (tD_1 hTg.2 w) (tD_2 hTg.2 w) h9
        exact ih_a (w / 100) ((q - 1) - 1) f_11 _ _ _ (by omega) (by omega) (by omega) (by omega) hf_12 hs_13 hP hD hS (lv_sub hl [1, 4, 0, 5] rfl)
  exact loop_a (w0 + 1) w0 q0 f0 _ _ _ (by omega) (by omega) (by omega) (by omega) hf (fun g h => h) hP hD hS (lv_sub hl [0, 4, 2, 1] rfl)
set_option maxHeartbeats 4000000 in
set_option maxRecDepth 100000 in
theorem kk_J5_append_c97b9 (l : Launch) (dC : Nat → ClassId) (dI : Nat → Nat → Nat) (cB : ClassId) (h : Nat) (v : Nat) (n : Nat) (mm : Nat) (f : Nat → Int32) (w : Nat) (sz N : Nat) (hm : mm = 16 ∨ mm = 34) (hf : sb_Fit f) (hnm : n ≤ mm) (hwb : w < 2 ^ 31) (hn : n + sb_dg w ≤ 34) : Met l yJ5_append_c97b9 wsJ5_append_c97b9 ({ frames := 4, cells := 1, slots := 34, locals := 144 }) (va_Pc [.ref h, .int (nI w)] (xT (dC, dI) xCl [(h, eB v (nI n)), (v, eY cB mm f)] [(cB, .byte)] sz N)) (va_Qr (fun (u : Nat × Nat × (Nat → Int32)) => (u.2.1 = 16 ∨ u.2.1 = 34) ∧ n + sb_dg w ≤ u.2.1 ∧ sb_Fit u.2.2 ∧ tX f u.2.2 n (dL (sb_dg w) w)) (fun (u : Nat × Nat × (Nat → Int32)) a t => a = h ∧ xW (dC, dI) xCl [(h, eB u.1 (nI (n + sb_dg w))), (u.1, eY cB u.2.1 u.2.2)] (va_A [(h, eB v (nI n)), (v, eY cB mm f)] sz) t) (va_A [(h, eB v (nI n)), (v, eY cB mm f)] sz)) 1 34 (va_A [(h, eB v (nI n)), (v, eY cB mm f)] sz) := by
  refine Met.ofW (cc := cJ5_append_c97b9) (maxL := 4) (ret := (some (.object "java/lang/AbstractStringBuilder"))) (by decide +kernel) rfl ?_
  intro p e s m args below meth c s₁ B hml hv
  obtain ⟨rfl, ⟨hsz, hP, hK, hD0, hN, hG⟩, hT⟩ := hv
  have hx := B.exec
  have hb := B.bytes
  have hr := B.returns
  have hts := atoms_spec (ws := wsJ5_append_c97b9) B.pre
  have hown : s.vm.findClass RJ5 = some m.cls := findClass_of_methodNamed B.named
  have hlocks := B.notSynchronized
  subst hsz
  have hAN : ∀ q, va_A [(h, eB v (nI n)), (v, eY cB mm f)] s.heap.size q → N ≤ q := xA_N hD0 hN
  have hD := hD0.self (sz := s.heap.size)
  generalize hAe : va_A [(h, eB v (nI n)), (v, eY cB mm f)] s.heap.size = A at hD hAN ⊢
  have hA : ∀ q : Nat, s.heap.size ≤ q → A q := fun q h => by rw [← hAe]; exact Or.inr h
  have hS : va_S A s.heap s.heap [] := va_S.rf
  have hP : va_P (dC, dI) xCl [(h, eB v (nI n)), (v, eY cB mm f)] s.heap := hP
  obtain ⟨hTc, ⟨tO, tT, fO, fT, hTo, hTt, hTa, hTb, hTf, hTg⟩, ⟨adK, adV, hTs, hTr0, hTr1, hTr2⟩, ⟨aE, hTe⟩, hTn⟩ := id hT
  have hl := lv_entry ([.ref h, .int (nI w)]) (n := 4) (Nat.le_of_ble_eq_true rfl)
  rw [lg_entry_eq]
  generalize (lg_sl ([.ref h, .int (nI w)]) ++ List.replicate (4 - (lg_sl ([.ref h, .int (nI w)])).length) Slot.unset).toArray = ls at hl ⊢
  have hl : lv_has ls 4 [(0, .ref h), (1, .int (nI w))] := hl
  refine lv_aload_n hx hb dJ5_append_c97b9_0 rfl (lv_at hl 0 rfl) ?_
  refine va_get (D := (dC, dI)) (ci := 1) (v := .int (nI n)) (C := RJ4) (T := TJ4) (N := 4) hx hb hts (by decide +kernel) hown hK hP 0 rfl rfl 3 (by decide) (hts (.fieldLink RJ5 79 "java/lang/AbstractStringBuilder" "count" "I") (by decide +kernel)) (fun _ h9 => h9) rfl dJ5_append_c97b9_1 ?_
  refine lv_istore_n (lv' := [(2, .int (nI n)), (0, .ref h), (1, .int (nI w))]) hx hb dJ5_append_c97b9_4 rfl hl (by decide) rfl (fun ls hl => ?_)
  refine lv_iload_n hx hb dJ5_append_c97b9_5 rfl (lv_at hl 0 rfl) ?_
  refine lv_iload_n hx hb dJ5_append_c97b9_6 rfl (lv_at hl 2 rfl) ?_
  have hPc := xP_nil (D := (dC, dI)) (cl := xCl) (H := s.heap)
  have hDc := xD_nil (A := A)
  have hKc := hK.sub (tys' := [(cB, .byte)]) [0] rfl
  have hFc := va_free (wc := []) hD hS hA [] rfl
  refine va_calli (va_runS (As := [.int (nI w)]) (rest := [.int (nI n)]) ⟨hx, hb, hml, hown, hts⟩ (k_J6_stringSize_0f7a4 l dC dI cB w s.heap.size N (by omega)) (va_cwS 1 hts gJ5_append_c97b9_J6_stringSize_0f7a4 rfl rfl rfl (by decide +kernel) ⟨Nat.le_of_ble_eq_true rfl, Nat.le_of_ble_eq_true rfl⟩) (xT.preS hKc hPc hDc hAN (Nat.le_trans hN hS.1) (hG.kept hS hAN) (hT.kept hS hAN)) rfl rfl hl.1 rfl (lv_room (Nat.le_of_ble_eq_true rfl)) dJ5_append_c97b9_7 ⟨(show _ ≤ 1 by omega), (show _ ≤ 34 by omega)⟩) hS (fun q _ h => hFc q h) hFc (fun r_1 u_2 t H locs ht hvm hw hB hz hk hS => ?_)
  obtain ⟨hP1, hD1⟩ := hB
  rw [ht] at hP1
  obtain ⟨hP, hD⟩ := va_join (wr := [(h, eB v (nI n)), (v, eY cB mm f)]) (w1 := []) hP hD [] [0, 1] rfl rfl (by decide) (by decide) hk hFc hP1 hD1
  have hP : va_P (dC, dI) xCl [(h, eB v (nI n)), (v, eY cB mm f)] H := hP
  have hD : va_D A [(h, eB v (nI n)), (v, eY cB mm f)] := hD
  have hw : r_1 = (nI (sb_dg w)) := hw
  rw [hw]
  refine lv_iadd hx hb dJ5_append_c97b9_10 ?_
  rw [show (((nI n) + (nI (sb_dg w))) : Int32) = (nI (n + sb_dg w)) from nI_add _ _]
  refine lv_istore_n (lv' := [(3, .int (nI (n + sb_dg w))), (2, .int (nI n)), (0, .ref h), (1, .int (nI w))]) hx hb dJ5_append_c97b9_11 rfl hl (by decide) rfl (fun ls hl => ?_)
  refine lv_aload_n hx hb dJ5_append_c97b9_12 rfl (lv_at hl 2 rfl) ?_
  refine lv_iload_n hx hb dJ5_append_c97b9_13 rfl (lv_at hl 0 rfl) ?_
  have hPc := hP.sub (ws' := [(h, eB v (nI n)), (v, eY cB mm f)]) [0, 1] rfl
  have hDc := hD.sub (ws' := [(h, eB v (nI n)), (v, eY cB mm f)]) [0, 1] (by decide) rfl
  have hKc := hK.sub (tys' := [(cB, .byte)]) [0] rfl
  have hFc := va_free (wc := [(h, eB v (nI n)), (v, eY cB mm f)]) hD hS hA [0, 1] rfl
  refine va_callv (va_runU (As := [.int (nI (n + sb_dg w))]) (rest := []) ⟨hx, hb, hml, hown, hts⟩ (kk_J5_ensureCapacityInternal_d00df l dC dI cB h v (nI n) mm f (n + sb_dg w) H.size N hm hf (by omega)) (va_cwU 1 hts gJ5_append_c97b9_J5_ensureCapacityInternal_d00df_u100J4 rfl rfl rfl rfl (by decide +kernel) ⟨Nat.le_of_ble_eq_true rfl, Nat.le_of_ble_eq_true rfl⟩) (xT.preV hKc hPc hDc hAN (Nat.le_trans hN hS.1) (hG.kept hS hAN) (hT.kept hS hAN) (ci := 1) (q0 := 0) rfl rfl) rfl rfl hl.1 rfl (lv_room (Nat.le_of_ble_eq_true rfl)) dJ5_append_c97b9_14 ⟨(show _ ≤ 1 by omega), (show _ ≤ 34 by omega)⟩) hS (fun q _ h => hFc q h) hFc (fun u_7 t H locs ht hvm hw hB hz hk hS => ?_)
  obtain ⟨hP1, hD1⟩ := hB
  rw [ht] at hP1
  obtain ⟨v2_3, m2_4, f2_5⟩ := u_7
  obtain ⟨hP, hD⟩ := va_join (wr := []) (w1 := [(h, eB v2_3 (nI n)), (v2_3, eY cB m2_4 f2_5)]) hP hD [0, 1] [] rfl rfl (by decide) (by decide) hk hFc hP1 hD1
  have hP : va_P (dC, dI) xCl [(h, eB v2_3 (nI n)), (v2_3, eY cB m2_4 f2_5)] H := hP
  have hD : va_D A [(h, eB v2_3 (nI n)), (v2_3, eY cB m2_4 f2_5)] := hD
  obtain ⟨hm_m2_4, hq_m2_4, hf_m2_4, hk_m2_4⟩ : (m2_4 = 16 ∨ m2_4 = 34) ∧ (n + sb_dg w) ≤ m2_4 ∧ sb_Fit f2_5 ∧ ∀ j, j < mm → f2_5 j = f j := hw
  refine lv_aload_n hx hb dJ5_append_c97b9_17 rfl (lv_at hl 2 rfl) ?_
  have hPc := hP.sub (ws' := [(h, eB v2_3 (nI n))]) [0] rfl
  have hDc := hD.sub (ws' := [(h, eB v2_3 (nI n))]) [0] (by decide) rfl
  have hKc := hK.sub (tys' := [(cB, .byte)]) [0] rfl
  have hFc := va_free (wc := [(h, eB v2_3 (nI n))]) hD hS hA [0] rfl
  refine va_calli (va_runU (As := []) (rest := []) ⟨hx, hb, hml, hown, hts⟩ (k_J5_isLatin1_aae02 l dC dI cB h v2_3 (nI n) H.size N) (va_cwU 0 hts gJ5_append_c97b9_J5_isLatin1_aae02_u83J4 rfl rfl rfl rfl (by decide +kernel) ⟨Nat.le_of_ble_eq_true rfl, Nat.le_of_ble_eq_true rfl⟩) (xT.preV hKc hPc hDc hAN (Nat.le_trans hN hS.1) (hG.kept hS hAN) (hT.kept hS hAN) (ci := 1) (q0 := 0) rfl rfl) rfl rfl hl.1 rfl (lv_room (Nat.le_of_ble_eq_true rfl)) dJ5_append_c97b9_18 ⟨(show _ ≤ 1 by omega), (show _ ≤ 34 by omega)⟩) hS (fun q _ h => hFc q h) hFc (fun r_8 u_9 t H locs ht hvm hw hB hz hk hS => ?_)
  obtain ⟨hP1, hD1⟩ := hB
  rw [ht] at hP1
  obtain ⟨hP, hD⟩ := va_join (wr := [(v2_3, eY cB m2_4 f2_5)]) (w1 := [(h, eB v2_3 (nI n))]) hP hD [0] [1] rfl rfl (by decide) (by decide) hk hFc hP1 hD1
  have hP : va_P (dC, dI) xCl [(v2_3, eY cB m2_4 f2_5), (h, eB v2_3 (nI n))] H := hP
  have hD : va_D A [(v2_3, eY cB m2_4 f2_5), (h, eB v2_3 (nI n))] := hD
  have hw : r_8 = 1 := hw
  rw [hw]
  refine lv_if_eq (tgt := 37) hx hb dJ5_append_c97b9_21 (by decide) (fun c9 => absurd c9 (by decide)) (fun _ => ?_)
  refine lv_iload_n hx hb dJ5_append_c97b9_24 rfl (lv_at hl 3 rfl) ?_
  refine lv_iload_n hx hb dJ5_append_c97b9_25 rfl (lv_at hl 0 rfl) ?_
  refine lv_aload_n hx hb dJ5_append_c97b9_26 rfl (lv_at hl 2 rfl) ?_
  refine va_get (D := (dC, dI)) (ci := 1) (v := .ref v2_3) (C := RJ4) (T := TJ4) (N := 4) hx hb hts (by decide +kernel) hown hK hP 1 rfl rfl 0 (by decide) (hts (.fieldLink RJ5 15 "java/lang/AbstractStringBuilder" "value" "[B") (by decide +kernel)) (fun _ h9 => h9) rfl dJ5_append_c97b9_27 ?_
  have hPc := hP.sub (ws' := [(v2_3, eY cB m2_4 f2_5)]) [0] rfl
  have hDc := hD.sub (ws' := [(v2_3, eY cB m2_4 f2_5)]) [0] (by decide) rfl
  have hKc := hK.sub (tys' := [(cB, .byte)]) [0] rfl
  have hFc := va_free (wc := [(v2_3, eY cB m2_4 f2_5)]) hD hS hA [0] rfl
  refine va_calli (va_runS (As := [.int (nI w), .int (nI (n + sb_dg w)), .ref v2_3]) (rest := []) ⟨hx, hb, hml, hown, hts⟩ (kk_J6_getChars_ba4f3 l dC dI cB w (n + sb_dg w) v2_3 m2_4 f2_5 H.size N (by omega) (by omega) (by omega) (by omega) hf_m2_4) (va_cwS 3 hts gJ5_append_c97b9_J6_getChars_ba4f3 rfl rfl rfl (by decide +kernel) ⟨Nat.le_of_ble_eq_true rfl, Nat.le_of_ble_eq_true rfl⟩) (xT.preS hKc hPc hDc hAN (Nat.le_trans hN hS.1) (hG.kept hS hAN) (hT.kept hS hAN)) rfl rfl hl.1 rfl (lv_room (Nat.le_of_ble_eq_true rfl)) dJ5_append_c97b9_30 ⟨(show _ ≤ 1 by omega), (show _ ≤ 34 by omega)⟩) hS (fun q _ h => hFc q h) hFc (fun r_11 u_12 t H locs ht hvm hw hB hz hk hS => ?_)
  obtain ⟨hP1, hD1⟩ := hB
  rw [ht] at hP1
  obtain ⟨f2_10, rfl⟩ : ∃ z, z = u_12 := ⟨_, rfl⟩
  obtain ⟨hP, hD⟩ := va_join (wr := [(h, eB v2_3 (nI n))]) (w1 := [(v2_3, eY cB m2_4 f2_10)]) hP hD [0] [1] rfl rfl (by decide) (by decide) hk hFc hP1 hD1
  have hP : va_P (dC, dI) xCl [(h, eB v2_3 (nI n)), (v2_3, eY cB m2_4 f2_10)] H := hP
  have hD : va_D A [(h, eB v2_3 (nI n)), (v2_3, eY cB m2_4 f2_10)] := hD
  obtain ⟨hf_f2_10, hw_f2_10⟩ : sb_Fit f2_10 ∧ tW f2_5 f2_10 (n + sb_dg w) (sb_dg w) w := hw
  refine lv_pop hx hb dJ5_append_c97b9_33 rfl ?_
  refine lv_goto (tgt := 48) hx hb dJ5_append_c97b9_34 (by decide) ?_
  refine lv_aload_n hx hb dJ5_append_c97b9_48 rfl (lv_at hl 2 rfl) ?_
  refine lv_iload_n hx hb dJ5_append_c97b9_49 rfl (lv_at hl 0 rfl) ?_
  refine va_put (D := (dC, dI)) (ci := 1) (v := .int (nI (n + sb_dg w))) (ty := .int) (C := RJ4) (T := TJ4) (N := 4) hx hb hts (by decide +kernel) tyJ4 tyJ4_ok nmJ4 hown hK hP hD hS 0 rfl rfl 3 (by decide) (hts (.fieldLink RJ5 79 "java/lang/AbstractStringBuilder" "count" "I") (by decide +kernel)) (fun _ h9 => h9) rfl (by decide +kernel) rfl rfl (Nat.le_of_ble_eq_true rfl) dJ5_append_c97b9_50 (fun H locs hP hD hS => ?_)
  have hP : va_P (dC, dI) xCl [(h, eB v2_3 (nI (n + sb_dg w))), (v2_3, eY cB m2_4 f2_10)] H := hP
  have hD : va_D A [(h, eB v2_3 (nI (n + sb_dg w))), (v2_3, eY cB m2_4 f2_10)] := hD
  refine lv_aload_n hx hb dJ5_append_c97b9_53 rfl (lv_at hl 2 rfl) ?_
  have hP := hP.sub (ws' := [(h, eB v2_3 (nI (n + sb_dg w))), (v2_3, eY cB m2_4 f2_10)]) [0, 1] rfl
  have hD := hD.sub (ws' := [(h, eB v2_3 (nI (n + sb_dg w))), (v2_3, eY cB m2_4 f2_10)]) [0, 1] (by decide) rfl
  refine W.widen (k := 1) (n := 34) (by omega) (by omega) ?_
  exact W.aret (v := .ref h) hx hb hr (Or.inl ⟨_, rfl⟩) (Or.inr ⟨_, rfl⟩) (fun t ht hW => ⟨⟨(v2_3, m2_4, f2_10), _, rfl, ⟨hm_m2_4, hq_m2_4, hf_f2_10, (tX_pre hk_m2_4 hnm (tW_X hw_f2_10))⟩, ⟨rfl, by rw [ht]; exact hP, hD⟩⟩, hS.F ht⟩) hS.2.2 dJ5_append_c97b9_54
set_option maxHeartbeats 4000000 in
set_option maxRecDepth 100000 in
theorem kk_J4_append_bf812 (l : Launch) (dC : Nat → ClassId) (dI : Nat → Nat → Nat) (cB : ClassId) (h : Nat) (v : Nat) (n : Nat) (mm : Nat) (f : Nat → Int32) (w : Nat) (sz N : Nat) (hm : mm = 16 ∨ mm = 34) (hf : sb_Fit f) (hnm : n ≤ mm) (hwb : w < 2 ^ 31) (hn : n + sb_dg w ≤ 34) : Met l yJ4_append_bf812 wsJ4_append_bf812 ({ frames := 5, cells := 1, slots := 34, locals := 167 }) (va_Pc [.ref h, .int (nI w)] (xT (dC, dI) xCl [(h, eB v (nI n)), (v, eY cB mm f)] [(cB, .byte)] sz N)) (va_Qr (fun (u : Nat × Nat × (Nat → Int32)) => (u.2.1 = 16 ∨ u.2.1 = 34) ∧ n + sb_dg w ≤ u.2.1 ∧ sb_Fit u.2.2 ∧ tX f u.2.2 n (dL (sb_dg w) w)) (fun (u : Nat × Nat × (Nat → Int32)) a t => a = h ∧ xW (dC, dI) xCl [(h, eB u.1 (nI (n + sb_dg w))), (u.1, eY cB u.2.1 u.2.2)] (va_A [(h, eB v (nI n)), (v, eY cB mm f)] sz) t) (va_A [(h, eB v (nI n)), (v, eY cB mm f)] sz)) 1 34 (va_A [(h, eB v (nI n)), (v, eY cB mm f)] sz) := by
  refine Met.ofW (cc := cJ4_append_bf812) (maxL := 2) (ret := (some (.object "java/lang/StringBuilder"))) (by decide +kernel) rfl ?_
  intro p e s m args below meth c s₁ B hml hv
  obtain ⟨rfl, ⟨hsz, hP, hK, hD0, hN, hG⟩, hT⟩ := hv
  have hx := B.exec
  have hb := B.bytes
  have hr := B.returns
  have hts := atoms_spec (ws := wsJ4_append_bf812) B.pre
  have hown : s.vm.findClass RJ4 = some m.cls := findClass_of_methodNamed B.named
  have hlocks := B.notSynchronized
  subst hsz
  have hAN : ∀ q, va_A [(h, eB v (nI n)), (v, eY cB mm f)] s.heap.size q → N ≤ q := xA_N hD0 hN
  have hD := hD0.self (sz := s.heap.size)
  generalize hAe : va_A [(h, eB v (nI n)), (v, eY cB mm f)] s.heap.size = A at hD hAN ⊢
  have hA : ∀ q : Nat, s.heap.size ≤ q → A q := fun q h => by rw [← hAe]; exact Or.inr h
  have hS : va_S A s.heap s.heap [] := va_S.rf
  have hP : va_P (dC, dI) xCl [(h, eB v (nI n)), (v, eY cB mm f)] s.heap := hP
  obtain ⟨hTc, ⟨tO, tT, fO, fT, hTo, hTt, hTa, hTb, hTf, hTg⟩, ⟨adK, adV, hTs, hTr0, hTr1, hTr2⟩, ⟨aE, hTe⟩, hTn⟩ := id hT
  have hl := lv_entry ([.ref h, .int (nI w)]) (n := 2) (Nat.le_of_ble_eq_true rfl)
  rw [lg_entry_eq]
  generalize (lg_sl ([.ref h, .int (nI w)]) ++ List.replicate (2 - (lg_sl ([.ref h, .int (nI w)])).length) Slot.unset).toArray = ls at hl ⊢
  have hl : lv_has ls 2 [(0, .ref h), (1, .int (nI w))] := hl
  refine lv_aload_n hx hb dJ4_append_bf812_0 rfl (lv_at hl 0 rfl) ?_
  refine lv_iload_n hx hb dJ4_append_bf812_1 rfl (lv_at hl 1 rfl) ?_
  have hPc := hP.sub (ws' := [(h, eB v (nI n)), (v, eY cB mm f)]) [0, 1] rfl
  have hDc := hD.sub (ws' := [(h, eB v (nI n)), (v, eY cB mm f)]) [0, 1] (by decide) rfl
  have hKc := hK.sub (tys' := [(cB, .byte)]) [0] rfl
  have hFc := va_free (wc := [(h, eB v (nI n)), (v, eY cB mm f)]) hD hS hA [0, 1] rfl
  refine va_callr (va_runSU (hK.1 1 _ rfl).2 (As := [.int (nI w)]) (rest := []) ⟨hx, hb, hml, hown, hts⟩ (kk_J5_append_c97b9 l dC dI cB h v n mm f w s.heap.size N hm hf (by omega) (by omega) (by omega)) (va_cwSU 1 hts gJ4_append_bf812_J5_append_c97b9_s53 rfl rfl rfl (by decide +kernel) ⟨Nat.le_of_ble_eq_true rfl, Nat.le_of_ble_eq_true rfl⟩) (xT.preV hKc hPc hDc hAN (Nat.le_trans hN hS.1) (hG.kept hS hAN) (hT.kept hS hAN) (ci := 1) (q0 := 0) rfl rfl) rfl rfl hl.1 rfl (lv_room (Nat.le_of_ble_eq_true rfl)) dJ4_append_bf812_2 ⟨(show _ ≤ 1 by omega), (show _ ≤ 34 by omega)⟩) hS (fun q _ h => hFc q h) hFc (fun u_5 r_4 t H locs ht hvm hw hB hz hk hS => ?_)
  obtain ⟨he_r_4, hP1, hD1⟩ := hB
  rw [ht] at hP1
  obtain ⟨v2_1, m2_2, f2_3⟩ := u_5
  obtain ⟨hP, hD⟩ := va_join (wr := []) (w1 := [(h, eB v2_1 (nI (n + sb_dg w))), (v2_1, eY cB m2_2 f2_3)]) hP hD [0, 1] [] rfl rfl (by decide) (by decide) hk hFc hP1 hD1
  have hP : va_P (dC, dI) xCl [(h, eB v2_1 (nI (n + sb_dg w))), (v2_1, eY cB m2_2 f2_3)] H := hP
  have hD : va_D A [(h, eB v2_1 (nI (n + sb_dg w))), (v2_1, eY cB m2_2 f2_3)] := hD
  obtain ⟨hm_m2_2, hq_m2_2, hf_m2_2, hx_m2_2⟩ : (m2_2 = 16 ∨ m2_2 = 34) ∧ n + sb_dg w ≤ m2_2 ∧ sb_Fit f2_3 ∧ tX f f2_3 n (dL (sb_dg w) w) := hw
  rw [he_r_4]
  refine lv_pop hx hb dJ4_append_bf812_5 rfl ?_
  refine lv_aload_n hx hb dJ4_append_bf812_6 rfl (lv_at hl 0 rfl) ?_
  have hP := hP.sub (ws' := [(h, eB v2_1 (nI (n + sb_dg w))), (v2_1, eY cB m2_2 f2_3)]) [0, 1] rfl
  have hD := hD.sub (ws' := [(h, eB v2_1 (nI (n + sb_dg w))), (v2_1, eY cB m2_2 f2_3)]) [0, 1] (by decide) rfl
  refine W.widen (k := 1) (n := 34) (by omega) (by omega) ?_
  exact W.aret (v := .ref h) hx hb hr (Or.inl ⟨_, rfl⟩) (Or.inr ⟨_, rfl⟩) (fun t ht hW => ⟨⟨(v2_1, m2_2, f2_3), _, rfl, ⟨hm_m2_2, hq_m2_2, hf_m2_2, hx_m2_2⟩, ⟨rfl, by rw [ht]; exact hP, hD⟩⟩, hS.F ht⟩) hS.2.2 dJ4_append_bf812_7
set_option maxHeartbeats 4000000 in
set_option maxRecDepth 100000 in
theorem kk_J13_getChars_11360 (l : Launch) (dC : Nat → ClassId) (dI : Nat → Nat → Nat) (cB : ClassId) (w0 : Nat) (q0 : Nat) (v : Nat) (mm : Nat) (f0 : Nat → Int32) (sz N : Nat) (hwb : w0 < 10000000000000000) (hq : dgL w0 ≤ q0) (hqm : q0 ≤ mm) (hmb : mm ≤ 34) (hf : sb_Fit f0) : Met l yJ13_getChars_11360 wsJ13_getChars_11360 ({ frames := 0, cells := 0, slots := 0, locals := 0 }) (va_Pc [.long (lN w0), .int (nI q0), .ref v] (xT (dC, dI) xCl [(v, eY cB mm f0)] [(cB, .byte)] sz N)) (va_Qi (fun (r : Int32) (u : (Nat → Int32)) => sb_Fit u ∧ tW f0 u q0 (dgL w0) w0) (fun (u : (Nat → Int32)) t => xW (dC, dI) xCl [(v, eY cB mm u)] (va_A [(v, eY cB mm f0)] sz) t) (va_A [(v, eY cB mm f0)] sz)) 0 0 (va_A [(v, eY cB mm f0)] sz) := by
  refine Met.ofW (cc := cJ13_getChars_11360) (maxL := 11) (ret := (some .int)) (by decide +kernel) rfl ?_
  intro p e s m args below meth c s₁ B hml hv
  obtain ⟨rfl, ⟨hsz, hP, hK, hD0, hN, hG⟩, hT⟩ := hv
  have hx := B.exec
  have hb := B.bytes
  have hr := B.returns
  have hts := atoms_spec (ws := wsJ13_getChars_11360) B.pre
  have hown : s.vm.findClass RJ13 = some m.cls := findClass_of_methodNamed B.named
  have hlocks := B.notSynchronized
  subst hsz
  have hAN : ∀ q, va_A [(v, eY cB mm f0)] s.heap.size q → N ≤ q := xA_N hD0 hN
  have hD := hD0.self (sz := s.heap.size)
  generalize hAe : va_A [(v, eY cB mm f0)] s.heap.size = A at hD hAN ⊢
  have hA : ∀ q : Nat, s.heap.size ≤ q → A q := fun q h => by rw [← hAe]; exact Or.inr h
  have hS : va_S A s.heap s.heap [] := va_S.rf
  have hP : va_P (dC, dI) xCl [(v, eY cB mm f0)] s.heap := hP
  obtain ⟨hTc, ⟨tO, tT, fO, fT, hTo, hTt, hTa, hTb, hTf, hTg⟩, ⟨adK, adV, hTs, hTr0, hTr1, hTr2⟩, ⟨aE, hTe⟩, hTn⟩ := id hT
  have hl := lv_entry ([.long (lN w0), .int (nI q0), .ref v]) (n := 11) (Nat.le_of_ble_eq_true rfl)
  rw [lg_entry_eq]
  generalize (lg_sl ([.long (lN w0), .int (nI q0), .ref v]) ++ List.replicate (11 - (lg_sl ([.long (lN w0), .int (nI q0), .ref v])).length) Slot.unset).toArray = ls at hl ⊢
  have hl : lv_has ls 11 [(0, .long (lN w0)), (2, .int (nI q0)), (3, .ref v)] := hl
  refine lv_iload_n hx hb dJ13_getChars_11360_0 rfl (lv_at hl 1 rfl) ?_
  refine lv_istore (lv' := [(7, .int (nI q0)), (0, .long (lN w0)), (2, .int (nI q0)), (3, .ref v)]) hx hb dJ13_getChars_11360_1 hl (by decide) rfl (fun ls hl => ?_)
  refine lv_lload_n hx hb dJ13_getChars_11360_3 rfl (lv_at hl 1 rfl) ?_
  refine lv_lconst (v := 0) hx hb dJ13_getChars_11360_4 (by decide) ?_
  refine xc_ge (tgt := 13) hx hb dJ13_getChars_11360_5 dJ13_getChars_11360_6 (by decide) (fun c9 => ?_) (fun c9 => absurd (jl_nonneg (by omega)) c9)
  refine lv_iconst (v := 0) hx hb dJ13_getChars_11360_13 (by decide) ?_
  refine lv_istore (lv' := [(8, .int 0), (7, .int (nI q0)), (0, .long (lN w0)), (2, .int (nI q0)), (3, .ref v)]) hx hb dJ13_getChars_11360_14 hl (by decide) rfl (fun ls hl => ?_)
  refine lv_iload hx hb dJ13_getChars_11360_16 (lv_at hl 0 rfl) ?_
  refine lv_if_ne (tgt := 24) hx hb dJ13_getChars_11360_18 (by decide) (fun c9 => absurd c9 (by decide)) (fun _ => ?_)
  refine lv_lload_n hx hb dJ13_getChars_11360_21 rfl (lv_at hl 2 rfl) ?_
  refine lv_lneg hx hb dJ13_getChars_11360_22 ?_
  refine lv_lstore_n (lv' := [(0, .long (-(lN w0))), (8, .int 0), (7, .int (nI q0)), (2, .int (nI q0)), (3, .ref v)]) hx hb dJ13_getChars_11360_23 rfl hl (by decide) rfl (fun ls hl => ?_)
  have loop_a : ∀ (k w q : Nat) (f : Nat → Int32) (H : Heap) (locs : List Loc) (ls : Array Slot), w < k → w < 10000000000000000 → dgL w ≤ q → q ≤ mm → sb_Fit f → (∀ g, tW f g q (dgL w) w → tW f0 g q0 (dgL w0) w0) → va_P (dC, dI) xCl [(v, eY cB mm f)] H → va_D A [(v, eY cB mm f)] → va_S A s.heap H locs → lv_has ls 11 [(0, .long (-(lN w))), (3, .ref v), (7, .int (nI q)), (8, .int 0)] → W p l e (headSpec wsJ13_getChars_11360 ({ frames := 0, cells := 0, slots := 0, locals := 0 } : Room)).room s m ([.long (lN w0), .int (nI q0), .ref v]).toArray below meth c H locs 0 0 (MQ below (va_Qi (fun (r : Int32) (u : (Nat → Int32)) => sb_Fit u ∧ tW f0 u q0 (dgL w0) w0) (fun (u : (Nat → Int32)) t => xW (dC, dI) xCl [(v, eY cB mm u)] A t) A) ([.long (lN w0), .int (nI q0), .ref v]).toArray s 0 0 A) (F0 m 24 ls []) := by
    intro k
    induction k with
    | zero => intro w q f H locs ls hk; exact absurd hk (Nat.not_lt_zero _)
    | succ k ih_a =>
      intro w q f H locs ls hk hwb hq hqm hf hz hP hD hS hl
      have hd0 := dgL_pos w
      have hd1 := dgL_pos (w / 100)
      refine lv_lload_n hx hb dJ13_getChars_11360_24 rfl (lv_at hl 0 rfl) ?_
      refine lv_ldc2 (own := RJ13) (index := 129) (v := (-2147483648)) hx hb hown (hts (.constantLong RJ13 129 (-2147483648)) (by decide +kernel)) dJ13_getChars_11360_25 ?_
      refine xc_gt (tgt := 82) hx hb dJ13_getChars_11360_28 dJ13_getChars_11360_29 (by decide) (fun c_1 => ?_) (fun c_1 => ?_)
      · skip
        have z_c_1 : w < 2147483648 := (jl_nlt (a := 2147483648) (b := w) (by decide) (by omega)).mp c_1
        refine lv_lload_n hx hb dJ13_getChars_11360_82 rfl (lv_at hl 0 rfl) ?_
        refine lv_l2i (v := ((-(lN w)).toInt32)) hx hb dJ13_getChars_11360_83 rfl ?_
        rw [show (((-(lN w)).toInt32) : Int32) = (-(nI w)) from jl_neg32 w]
        refine lv_istore (lv' := [(10, .int (-(nI w))), (0, .long (-(lN w))), (3, .ref v), (7, .int (nI q)), (8, .int 0)]) hx hb dJ13_getChars_11360_84 hl (by decide) rfl (fun ls hl => ?_)
        have loop_b : ∀ (k w q : Nat) (f : Nat → Int32) (H : Heap) (locs : List Loc) (ls : Array Slot), w < k → w < 2 ^ 31 → dgL w ≤ q → q ≤ mm → sb_Fit f → (∀ g, tW f g q (dgL w) w → tW f0 g q0 (dgL w0) w0) → va_P (dC, dI) xCl [(v, eY cB mm f)] H → va_D A [(v, eY cB mm f)] → va_S A s.heap H locs → lv_has ls 11 [(10, .int (-(nI w))), (3, .ref v), (7, .int (nI q)), (8, .int 0)] → W p l e (headSpec wsJ13_getChars_11360 ({ frames := 0, cells := 0, slots := 0, locals := 0 } : Room)).room s m ([.long (lN w0), .int (nI q0), .ref v]).toArray below meth c H locs 0 0 (MQ below (va_Qi (fun (r : Int32) (u : (Nat → Int32)) => sb_Fit u ∧ tW f0 u q0 (dgL w0) w0) (fun (u : (Nat → Int32)) t => xW (dC, dI) xCl [(v, eY cB mm u)] A t) A) ([.long (lN w0), .int (nI q0), .ref v]).toArray s 0 0 A) (F0 m 86 ls []) := by
          intro k
          induction k with
          | zero => intro w q f H locs ls hk; exact absurd hk (Nat.not_lt_zero _)
          | succ k ih_b =>
            intro w q f H locs ls hk hwb hq hqm hf hz hP hD hS hl
            have hd0 := dgL_pos w
            have hd1 := dgL_pos (w / 100)
            refine lv_iload hx hb dJ13_getChars_11360_86 (lv_at hl 0 rfl) ?_
            refine lv_bipush (v := (-100)) hx hb dJ13_getChars_11360_88 (by decide) ?_
            refine lv_icmp_gt (tgt := 143) hx hb dJ13_getChars_11360_90 (by decide) (fun c_2 => ?_) (fun c_2 => ?_)
            · skip
              have z_c_2 : w < 100 := (sb_nlt (a := 100) (b := w) (by decide) (by omega)).mp c_2
              refine lv_aload_n hx hb dJ13_getChars_11360_143 rfl (lv_at hl 1 rfl) ?_
              refine lv_iinc (v := (nI (q - 1))) (lv' := [(7, .int (nI (q - 1))), (10, .int (-(nI w))), (3, .ref v), (8, .int 0)]) hx hb dJ13_getChars_11360_144 hl (k := 2) rfl (sb_m1 (by omega)) (by decide) rfl (fun ls hl => ?_)
              refine lv_iload hx hb dJ13_getChars_11360_147 (lv_at hl 0 rfl) ?_
              refine va_gets hx hb (va_Z.narrow hTo hAN) hS hown (hts (.fieldLink RJ13 133 "java/lang/Integer" "DigitOnes" "[B") (by decide +kernel)) (fun _ h9 => h9) dJ13_getChars_11360_149 ?_
              refine lv_iload hx hb dJ13_getChars_11360_152 (lv_at hl 1 rfl) ?_
              refine lv_ineg hx hb dJ13_getChars_11360_154 ?_
              rw [show ((-(-(nI w))) : Int32) = (nI w) from Int32.neg_neg]
              refine va_tb hx hb (va_T.narrow hTa hAN) hS (vp_in_nI (n := w) (N := 100) (by omega) (by decide)) rfl dJ13_getChars_11360_155 ?_
              refine va_bast hx hb hK hP hD hS 0 0 rfl rfl (vp_in_nI (n := (q - 1)) (N := mm) (by omega) (by omega)) dJ13_getChars_11360_156 (fun H locs hP hD hS => ?_)
              have hP : va_P (dC, dI) xCl [(v, eY cB mm (upd f (nI (q - 1)).toNatClampNeg (vp_nar .byte (fO (nI w).toNatClampNeg))))] H := hP
              have hD : va_D A [(v, eY cB mm (upd f (nI (q - 1)).toNatClampNeg (vp_nar .byte (fO (nI w).toNatClampNeg))))] := hD
              obtain ⟨f_3, hf_3⟩ : ∃ z : Nat → Int32, z = (upd f (nI (q - 1)).toNatClampNeg (vp_nar .byte (fO (nI w).toNatClampNeg))) := ⟨_, rfl⟩
              have hf_4 : sb_Fit f_3 := by rw [hf_3]; exact sb_fitU hf (sb_nar _)
              rw [← hf_3] at hP hD
              have hP : va_P (dC, dI) xCl [(v, eY cB mm f_3)] H := hP
              have hD : va_D A [(v, eY cB mm f_3)] := hD
              refine lv_iload hx hb dJ13_getChars_11360_157 (lv_at hl 1 rfl) ?_
              refine lv_bipush (v := (-9)) hx hb dJ13_getChars_11360_159 (by decide) ?_
              refine lv_icmp_ge (tgt := 178) hx hb dJ13_getChars_11360_161 (by decide) (fun c_5 => ?_) (fun c_5 => ?_)
              · skip
                have z_c_5 : w ≤ 9 := (sb_nle (a := 9) (b := w) (by decide) (by omega)).mp c_5
                refine lv_iload hx hb dJ13_getChars_11360_178 (lv_at hl 3 rfl) ?_
                refine lv_if_eq (tgt := 192) hx hb dJ13_getChars_11360_180 (by decide) (fun _ => ?_) (fun c9 => absurd c9 (by decide))
                refine lv_iload hx hb dJ13_getChars_11360_192 (lv_at hl 0 rfl) ?_
                have hz_6 : tW f f_3 q (dgL w) w := by
                  rw [show dgL w = 1 from by rw [dgL, if_pos (show w < 1000000000 by omega), sb_dg, if_pos (show w < 10 by omega)], hf_3, nI_clamp (by omega), nI_clamp (by omega)]
                  exact tW_one (by omega) (by omega) (hTg.2 w (by omega)).1
                have hP := hP.sub (ws' := [(v, eY cB mm f_3)]) [0] rfl
                have hD := hD.sub (ws' := [(v, eY cB mm f_3)]) [0] (by decide) rfl
                refine W.widen (k := 0) (n := 0) (by omega) (by omega) ?_
                exact W.iret (v := (nI (q - 1))) hx hb hr (fun t ht hW => ⟨⟨_, f_3, rfl, ⟨hf_4, hz _ hz_6⟩, by rw [ht]; exact hP, hD⟩, hS.F ht⟩) hS.2.2 dJ13_getChars_11360_194
              · skip
                have z_c_5 : ¬ w ≤ 9 := fun z => c_5 ((sb_nle (a := 9) (b := w) (by decide) (by omega)).mpr z)
                have hd3 := dgL_10 (w := w) (by omega)
                refine lv_aload_n hx hb dJ13_getChars_11360_164 rfl (lv_at hl 2 rfl) ?_
                refine lv_iinc (v := (nI ((q - 1) - 1))) (lv' := [(7, .int (nI ((q - 1) - 1))), (10, .int (-(nI w))), (3, .ref v), (8, .int 0)]) hx hb dJ13_getChars_11360_165 hl (k := 0) rfl (sb_m1 (by omega)) (by decide) rfl (fun ls hl => ?_)
                refine lv_iload hx hb dJ13_getChars_11360_168 (lv_at hl 0 rfl) ?_
                refine va_gets hx hb (va_Z.narrow hTt hAN) hS hown (hts (.fieldLink RJ13 137 "java/lang/Integer" "DigitTens" "[B") (by decide +kernel)) (fun _ h9 => h9) dJ13_getChars_11360_170 ?_
                refine lv_iload hx hb dJ13_getChars_11360_173 (lv_at hl 1 rfl) ?_
                refine lv_ineg hx hb dJ13_getChars_11360_175 ?_
                rw [show ((-(-(nI w))) : Int32) = (nI w) from Int32.neg_neg]
                refine va_tb hx hb (va_T.narrow hTb hAN) hS (vp_in_nI (n := w) (N := 100) (by omega) (by decide)) rfl dJ13_getChars_11360_176 ?_
                refine va_bast hx hb hK hP hD hS 0 0 rfl rfl (vp_in_nI (n := ((q - 1) - 1)) (N := mm) (by omega) (by omega)) dJ13_getChars_11360_177 (fun H locs hP hD hS => ?_)
                have hP : va_P (dC, dI) xCl [(v, eY cB mm (upd f_3 (nI ((q - 1) - 1)).toNatClampNeg (vp_nar .byte (fT (nI w).toNatClampNeg))))] H := hP
                have hD : va_D A [(v, eY cB mm (upd f_3 (nI ((q - 1) - 1)).toNatClampNeg (vp_nar .byte (fT (nI w).toNatClampNeg))))] := hD
                obtain ⟨f_7, hf_7⟩ : ∃ z : Nat → Int32, z = (upd f_3 (nI ((q - 1) - 1)).toNatClampNeg (vp_nar .byte (fT (nI w).toNatClampNeg))) := ⟨_, rfl⟩
                have hf_8 : sb_Fit f_7 := by rw [hf_7]; exact sb_fitU hf_4 (sb_nar _)
                rw [← hf_7] at hP hD
                have hP : va_P (dC, dI) xCl [(v, eY cB mm f_7)] H := hP
                have hD : va_D A [(v, eY cB mm f_7)] := hD
                refine lv_iload hx hb dJ13_getChars_11360_178 (lv_at hl 3 rfl) ?_
                refine lv_if_eq (tgt := 192) hx hb dJ13_getChars_11360_180 (by decide) (fun _ => ?_) (fun c9 => absurd c9 (by decide))
                refine lv_iload hx hb dJ13_getChars_11360_192 (lv_at hl 0 rfl) ?_
                have hz_9 : tW f f_7 q (dgL w) w := by
                  rw [show dgL w = 2 from by rw [dgL, if_pos (show w < 1000000000 by omega), sb_dg, if_neg (show ¬ w < 10 by omega), if_pos (show w < 100 by omega)], hf_7, hf_3, nI_clamp (by omega), nI_clamp (by omega), nI_clamp (by omega)]
                  exact tW_two (by omega) (by omega) (hTg.2 w (by omega)).1 (hTg.2 w (by omega)).2
                have hP := hP.sub (ws' := [(v, eY cB mm f_7)]) [0] rfl
                have hD := hD.sub (ws' := [(v, eY cB mm f_7)]) [0] (by decide) rfl
                refine W.widen (k := 0) (n := 0) (by omega) (by omega) ?_
                exact W.iret (v := (nI ((q - 1) - 1))) hx hb hr (fun t ht hW => ⟨⟨_, f_7, rfl, ⟨hf_8, hz _ hz_9⟩, by rw [ht]; exact hP, hD⟩, hS.F ht⟩) hS.2.2 dJ13_getChars_11360_194
            · skip
              have z_c_2 : ¬ w < 100 := fun z => c_2 ((sb_nlt (a := 100) (b := w) (by decide) (by omega)).mpr z)
              have hd2 := dgL_100 (w := w) (by omega) (by omega)
              refine lv_iload hx hb dJ13_getChars_11360_93 (lv_at hl 0 rfl) ?_
              refine lv_bipush (v := 100) hx hb dJ13_getChars_11360_95 (by decide) ?_
              refine lv_idiv hx hb dJ13_getChars_11360_97 (by decide) ?_
              rw [show (((-(nI w)) / 100) : Int32) = (-(nI (w / 100))) from sb_ndiv (by omega)]
              refine lv_istore (lv' := [(9, .int (-(nI (w / 100)))), (10, .int (-(nI w))), (3, .ref v), (7, .int (nI q)), (8, .int 0)]) hx hb dJ13_getChars_11360_98 hl (by decide) rfl (fun ls hl => ?_)
              refine lv_iload hx hb dJ13_getChars_11360_100 (lv_at hl 0 rfl) ?_
              refine lv_bipush (v := 100) hx hb dJ13_getChars_11360_102 (by decide) ?_
              refine lv_imul hx hb dJ13_getChars_11360_104 ?_
              refine lv_iload hx hb dJ13_getChars_11360_105 (lv_at hl 1 rfl) ?_
              refine lv_isub hx hb dJ13_getChars_11360_107 ?_
              rw [show ((((-(nI (w / 100))) * 100) - (-(nI w))) : Int32) = (nI (w % 100)) from sb_nrem (by omega)]
              refine lv_istore (lv' := [(6, .int (nI (w % 100))), (9, .int (-(nI (w / 100)))), (10, .int (-(nI w))), (3, .ref v), (7, .int (nI q)), (8, .int 0)]) hx hb dJ13_getChars_11360_108 hl (by decide) rfl (fun ls hl => ?_)
              refine lv_iload hx hb dJ13_getChars_11360_110 (lv_at hl 1 rfl) ?_
              refine lv_istore (lv' := [(10, .int (-(nI (w / 100)))), (6, .int (nI (w % 100))), (9, .int (-(nI (w / 100)))), (3, .ref v), (7, .int (nI q)), (8, .int 0)]) hx hb dJ13_getChars_11360_112 hl (by decide) rfl (fun ls hl => ?_)
              refine lv_aload_n hx hb dJ13_getChars_11360_114 rfl (lv_at hl 3 rfl) ?_
              refine lv_iinc (v := (nI (q - 1))) (lv' := [(7, .int (nI (q - 1))), (10, .int (-(nI (w / 100)))), (6, .int (nI (w % 100))), (9, .int (-(nI (w / 100)))), (3, .ref v), (8, .int 0)]) hx hb dJ13_getChars_11360_115 hl (k := 4) rfl (sb_m1 (by omega)) (by decide) rfl (fun ls hl => ?_)
              refine lv_iload hx hb dJ13_getChars_11360_118 (lv_at hl 0 rfl) ?_
              refine va_gets hx hb (va_Z.narrow hTo hAN) hS hown (hts (.fieldLink RJ13 133 "java/lang/Integer" "DigitOnes" "[B") (by decide +kernel)) (fun _ h9 => h9) dJ13_getChars_11360_120 ?_
              refine lv_iload hx hb dJ13_getChars_11360_123 (lv_at hl 2 rfl) ?_
              refine va_tb hx hb (va_T.narrow hTa hAN) hS (vp_in_nI (n := (w % 100)) (N := 100) (by omega) (by decide)) rfl dJ13_getChars_11360_125 ?_
              refine va_bast hx hb hK hP hD hS 0 0 rfl rfl (vp_in_nI (n := (q - 1)) (N := mm) (by omega) (by omega)) dJ13_getChars_11360_126 (fun H locs hP hD hS => ?_)
              have hP : va_P (dC, dI) xCl [(v, eY cB mm (upd f (nI (q - 1)).toNatClampNeg (vp_nar .byte (fO (nI (w % 100)).toNatClampNeg))))] H := hP
              have hD : va_D A [(v, eY cB mm (upd f (nI (q - 1)).toNatClampNeg (vp_nar .byte (fO (nI (w % 100)).toNatClampNeg))))] := hD
              obtain ⟨f_10, hf_10⟩ : ∃ z : Nat → Int32, z = (upd f (nI (q - 1)).toNatClampNeg (vp_nar .byte (fO (nI (w % 100)).toNatClampNeg))) := ⟨_, rfl⟩
              have hf_11 : sb_Fit f_10 := by rw [hf_10]; exact sb_fitU hf (sb_nar _)
              rw [← hf_10] at hP hD
              have hP : va_P (dC, dI) xCl [(v, eY cB mm f_10)] H := hP
              have hD : va_D A [(v, eY cB mm f_10)] := hD
              refine lv_aload_n hx hb dJ13_getChars_11360_127 rfl (lv_at hl 4 rfl) ?_
              refine lv_iinc (v := (nI ((q - 1) - 1))) (lv' := [(7, .int (nI ((q - 1) - 1))), (10, .int (-(nI (w / 100)))), (6, .int (nI (w % 100))), (9, .int (-(nI (w / 100)))), (3, .ref v), (8, .int 0)]) hx hb dJ13_getChars_11360_128 hl (k := 0) rfl (sb_m1 (by omega)) (by decide) rfl (fun ls hl => ?_)
              refine lv_iload hx hb dJ13_getChars_11360_131 (lv_at hl 0 rfl) ?_
              refine va_gets hx hb (va_Z.narrow hTt hAN) hS hown (hts (.fieldLink RJ13 137 "java/lang/Integer" "DigitTens" "[B") (by decide +kernel)) (fun _ h9 => h9) dJ13_getChars_11360_133 ?_
              refine lv_iload hx hb dJ13_getChars_11360_136 (lv_at hl 2 rfl) ?_
              refine va_tb hx hb (va_T.narrow hTb hAN) hS (vp_in_nI (n := (w % 100)) (N := 100) (by omega) (by decide)) rfl dJ13_getChars_11360_138 ?_
              refine va_bast hx hb hK hP hD hS 0 0 rfl rfl (vp_in_nI (n := ((q - 1) - 1)) (N := mm) (by omega) (by omega)) dJ13_getChars_11360_139 (fun H locs hP hD hS => ?_)
              have hP : va_P (dC, dI) xCl [(v, eY cB mm (upd f_10 (nI ((q - 1) - 1)).toNatClampNeg (vp_nar .byte (fT (nI (w % 100)).toNatClampNeg))))] H := hP
              have hD : va_D A [(v, eY cB mm (upd f_10 (nI ((q - 1) - 1)).toNatClampNeg (vp_nar .byte (fT (nI (w % 100)).toNatClampNeg))))] := hD
              obtain ⟨f_12, hf_12⟩ : ∃ z : Nat → Int32, z = (upd f_10 (nI ((q - 1) - 1)).toNatClampNeg (vp_nar .byte (fT (nI (w % 100)).toNatClampNeg))) := ⟨_, rfl⟩
              have hf_13 : sb_Fit f_12 := by rw [hf_12]; exact sb_fitU hf_11 (sb_nar _)
              rw [← hf_12] at hP hD
              have hP : va_P (dC, dI) xCl [(v, eY cB mm f_12)] H := hP
              have hD : va_D A [(v, eY cB mm f_12)] := hD
              refine lv_goto (tgt := 86) hx hb dJ13_getChars_11360_140 (by decide) ?_
              have hs_14 : ∀ g, tW f_12 g (q - 1 - 1) (dgL (w / 100)) (w / 100) → tW f0 g q0 (dgL w0) w0 := by
                intro g h9
                rw [hf_12, hf_10, nI_clamp (by omega), nI_clamp (by omega), nI_clamp (by omega)] at h9
                refine hz g ?_
                rw [hd2]
                exact tW_step (by omega) (tD_1 hTg.2 w) (tD_2 hTg.2 w) h9
              exact ih_b (w / 100) ((q - 1) - 1) f_12 _ _ _ (by omega) (by omega) (by omega) (by omega) hf_13 hs_14 hP hD hS (lv_sub hl [1, 4, 0, 5] rfl)
        exact loop_b (w + 1) w q f _ _ _ (by omega) (by omega) (by omega) (by omega) hf hz hP hD hS (lv_sub hl [0, 2, 3, 4] rfl)
      · skip
        have z_c_1 : ¬ w < 2147483648 := fun z => c_1 ((jl_nlt (a := 2147483648) (b := w) (by decide) (by omega)).mpr z)
        have hd2 := dgL_100 (w := w) (by omega) (by omega)
        refine lv_lload_n hx hb dJ13_getChars_11360_32 rfl (lv_at hl 0 rfl) ?_
        refine lv_ldc2 (own := RJ13) (index := 131) (v := 100) hx hb hown (hts (.constantLong RJ13 131 (100)) (by decide +kernel)) dJ13_getChars_11360_33 ?_
        refine lv_ldiv hx hb dJ13_getChars_11360_36 (by decide) ?_
        rw [show (((-(lN w)) / 100) : Int64) = (-(lN (w / 100))) from jl_ndiv (by omega)]
        refine lv_lstore (lv' := [(4, .long (-(lN (w / 100)))), (0, .long (-(lN w))), (3, .ref v), (7, .int (nI q)), (8, .int 0)]) hx hb dJ13_getChars_11360_37 hl (by decide) rfl (fun ls hl => ?_)
        refine lv_lload hx hb dJ13_getChars_11360_39 (lv_at hl 0 rfl) ?_
        refine lv_ldc2 (own := RJ13) (index := 131) (v := 100) hx hb hown (hts (.constantLong RJ13 131 (100)) (by decide +kernel)) dJ13_getChars_11360_41 ?_
        refine lv_lmul hx hb dJ13_getChars_11360_44 ?_
        refine lv_lload_n hx hb dJ13_getChars_11360_45 rfl (lv_at hl 1 rfl) ?_
        refine lv_lsub hx hb dJ13_getChars_11360_46 ?_
        refine lv_l2i (v := ((((-(lN (w / 100))) * 100) - (-(lN w))).toInt32)) hx hb dJ13_getChars_11360_47 rfl ?_
        rw [show (((((-(lN (w / 100))) * 100) - (-(lN w))).toInt32) : Int32) = (nI (w % 100)) from jl_nrem (by omega)]
        refine lv_istore (lv' := [(6, .int (nI (w % 100))), (4, .long (-(lN (w / 100)))), (0, .long (-(lN w))), (3, .ref v), (7, .int (nI q)), (8, .int 0)]) hx hb dJ13_getChars_11360_48 hl (by decide) rfl (fun ls hl => ?_)
        refine lv_lload hx hb dJ13_getChars_11360_50 (lv_at hl 1 rfl) ?_
        refine lv_lstore_n (lv' := [(0, .long (-(lN (w / 100)))), (6, .int (nI (w % 100))), (4, .long (-(lN (w / 100)))), (3, .ref v), (7, .int (nI q)), (8, .int 0)]) hx hb dJ13_getChars_11360_52 rfl hl (by decide) rfl (fun ls hl => ?_)
        refine lv_aload_n hx hb dJ13_getChars_11360_53 rfl (lv_at hl 3 rfl) ?_
        refine lv_iinc (v := (nI (q - 1))) (lv' := [(7, .int (nI (q - 1))), (0, .long (-(lN (w / 100)))), (6, .int (nI (w % 100))), (4, .long (-(lN (w / 100)))), (3, .ref v), (8, .int 0)]) hx hb dJ13_getChars_11360_54 hl (k := 4) rfl (sb_m1 (by omega)) (by decide) rfl (fun ls hl => ?_)
        refine lv_iload hx hb dJ13_getChars_11360_57 (lv_at hl 0 rfl) ?_
        refine va_gets hx hb (va_Z.narrow hTo hAN) hS hown (hts (.fieldLink RJ13 133 "java/lang/Integer" "DigitOnes" "[B") (by decide +kernel)) (fun _ h9 => h9) dJ13_getChars_11360_59 ?_
        refine lv_iload hx hb dJ13_getChars_11360_62 (lv_at hl 2 rfl) ?_
        refine va_tb hx hb (va_T.narrow hTa hAN) hS (vp_in_nI (n := (w % 100)) (N := 100) (by omega) (by decide)) rfl dJ13_getChars_11360_64 ?_
        refine va_bast hx hb hK hP hD hS 0 0 rfl rfl (vp_in_nI (n := (q - 1)) (N := mm) (by omega) (by omega)) dJ13_getChars_11360_65 (fun H locs hP hD hS => ?_)
        have hP : va_P (dC, dI) xCl [(v, eY cB mm (upd f (nI (q - 1)).toNatClampNeg (vp_nar .byte (fO (nI (w % 100)).toNatClampNeg))))] H := hP
        have hD : va_D A [(v, eY cB mm (upd f (nI (q - 1)).toNatClampNeg (vp_nar .byte (fO (nI (w % 100)).toNatClampNeg))))] := hD
        obtain ⟨f_15, hf_15⟩ : ∃ z : Nat → Int32, z = (upd f (nI (q - 1)).toNatClampNeg (vp_nar .byte (fO (nI (w % 100)).toNatClampNeg))) := ⟨_, rfl⟩
        have hf_16 : sb_Fit f_15 := by rw [hf_15]; exact sb_fitU hf (sb_nar _)
        rw [← hf_15] at hP hD
        have hP : va_P (dC, dI) xCl [(v, eY cB mm f_15)] H := hP
        have hD : va_D A [(v, eY cB mm f_15)] := hD
        refine lv_aload_n hx hb dJ13_getChars_11360_66 rfl (lv_at hl 4 rfl) ?_
        refine lv_iinc (v := (nI ((q - 1) - 1))) (lv' := [(7, .int (nI ((q - 1) - 1))), (0, .long (-(lN (w / 100)))), (6, .int (nI (w % 100))), (4, .long (-(lN (w / 100)))), (3, .ref v), (8, .int 0)]) hx hb dJ13_getChars_11360_67 hl (k := 0) rfl (sb_m1 (by omega)) (by decide) rfl (fun ls hl => ?_)
        refine lv_iload hx hb dJ13_getChars_11360_70 (lv_at hl 0 rfl) ?_
        refine va_gets hx hb (va_Z.narrow hTt hAN) hS hown (hts (.fieldLink RJ13 137 "java/lang/Integer" "DigitTens" "[B") (by decide +kernel)) (fun _ h9 => h9) dJ13_getChars_11360_72 ?_
        refine lv_iload hx hb dJ13_getChars_11360_75 (lv_at hl 2 rfl) ?_
        refine va_tb hx hb (va_T.narrow hTb hAN) hS (vp_in_nI (n := (w % 100)) (N := 100) (by omega) (by decide)) rfl dJ13_getChars_11360_77 ?_
        refine va_bast hx hb hK hP hD hS 0 0 rfl rfl (vp_in_nI (n := ((q - 1) - 1)) (N := mm) (by omega) (by omega)) dJ13_getChars_11360_78 (fun H locs hP hD hS => ?_)
        have hP : va_P (dC, dI) xCl [(v, eY cB mm (upd f_15 (nI ((q - 1) - 1)).toNatClampNeg (vp_nar .byte (fT (nI (w % 100)).toNatClampNeg))))] H := hP
        have hD : va_D A [(v, eY cB mm (upd f_15 (nI ((q - 1) - 1)).toNatClampNeg (vp_nar .byte (fT (nI (w % 100)).toNatClampNeg))))] := hD
        obtain ⟨f_17, hf_17⟩ : ∃ z : Nat → Int32, z = (upd f_15 (nI ((q - 1) - 1)).toNatClampNeg (vp_nar .byte (fT (nI (w % 100)).toNatClampNeg))) := ⟨_, rfl⟩
        have hf_18 : sb_Fit f_17 := by rw [hf_17]; exact sb_fitU hf_16 (sb_nar _)
        rw [← hf_17] at hP hD
        have hP : va_P (dC, dI) xCl [(v, eY cB mm f_17)] H := hP
        have hD : va_D A [(v, eY cB mm f_17)] := hD
        refine lv_goto (tgt := 24) hx hb dJ13_getChars_11360_79 (by decide) ?_
        have hs_19 : ∀ g, tW f_17 g (q - 1 - 1) (dgL (w / 100)) (w / 100) → tW f0 g q0 (dgL w0) w0 := by
          intro g h9
          rw [hf_17, hf_15, nI_clamp (by omega), nI_clamp (by omega), nI_clamp (by omega)] at h9
          refine hz g ?_
          rw [hd2]
          exact tW_step (by omega) (tD_1 hTg.2 w) (tD_2 hTg.2 w) h9
        exact ih_a (w / 100) ((q - 1) - 1) f_17 _ _ _ (by omega) (by omega) (by omega) (by omega) hf_18 hs_19 hP hD hS (lv_sub hl [1, 4, 0, 5] rfl)
  exact loop_a (w0 + 1) w0 q0 f0 _ _ _ (by omega) (by omega) (by omega) (by omega) hf (fun g h => h) hP hD hS (lv_sub hl [0, 4, 2, 1] rfl)
set_option maxHeartbeats 4000000 in
set_option maxRecDepth 100000 in
theorem kk_J5_append_66267 (l : Launch) (dC : Nat → ClassId) (dI : Nat → Nat → Nat) (cB : ClassId) (h : Nat) (v : Nat) (n : Nat) (mm : Nat) (f : Nat → Int32) (w : Nat) (sz N : Nat) (hm : mm = 16 ∨ mm = 34) (hf : sb_Fit f) (hnm : n ≤ mm) (hwb : w < 10000000000000000) (hn : n + dgL w ≤ 34) : Met l yJ5_append_66267 wsJ5_append_66267 ({ frames := 4, cells := 1, slots := 34, locals := 144 }) (va_Pc [.ref h, .long (lN w)] (xT (dC, dI) xCl [(h, eB v (nI n)), (v, eY cB mm f)] [(cB, .byte)] sz N)) (va_Qr (fun (u : Nat × Nat × (Nat → Int32)) => (u.2.1 = 16 ∨ u.2.1 = 34) ∧ n + dgL w ≤ u.2.1 ∧ sb_Fit u.2.2 ∧ tX f u.2.2 n (dL (dgL w) w)) (fun (u : Nat × Nat × (Nat → Int32)) a t => a = h ∧ xW (dC, dI) xCl [(h, eB u.1 (nI (n + dgL w))), (u.1, eY cB u.2.1 u.2.2)] (va_A [(h, eB v (nI n)), (v, eY cB mm f)] sz) t) (va_A [(h, eB v (nI n)), (v, eY cB mm f)] sz)) 1 34 (va_A [(h, eB v (nI n)), (v, eY cB mm f)] sz) := by
  refine Met.ofW (cc := cJ5_append_66267) (maxL := 5) (ret := (some (.object "java/lang/AbstractStringBuilder"))) (by decide +kernel) rfl ?_
  intro p e s m args below meth c s₁ B hml hv
  obtain ⟨rfl, ⟨hsz, hP, hK, hD0, hN, hG⟩, hT⟩ := hv
  have hx := B.exec
  have hb := B.bytes
  have hr := B.returns
  have hts := atoms_spec (ws := wsJ5_append_66267) B.pre
  have hown : s.vm.findClass RJ5 = some m.cls := findClass_of_methodNamed B.named
  have hlocks := B.notSynchronized
  subst hsz
  have hAN : ∀ q, va_A [(h, eB v (nI n)), (v, eY cB mm f)] s.heap.size q → N ≤ q := xA_N hD0 hN
  have hD := hD0.self (sz := s.heap.size)
  generalize hAe : va_A [(h, eB v (nI n)), (v, eY cB mm f)] s.heap.size = A at hD hAN ⊢
  have hA : ∀ q : Nat, s.heap.size ≤ q → A q := fun q h => by rw [← hAe]; exact Or.inr h
  have hS : va_S A s.heap s.heap [] := va_S.rf
  have hP : va_P (dC, dI) xCl [(h, eB v (nI n)), (v, eY cB mm f)] s.heap := hP
  obtain ⟨hTc, ⟨tO, tT, fO, fT, hTo, hTt, hTa, hTb, hTf, hTg⟩, ⟨adK, adV, hTs, hTr0, hTr1, hTr2⟩, ⟨aE, hTe⟩, hTn⟩ := id hT
  have hl := lv_entry ([.ref h, .long (lN w)]) (n := 5) (Nat.le_of_ble_eq_true rfl)
  rw [lg_entry_eq]
  generalize (lg_sl ([.ref h, .long (lN w)]) ++ List.replicate (5 - (lg_sl ([.ref h, .long (lN w)])).length) Slot.unset).toArray = ls at hl ⊢
  have hl : lv_has ls 5 [(0, .ref h), (1, .long (lN w))] := hl
  refine lv_aload_n hx hb dJ5_append_66267_0 rfl (lv_at hl 0 rfl) ?_
  refine va_get (D := (dC, dI)) (ci := 1) (v := .int (nI n)) (C := RJ4) (T := TJ4) (N := 4) hx hb hts (by decide +kernel) hown hK hP 0 rfl rfl 3 (by decide) (hts (.fieldLink RJ5 79 "java/lang/AbstractStringBuilder" "count" "I") (by decide +kernel)) (fun _ h9 => h9) rfl dJ5_append_66267_1 ?_
  refine lv_istore_n (lv' := [(3, .int (nI n)), (0, .ref h), (1, .long (lN w))]) hx hb dJ5_append_66267_4 rfl hl (by decide) rfl (fun ls hl => ?_)
  refine lv_iload_n hx hb dJ5_append_66267_5 rfl (lv_at hl 0 rfl) ?_
  refine lv_lload_n hx hb dJ5_append_66267_6 rfl (lv_at hl 2 rfl) ?_
  have hPc := xP_nil (D := (dC, dI)) (cl := xCl) (H := s.heap)
  have hDc := xD_nil (A := A)
  have hKc := hK.sub (tys' := [(cB, .byte)]) [0] rfl
  have hFc := va_free (wc := []) hD hS hA [] rfl
  refine va_calli (va_runS (As := [.long (lN w)]) (rest := [.int (nI n)]) ⟨hx, hb, hml, hown, hts⟩ (k_J13_stringSize_95d88 l dC dI cB w s.heap.size N (by omega)) (va_cwS 1 hts gJ5_append_66267_J13_stringSize_95d88 rfl rfl rfl (by decide +kernel) ⟨Nat.le_of_ble_eq_true rfl, Nat.le_of_ble_eq_true rfl⟩) (xT.preS hKc hPc hDc hAN (Nat.le_trans hN hS.1) (hG.kept hS hAN) (hT.kept hS hAN)) rfl rfl hl.1 rfl (lv_room (Nat.le_of_ble_eq_true rfl)) dJ5_append_66267_7 ⟨(show _ ≤ 1 by omega), (show _ ≤ 34 by omega)⟩) hS (fun q _ h => hFc q h) hFc (fun r_1 u_2 t H locs ht hvm hw hB hz hk hS => ?_)
  obtain ⟨hP1, hD1⟩ := hB
  rw [ht] at hP1
  obtain ⟨hP, hD⟩ := va_join (wr := [(h, eB v (nI n)), (v, eY cB mm f)]) (w1 := []) hP hD [] [0, 1] rfl rfl (by decide) (by decide) hk hFc hP1 hD1
  have hP : va_P (dC, dI) xCl [(h, eB v (nI n)), (v, eY cB mm f)] H := hP
  have hD : va_D A [(h, eB v (nI n)), (v, eY cB mm f)] := hD
  have hw : r_1 = (nI (dgL w)) := hw
  rw [hw]
  refine lv_iadd hx hb dJ5_append_66267_10 ?_
  rw [show (((nI n) + (nI (dgL w))) : Int32) = (nI (n + dgL w)) from nI_add _ _]
  refine lv_istore (lv' := [(4, .int (nI (n + dgL w))), (3, .int (nI n)), (0, .ref h), (1, .long (lN w))]) hx hb dJ5_append_66267_11 hl (by decide) rfl (fun ls hl => ?_)
  refine lv_aload_n hx hb dJ5_append_66267_13 rfl (lv_at hl 2 rfl) ?_
  refine lv_iload hx hb dJ5_append_66267_14 (lv_at hl 0 rfl) ?_
  have hPc := hP.sub (ws' := [(h, eB v (nI n)), (v, eY cB mm f)]) [0, 1] rfl
  have hDc := hD.sub (ws' := [(h, eB v (nI n)), (v, eY cB mm f)]) [0, 1] (by decide) rfl
  have hKc := hK.sub (tys' := [(cB, .byte)]) [0] rfl
  have hFc := va_free (wc := [(h, eB v (nI n)), (v, eY cB mm f)]) hD hS hA [0, 1] rfl
  refine va_callv (va_runU (As := [.int (nI (n + dgL w))]) (rest := []) ⟨hx, hb, hml, hown, hts⟩ (kk_J5_ensureCapacityInternal_d00df l dC dI cB h v (nI n) mm f (n + dgL w) H.size N hm hf (by omega)) (va_cwU 1 hts gJ5_append_66267_J5_ensureCapacityInternal_d00df_u100J4 rfl rfl rfl rfl (by decide +kernel) ⟨Nat.le_of_ble_eq_true rfl, Nat.le_of_ble_eq_true rfl⟩) (xT.preV hKc hPc hDc hAN (Nat.le_trans hN hS.1) (hG.kept hS hAN) (hT.kept hS hAN) (ci := 1) (q0 := 0) rfl rfl) rfl rfl hl.1 rfl (lv_room (Nat.le_of_ble_eq_true rfl)) dJ5_append_66267_16 ⟨(show _ ≤ 1 by omega), (show _ ≤ 34 by omega)⟩) hS (fun q _ h => hFc q h) hFc (fun u_7 t H locs ht hvm hw hB hz hk hS => ?_)
  obtain ⟨hP1, hD1⟩ := hB
  rw [ht] at hP1
  obtain ⟨v2_3, m2_4, f2_5⟩ := u_7
  obtain ⟨hP, hD⟩ := va_join (wr := []) (w1 := [(h, eB v2_3 (nI n)), (v2_3, eY cB m2_4 f2_5)]) hP hD [0, 1] [] rfl rfl (by decide) (by decide) hk hFc hP1 hD1
  have hP : va_P (dC, dI) xCl [(h, eB v2_3 (nI n)), (v2_3, eY cB m2_4 f2_5)] H := hP
  have hD : va_D A [(h, eB v2_3 (nI n)), (v2_3, eY cB m2_4 f2_5)] := hD
  obtain ⟨hm_m2_4, hq_m2_4, hf_m2_4, hk_m2_4⟩ : (m2_4 = 16 ∨ m2_4 = 34) ∧ (n + dgL w) ≤ m2_4 ∧ sb_Fit f2_5 ∧ ∀ j, j < mm → f2_5 j = f j := hw
  refine lv_aload_n hx hb dJ5_append_66267_19 rfl (lv_at hl 2 rfl) ?_
  have hPc := hP.sub (ws' := [(h, eB v2_3 (nI n))]) [0] rfl
  have hDc := hD.sub (ws' := [(h, eB v2_3 (nI n))]) [0] (by decide) rfl
  have hKc := hK.sub (tys' := [(cB, .byte)]) [0] rfl
  have hFc := va_free (wc := [(h, eB v2_3 (nI n))]) hD hS hA [0] rfl
  refine va_calli (va_runU (As := []) (rest := []) ⟨hx, hb, hml, hown, hts⟩ (k_J5_isLatin1_aae02 l dC dI cB h v2_3 (nI n) H.size N) (va_cwU 0 hts gJ5_append_66267_J5_isLatin1_aae02_u83J4 rfl rfl rfl rfl (by decide +kernel) ⟨Nat.le_of_ble_eq_true rfl, Nat.le_of_ble_eq_true rfl⟩) (xT.preV hKc hPc hDc hAN (Nat.le_trans hN hS.1) (hG.kept hS hAN) (hT.kept hS hAN) (ci := 1) (q0 := 0) rfl rfl) rfl rfl hl.1 rfl (lv_room (Nat.le_of_ble_eq_true rfl)) dJ5_append_66267_20 ⟨(show _ ≤ 1 by omega), (show _ ≤ 34 by omega)⟩) hS (fun q _ h => hFc q h) hFc (fun r_8 u_9 t H locs ht hvm hw hB hz hk hS => ?_)
  obtain ⟨hP1, hD1⟩ := hB
  rw [ht] at hP1
  obtain ⟨hP, hD⟩ := va_join (wr := [(v2_3, eY cB m2_4 f2_5)]) (w1 := [(h, eB v2_3 (nI n))]) hP hD [0] [1] rfl rfl (by decide) (by decide) hk hFc hP1 hD1
  have hP : va_P (dC, dI) xCl [(v2_3, eY cB m2_4 f2_5), (h, eB v2_3 (nI n))] H := hP
  have hD : va_D A [(v2_3, eY cB m2_4 f2_5), (h, eB v2_3 (nI n))] := hD
  have hw : r_8 = 1 := hw
  rw [hw]
  refine lv_if_eq (tgt := 40) hx hb dJ5_append_66267_23 (by decide) (fun c9 => absurd c9 (by decide)) (fun _ => ?_)
  refine lv_lload_n hx hb dJ5_append_66267_26 rfl (lv_at hl 3 rfl) ?_
  refine lv_iload hx hb dJ5_append_66267_27 (lv_at hl 0 rfl) ?_
  refine lv_aload_n hx hb dJ5_append_66267_29 rfl (lv_at hl 2 rfl) ?_
  refine va_get (D := (dC, dI)) (ci := 1) (v := .ref v2_3) (C := RJ4) (T := TJ4) (N := 4) hx hb hts (by decide +kernel) hown hK hP 1 rfl rfl 0 (by decide) (hts (.fieldLink RJ5 15 "java/lang/AbstractStringBuilder" "value" "[B") (by decide +kernel)) (fun _ h9 => h9) rfl dJ5_append_66267_30 ?_
  have hPc := hP.sub (ws' := [(v2_3, eY cB m2_4 f2_5)]) [0] rfl
  have hDc := hD.sub (ws' := [(v2_3, eY cB m2_4 f2_5)]) [0] (by decide) rfl
  have hKc := hK.sub (tys' := [(cB, .byte)]) [0] rfl
  have hFc := va_free (wc := [(v2_3, eY cB m2_4 f2_5)]) hD hS hA [0] rfl
  refine va_calli (va_runS (As := [.long (lN w), .int (nI (n + dgL w)), .ref v2_3]) (rest := []) ⟨hx, hb, hml, hown, hts⟩ (kk_J13_getChars_11360 l dC dI cB w (n + dgL w) v2_3 m2_4 f2_5 H.size N (by omega) (by omega) (by omega) (by omega) hf_m2_4) (va_cwS 3 hts gJ5_append_66267_J13_getChars_11360 rfl rfl rfl (by decide +kernel) ⟨Nat.le_of_ble_eq_true rfl, Nat.le_of_ble_eq_true rfl⟩) (xT.preS hKc hPc hDc hAN (Nat.le_trans hN hS.1) (hG.kept hS hAN) (hT.kept hS hAN)) rfl rfl hl.1 rfl (lv_room (Nat.le_of_ble_eq_true rfl)) dJ5_append_66267_33 ⟨(show _ ≤ 1 by omega), (show _ ≤ 34 by omega)⟩) hS (fun q _ h => hFc q h) hFc (fun r_11 u_12 t H locs ht hvm hw hB hz hk hS => ?_)
  obtain ⟨hP1, hD1⟩ := hB
  rw [ht] at hP1
  obtain ⟨f2_10, rfl⟩ : ∃ z, z = u_12 := ⟨_, rfl⟩
  obtain ⟨hP, hD⟩ := va_join (wr := [(h, eB v2_3 (nI n))]) (w1 := [(v2_3, eY cB m2_4 f2_10)]) hP hD [0] [1] rfl rfl (by decide) (by decide) hk hFc hP1 hD1
  have hP : va_P (dC, dI) xCl [(h, eB v2_3 (nI n)), (v2_3, eY cB m2_4 f2_10)] H := hP
  have hD : va_D A [(h, eB v2_3 (nI n)), (v2_3, eY cB m2_4 f2_10)] := hD
  obtain ⟨hf_f2_10, hw_f2_10⟩ : sb_Fit f2_10 ∧ tW f2_5 f2_10 (n + dgL w) (dgL w) w := hw
  refine lv_pop hx hb dJ5_append_66267_36 rfl ?_
  refine lv_goto (tgt := 52) hx hb dJ5_append_66267_37 (by decide) ?_
  refine lv_aload_n hx hb dJ5_append_66267_52 rfl (lv_at hl 2 rfl) ?_
  refine lv_iload hx hb dJ5_append_66267_53 (lv_at hl 0 rfl) ?_
  refine va_put (D := (dC, dI)) (ci := 1) (v := .int (nI (n + dgL w))) (ty := .int) (C := RJ4) (T := TJ4) (N := 4) hx hb hts (by decide +kernel) tyJ4 tyJ4_ok nmJ4 hown hK hP hD hS 0 rfl rfl 3 (by decide) (hts (.fieldLink RJ5 79 "java/lang/AbstractStringBuilder" "count" "I") (by decide +kernel)) (fun _ h9 => h9) rfl (by decide +kernel) rfl rfl (Nat.le_of_ble_eq_true rfl) dJ5_append_66267_55 (fun H locs hP hD hS => ?_)
  have hP : va_P (dC, dI) xCl [(h, eB v2_3 (nI (n + dgL w))), (v2_3, eY cB m2_4 f2_10)] H := hP
  have hD : va_D A [(h, eB v2_3 (nI (n + dgL w))), (v2_3, eY cB m2_4 f2_10)] := hD
  refine lv_aload_n hx hb dJ5_append_66267_58 rfl (lv_at hl 2 rfl) ?_
  have hP := hP.sub (ws' := [(h, eB v2_3 (nI (n + dgL w))), (v2_3, eY cB m2_4 f2_10)]) [0, 1] rfl
  have hD := hD.sub (ws' := [(h, eB v2_3 (nI (n + dgL w))), (v2_3, eY cB m2_4 f2_10)]) [0, 1] (by decide) rfl
  refine W.widen (k := 1) (n := 34) (by omega) (by omega) ?_
  exact W.aret (v := .ref h) hx hb hr (Or.inl ⟨_, rfl⟩) (Or.inr ⟨_, rfl⟩) (fun t ht hW => ⟨⟨(v2_3, m2_4, f2_10), _, rfl, ⟨hm_m2_4, hq_m2_4, hf_f2_10, (tX_pre hk_m2_4 hnm (tW_X hw_f2_10))⟩, ⟨rfl, by rw [ht]; exact hP, hD⟩⟩, hS.F ht⟩) hS.2.2 dJ5_append_66267_59
set_option maxHeartbeats 4000000 in
set_option maxRecDepth 100000 in
theorem kk_J4_append_f7089 (l : Launch) (dC : Nat → ClassId) (dI : Nat → Nat → Nat) (cB : ClassId) (h : Nat) (v : Nat) (n : Nat) (mm : Nat) (f : Nat → Int32) (w : Nat) (sz N : Nat) (hm : mm = 16 ∨ mm = 34) (hf : sb_Fit f) (hnm : n ≤ mm) (hwb : w < 10000000000000000) (hn : n + dgL w ≤ 34) : Met l yJ4_append_f7089 wsJ4_append_f7089 ({ frames := 5, cells := 1, slots := 34, locals := 168 }) (va_Pc [.ref h, .long (lN w)] (xT (dC, dI) xCl [(h, eB v (nI n)), (v, eY cB mm f)] [(cB, .byte)] sz N)) (va_Qr (fun (u : Nat × Nat × (Nat → Int32)) => (u.2.1 = 16 ∨ u.2.1 = 34) ∧ n + dgL w ≤ u.2.1 ∧ sb_Fit u.2.2 ∧ tX f u.2.2 n (dL (dgL w) w)) (fun (u : Nat × Nat × (Nat → Int32)) a t => a = h ∧ xW (dC, dI) xCl [(h, eB u.1 (nI (n + dgL w))), (u.1, eY cB u.2.1 u.2.2)] (va_A [(h, eB v (nI n)), (v, eY cB mm f)] sz) t) (va_A [(h, eB v (nI n)), (v, eY cB mm f)] sz)) 1 34 (va_A [(h, eB v (nI n)), (v, eY cB mm f)] sz) := by
  refine Met.ofW (cc := cJ4_append_f7089) (maxL := 3) (ret := (some (.object "java/lang/StringBuilder"))) (by decide +kernel) rfl ?_
  intro p e s m args below meth c s₁ B hml hv
  obtain ⟨rfl, ⟨hsz, hP, hK, hD0, hN, hG⟩, hT⟩ := hv
  have hx := B.exec
  have hb := B.bytes
  have hr := B.returns
  have hts := atoms_spec (ws := wsJ4_append_f7089) B.pre
  have hown : s.vm.findClass RJ4 = some m.cls := findClass_of_methodNamed B.named
  have hlocks := B.notSynchronized
  subst hsz
  have hAN : ∀ q, va_A [(h, eB v (nI n)), (v, eY cB mm f)] s.heap.size q → N ≤ q := xA_N hD0 hN
  have hD := hD0.self (sz := s.heap.size)
  generalize hAe : va_A [(h, eB v (nI n)), (v, eY cB mm f)] s.heap.size = A at hD hAN ⊢
  have hA : ∀ q : Nat, s.heap.size ≤ q → A q := fun q h => by rw [← hAe]; exact Or.inr h
  have hS : va_S A s.heap s.heap [] := va_S.rf
  have hP : va_P (dC, dI) xCl [(h, eB v (nI n)), (v, eY cB mm f)] s.heap := hP
  obtain ⟨hTc, ⟨tO, tT, fO, fT, hTo, hTt, hTa, hTb, hTf, hTg⟩, ⟨adK, adV, hTs, hTr0, hTr1, hTr2⟩, ⟨aE, hTe⟩, hTn⟩ := id hT
  have hl := lv_entry ([.ref h, .long (lN w)]) (n := 3) (Nat.le_of_ble_eq_true rfl)
  rw [lg_entry_eq]
  generalize (lg_sl ([.ref h, .long (lN w)]) ++ List.replicate (3 - (lg_sl ([.ref h, .long (lN w)])).length) Slot.unset).toArray = ls at hl ⊢
  have hl : lv_has ls 3 [(0, .ref h), (1, .long (lN w))] := hl
  refine lv_aload_n hx hb dJ4_append_f7089_0 rfl (lv_at hl 0 rfl) ?_
  refine lv_lload_n hx hb dJ4_append_f7089_1 rfl (lv_at hl 1 rfl) ?_
  have hPc := hP.sub (ws' := [(h, eB v (nI n)), (v, eY cB mm f)]) [0, 1] rfl
  have hDc := hD.sub (ws' := [(h, eB v (nI n)), (v, eY cB mm f)]) [0, 1] (by decide) rfl
  have hKc := hK.sub (tys' := [(cB, .byte)]) [0] rfl
  have hFc := va_free (wc := [(h, eB v (nI n)), (v, eY cB mm f)]) hD hS hA [0, 1] rfl
  refine va_callr (va_runSU (hK.1 1 _ rfl).2 (As := [.long (lN w)]) (rest := []) ⟨hx, hb, hml, hown, hts⟩ (kk_J5_append_66267 l dC dI cB h v n mm f w s.heap.size N hm hf (by omega) (by omega) (by omega)) (va_cwSU 1 hts gJ4_append_f7089_J5_append_66267_s56 rfl rfl rfl (by decide +kernel) ⟨Nat.le_of_ble_eq_true rfl, Nat.le_of_ble_eq_true rfl⟩) (xT.preV hKc hPc hDc hAN (Nat.le_trans hN hS.1) (hG.kept hS hAN) (hT.kept hS hAN) (ci := 1) (q0 := 0) rfl rfl) rfl rfl hl.1 rfl (lv_room (Nat.le_of_ble_eq_true rfl)) dJ4_append_f7089_2 ⟨(show _ ≤ 1 by omega), (show _ ≤ 34 by omega)⟩) hS (fun q _ h => hFc q h) hFc (fun u_5 r_4 t H locs ht hvm hw hB hz hk hS => ?_)
  obtain ⟨he_r_4, hP1, hD1⟩ := hB
  rw [ht] at hP1
  obtain ⟨v2_1, m2_2, f2_3⟩ := u_5
  obtain ⟨hP, hD⟩ := va_join (wr := []) (w1 := [(h, eB v2_1 (nI (n + dgL w))), (v2_1, eY cB m2_2 f2_3)]) hP hD [0, 1] [] rfl rfl (by decide) (by decide) hk hFc hP1 hD1
  have hP : va_P (dC, dI) xCl [(h, eB v2_1 (nI (n + dgL w))), (v2_1, eY cB m2_2 f2_3)] H := hP
  have hD : va_D A [(h, eB v2_1 (nI (n + dgL w))), (v2_1, eY cB m2_2 f2_3)] := hD
  obtain ⟨hm_m2_2, hq_m2_2, hf_m2_2, hx_m2_2⟩ : (m2_2 = 16 ∨ m2_2 = 34) ∧ n + dgL w ≤ m2_2 ∧ sb_Fit f2_3 ∧ tX f f2_3 n (dL (dgL w) w) := hw
  rw [he_r_4]
  refine lv_pop hx hb dJ4_append_f7089_5 rfl ?_
  refine lv_aload_n hx hb dJ4_append_f7089_6 rfl (lv_at hl 0 rfl) ?_
  have hP := hP.sub (ws' := [(h, eB v2_1 (nI (n + dgL w))), (v2_1, eY cB m2_2 f2_3)]) [0, 1] rfl
  have hD := hD.sub (ws' := [(h, eB v2_1 (nI (n + dgL w))), (v2_1, eY cB m2_2 f2_3)]) [0, 1] (by decide) rfl
  refine W.widen (k := 1) (n := 34) (by omega) (by omega) ?_
  exact W.aret (v := .ref h) hx hb hr (Or.inl ⟨_, rfl⟩) (Or.inr ⟨_, rfl⟩) (fun t ht hW => ⟨⟨(v2_1, m2_2, f2_3), _, rfl, ⟨hm_m2_2, hq_m2_2, hf_m2_2, hx_m2_2⟩, ⟨rfl, by rw [ht]; exact hP, hD⟩⟩, hS.F ht⟩) hS.2.2 dJ4_append_f7089_7
