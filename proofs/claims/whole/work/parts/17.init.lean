noncomputable def dz_p17_1 : List (Nat × Instr × Nat) := [(0, (.aload_n 0, 1)), (1, (.invokespecial 3, 3)), (4, (.aload_n 0, 1)), (5, (.iload_n 2, 1)), (6, (.putfield 9, 3)), (9, (.aload_n 0, 1)), (10, (.iload_n 3, 1)), (11, (.putfield 15, 3)), (14, (.aload_n 0, 1)), (15, (.iconst 1, 1)), (16, (.iload_n 1, 1)), (17, (.ishl, 1)), (18, (.iconst 1, 1)), (19, (.isub, 1)), (20, (.putfield 18, 3)), (23, (.aload_n 0, 1)), (24, (.lconst 1, 1)), (25, (.iload_n 2, 1)), (26, (.lshl, 1)), (27, (.lconst 1, 1)), (28, (.lsub, 1)), (29, (.putfield 21, 3)), (32, (.aload_n 0, 1)), (33, (.lconst 1, 1)), (34, (.iload_n 1, 1)), (35, (.iload_n 2, 1)), (36, (.iadd, 1)), (37, (.lshl, 1)), (38, (.putfield 25, 3)), (41, (.aload_n 0, 1)), (42, (.aload_n 0, 1)), (43, (.getfield 25, 3)), (46, (.lconst 1, 1)), (47, (.lsub, 1)), (48, (.putfield 28, 3)), (51, (.aload_n 0, 1)), (52, (.aload_n 0, 1)), (53, (.getfield 18, 3)), (56, (.iconst 1, 1)), (57, (.ishr, 1))]
theorem dy_p17_1 : dz_ok cX1_init dz_p17_1 = true := by decide +kernel
theorem dX1_init_0 : decode cX1_init 0 = .ok (.aload_n 0, 1) := dz_at (i := 0) dy_p17_1 rfl
theorem dX1_init_1 : decode cX1_init 1 = .ok (.invokespecial 3, 3) := dz_at (i := 1) dy_p17_1 rfl
theorem dX1_init_4 : decode cX1_init 4 = .ok (.aload_n 0, 1) := dz_at (i := 2) dy_p17_1 rfl
theorem dX1_init_5 : decode cX1_init 5 = .ok (.iload_n 2, 1) := dz_at (i := 3) dy_p17_1 rfl
theorem dX1_init_6 : decode cX1_init 6 = .ok (.putfield 9, 3) := dz_at (i := 4) dy_p17_1 rfl
theorem dX1_init_9 : decode cX1_init 9 = .ok (.aload_n 0, 1) := dz_at (i := 5) dy_p17_1 rfl
theorem dX1_init_10 : decode cX1_init 10 = .ok (.iload_n 3, 1) := dz_at (i := 6) dy_p17_1 rfl
theorem dX1_init_11 : decode cX1_init 11 = .ok (.putfield 15, 3) := dz_at (i := 7) dy_p17_1 rfl
theorem dX1_init_14 : decode cX1_init 14 = .ok (.aload_n 0, 1) := dz_at (i := 8) dy_p17_1 rfl
theorem dX1_init_15 : decode cX1_init 15 = .ok (.iconst 1, 1) := dz_at (i := 9) dy_p17_1 rfl
theorem dX1_init_16 : decode cX1_init 16 = .ok (.iload_n 1, 1) := dz_at (i := 10) dy_p17_1 rfl
theorem dX1_init_17 : decode cX1_init 17 = .ok (.ishl, 1) := dz_at (i := 11) dy_p17_1 rfl
theorem dX1_init_18 : decode cX1_init 18 = .ok (.iconst 1, 1) := dz_at (i := 12) dy_p17_1 rfl
theorem dX1_init_19 : decode cX1_init 19 = .ok (.isub, 1) := dz_at (i := 13) dy_p17_1 rfl
theorem dX1_init_20 : decode cX1_init 20 = .ok (.putfield 18, 3) := dz_at (i := 14) dy_p17_1 rfl
theorem dX1_init_23 : decode cX1_init 23 = .ok (.aload_n 0, 1) := dz_at (i := 15) dy_p17_1 rfl
theorem dX1_init_24 : decode cX1_init 24 = .ok (.lconst 1, 1) := dz_at (i := 16) dy_p17_1 rfl
theorem dX1_init_25 : decode cX1_init 25 = .ok (.iload_n 2, 1) := dz_at (i := 17) dy_p17_1 rfl
theorem dX1_init_26 : decode cX1_init 26 = .ok (.lshl, 1) := dz_at (i := 18) dy_p17_1 rfl
theorem dX1_init_27 : decode cX1_init 27 = .ok (.lconst 1, 1) := dz_at (i := 19) dy_p17_1 rfl
theorem dX1_init_28 : decode cX1_init 28 = .ok (.lsub, 1) := dz_at (i := 20) dy_p17_1 rfl
theorem dX1_init_29 : decode cX1_init 29 = .ok (.putfield 21, 3) := dz_at (i := 21) dy_p17_1 rfl
theorem dX1_init_32 : decode cX1_init 32 = .ok (.aload_n 0, 1) := dz_at (i := 22) dy_p17_1 rfl
theorem dX1_init_33 : decode cX1_init 33 = .ok (.lconst 1, 1) := dz_at (i := 23) dy_p17_1 rfl
theorem dX1_init_34 : decode cX1_init 34 = .ok (.iload_n 1, 1) := dz_at (i := 24) dy_p17_1 rfl
theorem dX1_init_35 : decode cX1_init 35 = .ok (.iload_n 2, 1) := dz_at (i := 25) dy_p17_1 rfl
theorem dX1_init_36 : decode cX1_init 36 = .ok (.iadd, 1) := dz_at (i := 26) dy_p17_1 rfl
theorem dX1_init_37 : decode cX1_init 37 = .ok (.lshl, 1) := dz_at (i := 27) dy_p17_1 rfl
theorem dX1_init_38 : decode cX1_init 38 = .ok (.putfield 25, 3) := dz_at (i := 28) dy_p17_1 rfl
theorem dX1_init_41 : decode cX1_init 41 = .ok (.aload_n 0, 1) := dz_at (i := 29) dy_p17_1 rfl
theorem dX1_init_42 : decode cX1_init 42 = .ok (.aload_n 0, 1) := dz_at (i := 30) dy_p17_1 rfl
theorem dX1_init_43 : decode cX1_init 43 = .ok (.getfield 25, 3) := dz_at (i := 31) dy_p17_1 rfl
theorem dX1_init_46 : decode cX1_init 46 = .ok (.lconst 1, 1) := dz_at (i := 32) dy_p17_1 rfl
theorem dX1_init_47 : decode cX1_init 47 = .ok (.lsub, 1) := dz_at (i := 33) dy_p17_1 rfl
theorem dX1_init_48 : decode cX1_init 48 = .ok (.putfield 28, 3) := dz_at (i := 34) dy_p17_1 rfl
theorem dX1_init_51 : decode cX1_init 51 = .ok (.aload_n 0, 1) := dz_at (i := 35) dy_p17_1 rfl
theorem dX1_init_52 : decode cX1_init 52 = .ok (.aload_n 0, 1) := dz_at (i := 36) dy_p17_1 rfl
theorem dX1_init_53 : decode cX1_init 53 = .ok (.getfield 18, 3) := dz_at (i := 37) dy_p17_1 rfl
theorem dX1_init_56 : decode cX1_init 56 = .ok (.iconst 1, 1) := dz_at (i := 38) dy_p17_1 rfl
theorem dX1_init_57 : decode cX1_init 57 = .ok (.ishr, 1) := dz_at (i := 39) dy_p17_1 rfl
noncomputable def dz_p17_2 : List (Nat × Instr × Nat) := [(58, (.iconst 2, 1)), (59, (.isub, 1)), (60, (.putfield 31, 3)), (63, (.return_, 1))]
theorem dy_p17_2 : dz_ok cX1_init dz_p17_2 = true := by decide +kernel
theorem dX1_init_58 : decode cX1_init 58 = .ok (.iconst 2, 1) := dz_at (i := 0) dy_p17_2 rfl
theorem dX1_init_59 : decode cX1_init 59 = .ok (.isub, 1) := dz_at (i := 1) dy_p17_2 rfl
theorem dX1_init_60 : decode cX1_init 60 = .ok (.putfield 31, 3) := dz_at (i := 2) dy_p17_2 rfl
theorem dX1_init_63 : decode cX1_init 63 = .ok (.return_, 1) := dz_at (i := 3) dy_p17_2 rfl
set_option maxHeartbeats 4000000 in
set_option maxRecDepth 100000 in
theorem k_X1_init (l : Launch) (dC : Nat → ClassId) (dI : Nat → Nat → Nat) (h0 : Nat) (sz N : Nat) (w : Bool) : Met l yX1_init wsX1_init ({ frames := 1, cells := 0, slots := 0, locals := 30 }) (va_Pc [.ref h0, .int (mEx w), .int (wFd w), .int (wQb w)] (xM (dC, dI) xCl [(h0, .inr (3, [.int 0, .int 0, .long 0, .long 0, .long 0, .int 0, .int 0]))] [] sz N)) (va_Qv (fun (_ : Unit) => True) (fun (u : Unit) t => xW (dC, dI) xCl [(h0, eW w)] (va_A [(h0, .inr (3, [.int 0, .int 0, .long 0, .long 0, .long 0, .int 0, .int 0]))] sz) t) (va_A [(h0, .inr (3, [.int 0, .int 0, .long 0, .long 0, .long 0, .int 0, .int 0]))] sz)) 0 0 (va_A [(h0, .inr (3, [.int 0, .int 0, .long 0, .long 0, .long 0, .int 0, .int 0]))] sz) := by
  refine Met.ofW (cc := cX1_init) (maxL := 4) (ret := none) (by decide +kernel) rfl ?_
  intro p e s m args below meth c s₁ B hml hv
  obtain ⟨rfl, hsz, hP, hK, hD0, hN, hG⟩ := hv
  have hx := B.exec
  have hb := B.bytes
  have hr := B.returns
  have hts := atoms_spec (ws := wsX1_init) B.pre
  have hown : s.vm.findClass RX1 = some m.cls := findClass_of_methodNamed B.named
  have hlocks := B.notSynchronized
  have hin : meth.name = "<init>" := (name_of_methodNamed B.named B.method).1
  subst hsz
  have hAN : ∀ q, va_A [(h0, .inr (3, [.int 0, .int 0, .long 0, .long 0, .long 0, .int 0, .int 0]))] s.heap.size q → N ≤ q := xA_N hD0 hN
  have hD := hD0.self (sz := s.heap.size)
  generalize hAe : va_A [(h0, .inr (3, [.int 0, .int 0, .long 0, .long 0, .long 0, .int 0, .int 0]))] s.heap.size = A at hD hAN ⊢
  have hA : ∀ q : Nat, s.heap.size ≤ q → A q := fun q h => by rw [← hAe]; exact Or.inr h
  have hS : va_S A s.heap s.heap [] := va_S.rf
  have hP : va_P (dC, dI) xCl [(h0, .inr (3, [.int 0, .int 0, .long 0, .long 0, .long 0, .int 0, .int 0]))] s.heap := hP
  have hl := lv_entry ([.ref h0, .int (mEx w), .int (wFd w), .int (wQb w)]) (n := 4) (Nat.le_of_ble_eq_true rfl)
  rw [lg_entry_eq]
  generalize (lg_sl ([.ref h0, .int (mEx w), .int (wFd w), .int (wQb w)]) ++ List.replicate (4 - (lg_sl ([.ref h0, .int (mEx w), .int (wFd w), .int (wQb w)])).length) Slot.unset).toArray = ls at hl ⊢
  have hl : lv_has ls 4 [(0, .ref h0), (1, .int (mEx w)), (2, .int (wFd w)), (3, .int (wQb w))] := hl
  refine lv_aload_n hx hb dX1_init_0 rfl (lv_at hl 0 rfl) ?_
  refine W.objInit hx hb hown (hts (.methodLink RX1 3 objectInit) (by decide +kernel)) (hts (.instanceMethod objectInit) (by decide +kernel)) (hts (.code objectInit ⟨#[0xb1]⟩ 1 none) (by decide +kernel)) rfl (by rw [hml]; exact hl.1) rfl dX1_init_1 (Nat.le_of_ble_eq_true rfl) (Nat.le_of_ble_eq_true rfl) ?_
  refine W.eq (g2 := F0 m 4 ls []) rfl ?_
  refine lv_aload_n hx hb dX1_init_4 rfl (lv_at hl 0 rfl) ?_
  refine lv_iload_n hx hb dX1_init_5 rfl (lv_at hl 2 rfl) ?_
  refine va_putF (D := (dC, dI)) (ci := 3) (v := .int (wFd w)) (ty := .int) (C := RX1) (T := TX1) (N := 7) hx hb hts (by decide +kernel) tyX1 tyX1_ok nmX1 hown hK hP hD hS 0 rfl rfl 0 (by decide +kernel) (hts (.fieldLink RX1 9 "Edgefloats$Width" "fractionDigits" "I") (by decide +kernel)) (fun _ h9 => h9) rfl hin rfl (by decide +kernel) rfl rfl (Nat.le_of_ble_eq_true rfl) dX1_init_6 (fun H locs hP hD hS => ?_)
  have hP : va_P (dC, dI) xCl [(h0, .inr (3, [.int (wFd w), .int 0, .long 0, .long 0, .long 0, .int 0, .int 0]))] H := hP
  have hD : va_D A [(h0, .inr (3, [.int (wFd w), .int 0, .long 0, .long 0, .long 0, .int 0, .int 0]))] := hD
  refine lv_aload_n hx hb dX1_init_9 rfl (lv_at hl 0 rfl) ?_
  refine lv_iload_n hx hb dX1_init_10 rfl (lv_at hl 3 rfl) ?_
  refine va_putF (D := (dC, dI)) (ci := 3) (v := .int (wQb w)) (ty := .int) (C := RX1) (T := TX1) (N := 7) hx hb hts (by decide +kernel) tyX1 tyX1_ok nmX1 hown hK hP hD hS 0 rfl rfl 6 (by decide +kernel) (hts (.fieldLink RX1 15 "Edgefloats$Width" "quarterBound" "I") (by decide +kernel)) (fun _ h9 => h9) rfl hin rfl (by decide +kernel) rfl rfl (Nat.le_of_ble_eq_true rfl) dX1_init_11 (fun H locs hP hD hS => ?_)
  have hP : va_P (dC, dI) xCl [(h0, .inr (3, [.int (wFd w), .int 0, .long 0, .long 0, .long 0, .int 0, .int (wQb w)]))] H := hP
  have hD : va_D A [(h0, .inr (3, [.int (wFd w), .int 0, .long 0, .long 0, .long 0, .int 0, .int (wQb w)]))] := hD
  refine lv_aload_n hx hb dX1_init_14 rfl (lv_at hl 0 rfl) ?_
  refine lv_iconst (v := 1) hx hb dX1_init_15 (by decide +kernel) ?_
  refine lv_iload_n hx hb dX1_init_16 rfl (lv_at hl 1 rfl) ?_
  refine lv_ishl hx hb dX1_init_17 ?_
  refine lv_iconst (v := 1) hx hb dX1_init_18 (by decide +kernel) ?_
  refine lv_isub hx hb dX1_init_19 ?_
  refine va_putF (D := (dC, dI)) (ci := 3) (v := .int ((1 <<< ((mEx w) &&& 31)) - 1)) (ty := .int) (C := RX1) (T := TX1) (N := 7) hx hb hts (by decide +kernel) tyX1 tyX1_ok nmX1 hown hK hP hD hS 0 rfl rfl 1 (by decide +kernel) (hts (.fieldLink RX1 18 "Edgefloats$Width" "exponentOnes" "I") (by decide +kernel)) (fun _ h9 => h9) rfl hin rfl (by decide +kernel) rfl rfl (Nat.le_of_ble_eq_true rfl) dX1_init_20 (fun H locs hP hD hS => ?_)
  have hP : va_P (dC, dI) xCl [(h0, .inr (3, [.int (wFd w), .int ((1 <<< ((mEx w) &&& 31)) - 1), .long 0, .long 0, .long 0, .int 0, .int (wQb w)]))] H := hP
  have hD : va_D A [(h0, .inr (3, [.int (wFd w), .int ((1 <<< ((mEx w) &&& 31)) - 1), .long 0, .long 0, .long 0, .int 0, .int (wQb w)]))] := hD
  refine lv_aload_n hx hb dX1_init_23 rfl (lv_at hl 0 rfl) ?_
  refine lv_lconst (v := 1) hx hb dX1_init_24 (by decide +kernel) ?_
  refine lv_iload_n hx hb dX1_init_25 rfl (lv_at hl 2 rfl) ?_
  refine lv_lshl (v := (jLshl 1 (wFd w))) hx hb dX1_init_26 rfl ?_
  refine lv_lconst (v := 1) hx hb dX1_init_27 (by decide +kernel) ?_
  refine lv_lsub hx hb dX1_init_28 ?_
  refine va_putF (D := (dC, dI)) (ci := 3) (v := .long ((jLshl 1 (wFd w)) - 1)) (ty := .long) (C := RX1) (T := TX1) (N := 7) hx hb hts (by decide +kernel) tyX1 tyX1_ok nmX1 hown hK hP hD hS 0 rfl rfl 2 (by decide +kernel) (hts (.fieldLink RX1 21 "Edgefloats$Width" "fractionOnes" "J") (by decide +kernel)) (fun _ h9 => h9) rfl hin rfl (by decide +kernel) rfl rfl (Nat.le_of_ble_eq_true rfl) dX1_init_29 (fun H locs hP hD hS => ?_)
  have hP : va_P (dC, dI) xCl [(h0, .inr (3, [.int (wFd w), .int ((1 <<< ((mEx w) &&& 31)) - 1), .long ((jLshl 1 (wFd w)) - 1), .long 0, .long 0, .int 0, .int (wQb w)]))] H := hP
  have hD : va_D A [(h0, .inr (3, [.int (wFd w), .int ((1 <<< ((mEx w) &&& 31)) - 1), .long ((jLshl 1 (wFd w)) - 1), .long 0, .long 0, .int 0, .int (wQb w)]))] := hD
  refine lv_aload_n hx hb dX1_init_32 rfl (lv_at hl 0 rfl) ?_
  refine lv_lconst (v := 1) hx hb dX1_init_33 (by decide +kernel) ?_
  refine lv_iload_n hx hb dX1_init_34 rfl (lv_at hl 1 rfl) ?_
  refine lv_iload_n hx hb dX1_init_35 rfl (lv_at hl 2 rfl) ?_
  refine lv_iadd hx hb dX1_init_36 ?_
  refine lv_lshl (v := (jLshl 1 ((mEx w) + (wFd w)))) hx hb dX1_init_37 rfl ?_
  refine va_putF (D := (dC, dI)) (ci := 3) (v := .long (jLshl 1 ((mEx w) + (wFd w)))) (ty := .long) (C := RX1) (T := TX1) (N := 7) hx hb hts (by decide +kernel) tyX1 tyX1_ok nmX1 hown hK hP hD hS 0 rfl rfl 4 (by decide +kernel) (hts (.fieldLink RX1 25 "Edgefloats$Width" "signOne" "J") (by decide +kernel)) (fun _ h9 => h9) rfl hin rfl (by decide +kernel) rfl rfl (Nat.le_of_ble_eq_true rfl) dX1_init_38 (fun H locs hP hD hS => ?_)
  have hP : va_P (dC, dI) xCl [(h0, .inr (3, [.int (wFd w), .int ((1 <<< ((mEx w) &&& 31)) - 1), .long ((jLshl 1 (wFd w)) - 1), .long 0, .long (jLshl 1 ((mEx w) + (wFd w))), .int 0, .int (wQb w)]))] H := hP
  have hD : va_D A [(h0, .inr (3, [.int (wFd w), .int ((1 <<< ((mEx w) &&& 31)) - 1), .long ((jLshl 1 (wFd w)) - 1), .long 0, .long (jLshl 1 ((mEx w) + (wFd w))), .int 0, .int (wQb w)]))] := hD
  refine lv_aload_n hx hb dX1_init_41 rfl (lv_at hl 0 rfl) ?_
  refine lv_aload_n hx hb dX1_init_42 rfl (lv_at hl 0 rfl) ?_
  refine va_get (D := (dC, dI)) (ci := 3) (v := .long (jLshl 1 ((mEx w) + (wFd w)))) (C := RX1) (T := TX1) (N := 7) hx hb hts (by decide +kernel) hown hK hP 0 rfl rfl 4 (by decide +kernel) (hts (.fieldLink RX1 25 "Edgefloats$Width" "signOne" "J") (by decide +kernel)) (fun _ h9 => h9) rfl dX1_init_43 ?_
  refine lv_lconst (v := 1) hx hb dX1_init_46 (by decide +kernel) ?_
  refine lv_lsub hx hb dX1_init_47 ?_
  refine va_putF (D := (dC, dI)) (ci := 3) (v := .long ((jLshl 1 ((mEx w) + (wFd w))) - 1)) (ty := .long) (C := RX1) (T := TX1) (N := 7) hx hb hts (by decide +kernel) tyX1 tyX1_ok nmX1 hown hK hP hD hS 0 rfl rfl 3 (by decide +kernel) (hts (.fieldLink RX1 28 "Edgefloats$Width" "sizeOnes" "J") (by decide +kernel)) (fun _ h9 => h9) rfl hin rfl (by decide +kernel) rfl rfl (Nat.le_of_ble_eq_true rfl) dX1_init_48 (fun H locs hP hD hS => ?_)
  have hP : va_P (dC, dI) xCl [(h0, .inr (3, [.int (wFd w), .int ((1 <<< ((mEx w) &&& 31)) - 1), .long ((jLshl 1 (wFd w)) - 1), .long ((jLshl 1 ((mEx w) + (wFd w))) - 1), .long (jLshl 1 ((mEx w) + (wFd w))), .int 0, .int (wQb w)]))] H := hP
  have hD : va_D A [(h0, .inr (3, [.int (wFd w), .int ((1 <<< ((mEx w) &&& 31)) - 1), .long ((jLshl 1 (wFd w)) - 1), .long ((jLshl 1 ((mEx w) + (wFd w))) - 1), .long (jLshl 1 ((mEx w) + (wFd w))), .int 0, .int (wQb w)]))] := hD
  refine lv_aload_n hx hb dX1_init_51 rfl (lv_at hl 0 rfl) ?_
  refine lv_aload_n hx hb dX1_init_52 rfl (lv_at hl 0 rfl) ?_
  refine va_get (D := (dC, dI)) (ci := 3) (v := .int ((1 <<< ((mEx w) &&& 31)) - 1)) (C := RX1) (T := TX1) (N := 7) hx hb hts (by decide +kernel) hown hK hP 0 rfl rfl 1 (by decide +kernel) (hts (.fieldLink RX1 18 "Edgefloats$Width" "exponentOnes" "I") (by decide +kernel)) (fun _ h9 => h9) rfl dX1_init_53 ?_
  refine lv_iconst (v := 1) hx hb dX1_init_56 (by decide +kernel) ?_
  refine lv_ishr hx hb dX1_init_57 ?_
  refine lv_iconst (v := 2) hx hb dX1_init_58 (by decide +kernel) ?_
  refine lv_isub hx hb dX1_init_59 ?_
  refine va_putF (D := (dC, dI)) (ci := 3) (v := .int ((((1 <<< ((mEx w) &&& 31)) - 1) >>> (1 &&& 31)) - 2)) (ty := .int) (C := RX1) (T := TX1) (N := 7) hx hb hts (by decide +kernel) tyX1 tyX1_ok nmX1 hown hK hP hD hS 0 rfl rfl 5 (by decide +kernel) (hts (.fieldLink RX1 31 "Edgefloats$Width" "exponentOfOneQuarter" "I") (by decide +kernel)) (fun _ h9 => h9) rfl hin rfl (by decide +kernel) rfl rfl (Nat.le_of_ble_eq_true rfl) dX1_init_60 (fun H locs hP hD hS => ?_)
  have hP : va_P (dC, dI) xCl [(h0, .inr (3, [.int (wFd w), .int ((1 <<< ((mEx w) &&& 31)) - 1), .long ((jLshl 1 (wFd w)) - 1), .long ((jLshl 1 ((mEx w) + (wFd w))) - 1), .long (jLshl 1 ((mEx w) + (wFd w))), .int ((((1 <<< ((mEx w) &&& 31)) - 1) >>> (1 &&& 31)) - 2), .int (wQb w)]))] H := hP
  have hD : va_D A [(h0, .inr (3, [.int (wFd w), .int ((1 <<< ((mEx w) &&& 31)) - 1), .long ((jLshl 1 (wFd w)) - 1), .long ((jLshl 1 ((mEx w) + (wFd w))) - 1), .long (jLshl 1 ((mEx w) + (wFd w))), .int ((((1 <<< ((mEx w) &&& 31)) - 1) >>> (1 &&& 31)) - 2), .int (wQb w)]))] := hD
  have e_5 : ((((1 <<< ((mEx w) &&& 31)) - 1) >>> (1 &&& 31)) - 2) = wEq w := by cases w <;> decide
  rw [e_5] at hP hD
  have e_1 : ((1 <<< ((mEx w) &&& 31)) - 1) = wEo w := by cases w <;> decide
  rw [e_1] at hP hD
  have e_3 : ((jLshl 1 ((mEx w) + (wFd w))) - 1) = wSo w := by cases w <;> decide
  rw [e_3] at hP hD
  have e_4 : (jLshl 1 ((mEx w) + (wFd w))) = wSg w := by cases w <;> decide
  rw [e_4] at hP hD
  have e_2 : ((jLshl 1 (wFd w)) - 1) = wFo w := by cases w <;> decide
  rw [e_2] at hP hD
  have hP := hP.sub (ws' := [(h0, eW w)]) [0] rfl
  have hD := hD.sub (ws' := [(h0, eW w)]) [0] (by decide +kernel) rfl
  refine W.widen (k := 0) (n := 0) (by omega) (by omega) ?_
  exact W.vret hx hb hr (fun t ht hW => ⟨⟨(), rfl, trivial, by rw [ht]; exact hP, hD⟩, hS.F ht⟩) hS.2.2 dX1_init_63
noncomputable def dz_p17_3 : List (Nat × Instr × Nat) := [(0, (.aload_n 0, 1)), (1, (.invokespecial 3, 3)), (4, (.aload_n 0, 1)), (5, (.aload_n 1, 1)), (6, (.putfield 9, 3)), (9, (.aload_n 0, 1)), (10, (.bipush 8, 2)), (12, (.newarray .long, 2)), (14, (.putfield 15, 3)), (17, (.aload_n 0, 1)), (18, (.bipush 8, 2)), (20, (.newarray .long, 2)), (22, (.putfield 19, 3)), (25, (.return_, 1))]
theorem dy_p17_3 : dz_ok cX0_init dz_p17_3 = true := by decide +kernel
theorem dX0_init_0 : decode cX0_init 0 = .ok (.aload_n 0, 1) := dz_at (i := 0) dy_p17_3 rfl
theorem dX0_init_1 : decode cX0_init 1 = .ok (.invokespecial 3, 3) := dz_at (i := 1) dy_p17_3 rfl
theorem dX0_init_4 : decode cX0_init 4 = .ok (.aload_n 0, 1) := dz_at (i := 2) dy_p17_3 rfl
theorem dX0_init_5 : decode cX0_init 5 = .ok (.aload_n 1, 1) := dz_at (i := 3) dy_p17_3 rfl
theorem dX0_init_6 : decode cX0_init 6 = .ok (.putfield 9, 3) := dz_at (i := 4) dy_p17_3 rfl
theorem dX0_init_9 : decode cX0_init 9 = .ok (.aload_n 0, 1) := dz_at (i := 5) dy_p17_3 rfl
theorem dX0_init_10 : decode cX0_init 10 = .ok (.bipush 8, 2) := dz_at (i := 6) dy_p17_3 rfl
theorem dX0_init_12 : decode cX0_init 12 = .ok (.newarray .long, 2) := dz_at (i := 7) dy_p17_3 rfl
theorem dX0_init_14 : decode cX0_init 14 = .ok (.putfield 15, 3) := dz_at (i := 8) dy_p17_3 rfl
theorem dX0_init_17 : decode cX0_init 17 = .ok (.aload_n 0, 1) := dz_at (i := 9) dy_p17_3 rfl
theorem dX0_init_18 : decode cX0_init 18 = .ok (.bipush 8, 2) := dz_at (i := 10) dy_p17_3 rfl
theorem dX0_init_20 : decode cX0_init 20 = .ok (.newarray .long, 2) := dz_at (i := 11) dy_p17_3 rfl
theorem dX0_init_22 : decode cX0_init 22 = .ok (.putfield 19, 3) := dz_at (i := 12) dy_p17_3 rfl
theorem dX0_init_25 : decode cX0_init 25 = .ok (.return_, 1) := dz_at (i := 13) dy_p17_3 rfl
set_option maxHeartbeats 4000000 in
set_option maxRecDepth 100000 in
theorem k_X0_init (l : Launch) (dC : Nat → ClassId) (dI : Nat → Nat → Nat) (cy : ClassId) (h0 : Nat) (sz N : Nat) (aw : Nat) : Met l yX0_init wsX0_init ({ frames := 1, cells := 2, slots := 16, locals := 30 }) (va_Pc [.ref h0, .ref aw] (xM (dC, dI) xCl [(h0, .inr (2, [.null, .null, .null, .int 0, .int 0]))] [(cy, .long)] sz N)) (va_Qv (fun (_ : Nat × Nat) => True) (fun (u : Nat × Nat) t => match u with | (u0, u1) => xW (dC, dI) xCl [(h0, eR aw u0 u1 0 0), (u0, eA cy (fun _ => 0)), (u1, eA cy (fun _ => 0))] (va_A [(h0, .inr (2, [.null, .null, .null, .int 0, .int 0]))] sz) t) (va_A [(h0, .inr (2, [.null, .null, .null, .int 0, .int 0]))] sz)) 2 16 (va_A [(h0, .inr (2, [.null, .null, .null, .int 0, .int 0]))] sz) := by
  refine Met.ofW (cc := cX0_init) (maxL := 2) (ret := none) (by decide +kernel) rfl ?_
  intro p e s m args below meth c s₁ B hml hv
  obtain ⟨rfl, hsz, hP, hK, hD0, hN, hG⟩ := hv
  have hx := B.exec
  have hb := B.bytes
  have hr := B.returns
  have hts := atoms_spec (ws := wsX0_init) B.pre
  have hown : s.vm.findClass RX0 = some m.cls := findClass_of_methodNamed B.named
  have hlocks := B.notSynchronized
  have hin : meth.name = "<init>" := (name_of_methodNamed B.named B.method).1
  subst hsz
  have hAN : ∀ q, va_A [(h0, .inr (2, [.null, .null, .null, .int 0, .int 0]))] s.heap.size q → N ≤ q := xA_N hD0 hN
  have hD := hD0.self (sz := s.heap.size)
  generalize hAe : va_A [(h0, .inr (2, [.null, .null, .null, .int 0, .int 0]))] s.heap.size = A at hD hAN ⊢
  have hA : ∀ q : Nat, s.heap.size ≤ q → A q := fun q h => by rw [← hAe]; exact Or.inr h
  have hS : va_S A s.heap s.heap [] := va_S.rf
  have hP : va_P (dC, dI) xCl [(h0, .inr (2, [.null, .null, .null, .int 0, .int 0]))] s.heap := hP
  have hl := lv_entry ([.ref h0, .ref aw]) (n := 2) (Nat.le_of_ble_eq_true rfl)
  rw [lg_entry_eq]
  generalize (lg_sl ([.ref h0, .ref aw]) ++ List.replicate (2 - (lg_sl ([.ref h0, .ref aw])).length) Slot.unset).toArray = ls at hl ⊢
  have hl : lv_has ls 2 [(0, .ref h0), (1, .ref aw)] := hl
  refine lv_aload_n hx hb dX0_init_0 rfl (lv_at hl 0 rfl) ?_
  refine W.objInit hx hb hown (hts (.methodLink RX0 3 objectInit) (by decide +kernel)) (hts (.instanceMethod objectInit) (by decide +kernel)) (hts (.code objectInit ⟨#[0xb1]⟩ 1 none) (by decide +kernel)) rfl (by rw [hml]; exact hl.1) rfl dX0_init_1 (Nat.le_of_ble_eq_true rfl) (Nat.le_of_ble_eq_true rfl) ?_
  refine W.eq (g2 := F0 m 4 ls []) rfl ?_
  refine lv_aload_n hx hb dX0_init_4 rfl (lv_at hl 0 rfl) ?_
  refine lv_aload_n hx hb dX0_init_5 rfl (lv_at hl 1 rfl) ?_
  refine va_putF (D := (dC, dI)) (ci := 2) (v := .ref aw) (ty := (.object "Edgefloats$Width")) (C := RX0) (T := TX0) (N := 5) hx hb hts (by decide +kernel) tyX0 tyX0_ok nmX0 hown hK hP hD hS 0 rfl rfl 0 (by decide +kernel) (hts (.fieldLink RX0 9 "Edgefloats$Row" "width" "LEdgefloats$Width;") (by decide +kernel)) (fun _ h9 => h9) rfl hin rfl (by decide +kernel) rfl rfl (Nat.le_of_ble_eq_true rfl) dX0_init_6 (fun H locs hP hD hS => ?_)
  have hP : va_P (dC, dI) xCl [(h0, .inr (2, [.ref aw, .null, .null, .int 0, .int 0]))] H := hP
  have hD : va_D A [(h0, .inr (2, [.ref aw, .null, .null, .int 0, .int 0]))] := hD
  refine lv_aload_n hx hb dX0_init_9 rfl (lv_at hl 0 rfl) ?_
  refine lv_bipush (v := 8) hx hb dX0_init_10 (by decide +kernel) ?_
  refine va_newa (atype := .long) (a0 := (8, .inr (.inl (fun _ => 0)))) (N' := 8) hx hb (hts (.arrayClass .long) (by decide +kernel)) rfl hK hP hD hS hA (fun cA => rfl) (by decide +kernel) (by decide +kernel) (by decide +kernel) (Nat.le_of_ble_eq_true rfl) (Nat.le_of_ble_eq_true rfl) dX0_init_12 (fun q12 cA H hK9 hP hD hS => ?_)
  have hcA : cA = cy := Option.some.inj (((hK9.2 1 _ rfl).2.symm).trans (hK.2 0 _ rfl).2)
  rw [hcA] at hP hD
  have hP : va_P (dC, dI) xCl [(h0, .inr (2, [.ref aw, .null, .null, .int 0, .int 0])), (q12, eA cy (fun _ => 0))] H := hP
  have hD : va_D A [(h0, .inr (2, [.ref aw, .null, .null, .int 0, .int 0])), (q12, eA cy (fun _ => 0))] := hD
  refine va_putF (D := (dC, dI)) (ci := 2) (v := .ref q12) (ty := (.array .long)) (C := RX0) (T := TX0) (N := 5) hx hb hts (by decide +kernel) tyX0 tyX0_ok nmX0 hown hK hP hD hS 0 rfl rfl 1 (by decide +kernel) (hts (.fieldLink RX0 15 "Edgefloats$Row" "cells" "[J") (by decide +kernel)) (fun _ h9 => h9) rfl hin rfl (by decide +kernel) rfl rfl (Nat.le_of_ble_eq_true rfl) dX0_init_14 (fun H locs hP hD hS => ?_)
  have hP : va_P (dC, dI) xCl [(h0, .inr (2, [.ref aw, .ref q12, .null, .int 0, .int 0])), (q12, eA cy (fun _ => 0))] H := hP
  have hD : va_D A [(h0, .inr (2, [.ref aw, .ref q12, .null, .int 0, .int 0])), (q12, eA cy (fun _ => 0))] := hD
  refine lv_aload_n hx hb dX0_init_17 rfl (lv_at hl 0 rfl) ?_
  refine lv_bipush (v := 8) hx hb dX0_init_18 (by decide +kernel) ?_
  refine va_newa (atype := .long) (a0 := (8, .inr (.inl (fun _ => 0)))) (N' := 8) hx hb (hts (.arrayClass .long) (by decide +kernel)) rfl hK hP hD hS hA (fun cA => rfl) (by decide +kernel) (by decide +kernel) (by decide +kernel) (Nat.le_of_ble_eq_true rfl) (Nat.le_of_ble_eq_true rfl) dX0_init_20 (fun q20 cA H hK9 hP hD hS => ?_)
  have hcA : cA = cy := Option.some.inj (((hK9.2 1 _ rfl).2.symm).trans (hK.2 0 _ rfl).2)
  rw [hcA] at hP hD
  have hP : va_P (dC, dI) xCl [(h0, .inr (2, [.ref aw, .ref q12, .null, .int 0, .int 0])), (q12, eA cy (fun _ => 0)), (q20, eA cy (fun _ => 0))] H := hP
  have hD : va_D A [(h0, .inr (2, [.ref aw, .ref q12, .null, .int 0, .int 0])), (q12, eA cy (fun _ => 0)), (q20, eA cy (fun _ => 0))] := hD
  refine va_putF (D := (dC, dI)) (ci := 2) (v := .ref q20) (ty := (.array .long)) (C := RX0) (T := TX0) (N := 5) hx hb hts (by decide +kernel) tyX0 tyX0_ok nmX0 hown hK hP hD hS 0 rfl rfl 2 (by decide +kernel) (hts (.fieldLink RX0 19 "Edgefloats$Row" "before" "[J") (by decide +kernel)) (fun _ h9 => h9) rfl hin rfl (by decide +kernel) rfl rfl (Nat.le_of_ble_eq_true rfl) dX0_init_22 (fun H locs hP hD hS => ?_)
  have hP : va_P (dC, dI) xCl [(h0, .inr (2, [.ref aw, .ref q12, .ref q20, .int 0, .int 0])), (q12, eA cy (fun _ => 0)), (q20, eA cy (fun _ => 0))] H := hP
  have hD : va_D A [(h0, .inr (2, [.ref aw, .ref q12, .ref q20, .int 0, .int 0])), (q12, eA cy (fun _ => 0)), (q20, eA cy (fun _ => 0))] := hD
  have hP := hP.sub (ws' := [(h0, eR aw q12 q20 0 0), (q12, eA cy (fun _ => 0)), (q20, eA cy (fun _ => 0))]) [0, 1, 2] rfl
  have hD := hD.sub (ws' := [(h0, eR aw q12 q20 0 0), (q12, eA cy (fun _ => 0)), (q20, eA cy (fun _ => 0))]) [0, 1, 2] (by decide +kernel) rfl
  refine W.widen (k := 2) (n := 16) (by omega) (by omega) ?_
  exact W.vret hx hb hr (fun t ht hW => ⟨⟨(q12, q20), rfl, trivial, by rw [ht]; exact hP, hD⟩, hS.F ht⟩) hS.2.2 dX0_init_25
theorem cl_X2_init_1 : ∀ w ∈ wsX2_init_r1, w ∈ wsX2_init := fun _ h => (List.mem_cons_of_mem _ (List.mem_append_left _ (List.mem_append_left _ (List.mem_append_left _ (List.mem_append_left _ h)))))
theorem cl_X2_init_2 : ∀ w ∈ wsX2_init_r2, w ∈ wsX2_init := fun _ h => (List.mem_cons_of_mem _ (List.mem_append_left _ (List.mem_append_left _ (List.mem_append_left _ (List.mem_append_right _ h)))))
theorem cl_X2_init_3 : ∀ w ∈ wsX00, w ∈ wsX2_init := fun _ h => (List.mem_cons_of_mem _ (List.mem_append_left _ (List.mem_append_left _ (List.mem_append_right _ h))))
theorem cl_X2_init_4 : ∀ w ∈ wsX10, w ∈ wsX2_init := fun _ h => (List.mem_cons_of_mem _ (List.mem_append_left _ (List.mem_append_right _ h)))
theorem cl_X2_init_5 : ∀ w ∈ wsX20, w ∈ wsX2_init := fun _ h => (List.mem_cons_of_mem _ (List.mem_append_right _ h))
set_option maxRecDepth 20000 in
theorem ggX2_init_X1_init : GoodIn wsX2_init wsX1_init := goodIn_sub (List.forall_mem_cons.mpr ⟨(cl_X2_init_1 _ (List.mem_of_getElem? (i := 15) rfl)), fun w h => (List.mem_append.mp h).elim ((List.forall_mem_cons.mpr ⟨(cl_X2_init_1 _ (List.mem_of_getElem? (i := 16) rfl)), List.forall_mem_cons.mpr ⟨(cl_X2_init_1 _ (List.mem_of_getElem? (i := 1) rfl)), List.forall_mem_cons.mpr ⟨(cl_X2_init_1 _ (List.mem_of_getElem? (i := 2) rfl)), List.forall_mem_cons.mpr ⟨(cl_X2_init_1 _ (List.mem_of_getElem? (i := 17) rfl)), List.forall_mem_cons.mpr ⟨(cl_X2_init_1 _ (List.mem_of_getElem? (i := 18) rfl)), List.forall_mem_cons.mpr ⟨(cl_X2_init_1 _ (List.mem_of_getElem? (i := 19) rfl)), List.forall_mem_cons.mpr ⟨(cl_X2_init_1 _ (List.mem_of_getElem? (i := 20) rfl)), List.forall_mem_cons.mpr ⟨(cl_X2_init_1 _ (List.mem_of_getElem? (i := 21) rfl)), List.forall_mem_cons.mpr ⟨(cl_X2_init_1 _ (List.mem_of_getElem? (i := 22) rfl)), List.forall_mem_cons.mpr ⟨(cl_X2_init_1 _ (List.mem_of_getElem? (i := 23) rfl)), fun _ h => absurd h List.not_mem_nil⟩⟩⟩⟩⟩⟩⟩⟩⟩⟩) w) ((cl_X2_init_4) w)⟩) (by decide +kernel)
set_option maxRecDepth 20000 in
theorem gX2_init_X1_init : GoodIn wsX2_init (wsX1_init) := ggX2_init_X1_init
set_option maxRecDepth 20000 in
theorem ggX2_init_X0_init : GoodIn wsX2_init wsX0_init := goodIn_sub (List.forall_mem_cons.mpr ⟨(cl_X2_init_2 _ (List.mem_of_getElem? (i := 2) rfl)), fun w h => (List.mem_append.mp h).elim ((List.forall_mem_cons.mpr ⟨(cl_X2_init_2 _ (List.mem_of_getElem? (i := 3) rfl)), List.forall_mem_cons.mpr ⟨(cl_X2_init_1 _ (List.mem_of_getElem? (i := 1) rfl)), List.forall_mem_cons.mpr ⟨(cl_X2_init_1 _ (List.mem_of_getElem? (i := 2) rfl)), List.forall_mem_cons.mpr ⟨(cl_X2_init_2 _ (List.mem_of_getElem? (i := 4) rfl)), List.forall_mem_cons.mpr ⟨(cl_X2_init_2 _ (List.mem_of_getElem? (i := 5) rfl)), List.forall_mem_cons.mpr ⟨(cl_X2_init_2 _ (List.mem_of_getElem? (i := 6) rfl)), List.forall_mem_cons.mpr ⟨(cl_X2_init_2 _ (List.mem_of_getElem? (i := 7) rfl)), fun _ h => absurd h List.not_mem_nil⟩⟩⟩⟩⟩⟩⟩) w) ((cl_X2_init_3) w)⟩) (by decide +kernel)
set_option maxRecDepth 20000 in
theorem gX2_init_X0_init : GoodIn wsX2_init (wsX0_init) := ggX2_init_X0_init
noncomputable def dz_p17_4 : List (Nat × Instr × Nat) := [(0, (.aload_n 0, 1)), (1, (.invokespecial 1, 3)), (4, (.aload_n 0, 1)), (5, (.new 7, 3)), (8, (.dup, 1)), (9, (.new 9, 3)), (12, (.dup, 1)), (13, (.bipush 11, 2)), (15, (.bipush 52, 2)), (17, (.ldc 13, 2)), (19, (.invokespecial 14, 3)), (22, (.invokespecial 17, 3)), (25, (.putfield 20, 3)), (28, (.aload_n 0, 1)), (29, (.new 7, 3)), (32, (.dup, 1)), (33, (.new 9, 3)), (36, (.dup, 1)), (37, (.bipush 8, 2)), (39, (.bipush 23, 2)), (41, (.ldc 24, 2)), (43, (.invokespecial 14, 3)), (46, (.invokespecial 17, 3)), (49, (.putfield 25, 3)), (52, (.return_, 1))]
theorem dy_p17_4 : dz_ok cX2_init dz_p17_4 = true := by decide +kernel
theorem dX2_init_0 : decode cX2_init 0 = .ok (.aload_n 0, 1) := dz_at (i := 0) dy_p17_4 rfl
theorem dX2_init_1 : decode cX2_init 1 = .ok (.invokespecial 1, 3) := dz_at (i := 1) dy_p17_4 rfl
theorem dX2_init_4 : decode cX2_init 4 = .ok (.aload_n 0, 1) := dz_at (i := 2) dy_p17_4 rfl
theorem dX2_init_5 : decode cX2_init 5 = .ok (.new 7, 3) := dz_at (i := 3) dy_p17_4 rfl
theorem dX2_init_8 : decode cX2_init 8 = .ok (.dup, 1) := dz_at (i := 4) dy_p17_4 rfl
theorem dX2_init_9 : decode cX2_init 9 = .ok (.new 9, 3) := dz_at (i := 5) dy_p17_4 rfl
theorem dX2_init_12 : decode cX2_init 12 = .ok (.dup, 1) := dz_at (i := 6) dy_p17_4 rfl
theorem dX2_init_13 : decode cX2_init 13 = .ok (.bipush 11, 2) := dz_at (i := 7) dy_p17_4 rfl
theorem dX2_init_15 : decode cX2_init 15 = .ok (.bipush 52, 2) := dz_at (i := 8) dy_p17_4 rfl
theorem dX2_init_17 : decode cX2_init 17 = .ok (.ldc 13, 2) := dz_at (i := 9) dy_p17_4 rfl
theorem dX2_init_19 : decode cX2_init 19 = .ok (.invokespecial 14, 3) := dz_at (i := 10) dy_p17_4 rfl
theorem dX2_init_22 : decode cX2_init 22 = .ok (.invokespecial 17, 3) := dz_at (i := 11) dy_p17_4 rfl
theorem dX2_init_25 : decode cX2_init 25 = .ok (.putfield 20, 3) := dz_at (i := 12) dy_p17_4 rfl
theorem dX2_init_28 : decode cX2_init 28 = .ok (.aload_n 0, 1) := dz_at (i := 13) dy_p17_4 rfl
theorem dX2_init_29 : decode cX2_init 29 = .ok (.new 7, 3) := dz_at (i := 14) dy_p17_4 rfl
theorem dX2_init_32 : decode cX2_init 32 = .ok (.dup, 1) := dz_at (i := 15) dy_p17_4 rfl
theorem dX2_init_33 : decode cX2_init 33 = .ok (.new 9, 3) := dz_at (i := 16) dy_p17_4 rfl
theorem dX2_init_36 : decode cX2_init 36 = .ok (.dup, 1) := dz_at (i := 17) dy_p17_4 rfl
theorem dX2_init_37 : decode cX2_init 37 = .ok (.bipush 8, 2) := dz_at (i := 18) dy_p17_4 rfl
theorem dX2_init_39 : decode cX2_init 39 = .ok (.bipush 23, 2) := dz_at (i := 19) dy_p17_4 rfl
theorem dX2_init_41 : decode cX2_init 41 = .ok (.ldc 24, 2) := dz_at (i := 20) dy_p17_4 rfl
theorem dX2_init_43 : decode cX2_init 43 = .ok (.invokespecial 14, 3) := dz_at (i := 21) dy_p17_4 rfl
theorem dX2_init_46 : decode cX2_init 46 = .ok (.invokespecial 17, 3) := dz_at (i := 22) dy_p17_4 rfl
theorem dX2_init_49 : decode cX2_init 49 = .ok (.putfield 25, 3) := dz_at (i := 23) dy_p17_4 rfl
theorem dX2_init_52 : decode cX2_init 52 = .ok (.return_, 1) := dz_at (i := 24) dy_p17_4 rfl
set_option maxHeartbeats 4000000 in
set_option maxRecDepth 100000 in
theorem k_X2_init (l : Launch) (dC : Nat → ClassId) (dI : Nat → Nat → Nat) (cy : ClassId) (h0 : Nat) (sz N : Nat)  : Met l yX2_init wsX2_init ({ frames := 2, cells := 8, slots := 56, locals := 53 }) (va_Pc [.ref h0] (xM (dC, dI) xCl [(h0, .inr (4, [.null, .null, .int 0]))] [(cy, .long)] sz N)) (va_Qv (fun (_ : Nat × Nat × Nat × Nat × Nat × Nat × Nat × Nat) => True) (fun (u : Nat × Nat × Nat × Nat × Nat × Nat × Nat × Nat) t => match u with | (u0, u1, u2, u3, u4, u5, u6, u7) => xW (dC, dI) xCl [(h0, eE u0 u4 0), (u0, eR u1 u2 u3 0 0), (u1, eW true), (u2, eA cy (fun _ => 0)), (u3, eA cy (fun _ => 0)), (u4, eR u5 u6 u7 0 0), (u5, eW false), (u6, eA cy (fun _ => 0)), (u7, eA cy (fun _ => 0))] (va_A [(h0, .inr (4, [.null, .null, .int 0]))] sz) t) (va_A [(h0, .inr (4, [.null, .null, .int 0]))] sz)) 8 56 (va_A [(h0, .inr (4, [.null, .null, .int 0]))] sz) := by
  refine Met.ofW (cc := cX2_init) (maxL := 1) (ret := none) (by decide +kernel) rfl ?_
  intro p e s m args below meth c s₁ B hml hv
  obtain ⟨rfl, hsz, hP, hK, hD0, hN, hG⟩ := hv
  have hx := B.exec
  have hb := B.bytes
  have hr := B.returns
  have hts := atoms_spec (ws := wsX2_init) B.pre
  have hown : s.vm.findClass RX2 = some m.cls := findClass_of_methodNamed B.named
  have hlocks := B.notSynchronized
  have hin : meth.name = "<init>" := (name_of_methodNamed B.named B.method).1
  subst hsz
  have hAN : ∀ q, va_A [(h0, .inr (4, [.null, .null, .int 0]))] s.heap.size q → N ≤ q := xA_N hD0 hN
  have hD := hD0.self (sz := s.heap.size)
  generalize hAe : va_A [(h0, .inr (4, [.null, .null, .int 0]))] s.heap.size = A at hD hAN ⊢
  have hA : ∀ q : Nat, s.heap.size ≤ q → A q := fun q h => by rw [← hAe]; exact Or.inr h
  have hS : va_S A s.heap s.heap [] := va_S.rf
  have hP : va_P (dC, dI) xCl [(h0, .inr (4, [.null, .null, .int 0]))] s.heap := hP
  have hl := lv_entry ([.ref h0]) (n := 1) (Nat.le_of_ble_eq_true rfl)
  rw [lg_entry_eq]
  generalize (lg_sl ([.ref h0]) ++ List.replicate (1 - (lg_sl ([.ref h0])).length) Slot.unset).toArray = ls at hl ⊢
  have hl : lv_has ls 1 [(0, .ref h0)] := hl
  refine lv_aload_n hx hb dX2_init_0 rfl (lv_at hl 0 rfl) ?_
  refine W.objInit hx hb hown (hts (.methodLink RX2 1 objectInit) (by decide +kernel)) (hts (.instanceMethod objectInit) (by decide +kernel)) (hts (.code objectInit ⟨#[0xb1]⟩ 1 none) (by decide +kernel)) rfl (by rw [hml]; exact hl.1) rfl dX2_init_1 (Nat.le_of_ble_eq_true rfl) (Nat.le_of_ble_eq_true rfl) ?_
  refine W.eq (g2 := F0 m 4 ls []) rfl ?_
  refine lv_aload_n hx hb dX2_init_4 rfl (lv_at hl 0 rfl) ?_
  refine va_new (ci := 2) (fs := [.null, .null, .null, .int 0, .int 0]) (C := RX0) (T := TX0) (N := 5) hx hb hts (by decide +kernel) tyX0 tyX0_ok hown (hts (.classLink RX2 7 RX0) (by decide +kernel)) (hts (.instantiable RX0 5) (by decide +kernel)) (hts (.initialized RX0) (by decide +kernel)) hK hP hD hS hA rfl (fun j hj => by rcases (show j = 0 ∨ j = 1 ∨ j = 2 ∨ j = 3 ∨ j = 4 by omega) with rfl | rfl | rfl | rfl | rfl <;> rfl) (Nat.le_of_ble_eq_true rfl) (Nat.le_of_ble_eq_true rfl) dX2_init_5 (fun q5 H hP hD hS => ?_)
  have hP : va_P (dC, dI) xCl [(h0, .inr (4, [.null, .null, .int 0])), (q5, .inr (2, [.null, .null, .null, .int 0, .int 0]))] H := hP
  have hD : va_D A [(h0, .inr (4, [.null, .null, .int 0])), (q5, .inr (2, [.null, .null, .null, .int 0, .int 0]))] := hD
  refine lv_dup hx hb dX2_init_8 rfl ?_
  refine va_new (ci := 3) (fs := [.int 0, .int 0, .long 0, .long 0, .long 0, .int 0, .int 0]) (C := RX1) (T := TX1) (N := 7) hx hb hts (by decide +kernel) tyX1 tyX1_ok hown (hts (.classLink RX2 9 RX1) (by decide +kernel)) (hts (.instantiable RX1 7) (by decide +kernel)) (hts (.initialized RX1) (by decide +kernel)) hK hP hD hS hA rfl (fun j hj => by rcases (show j = 0 ∨ j = 1 ∨ j = 2 ∨ j = 3 ∨ j = 4 ∨ j = 5 ∨ j = 6 by omega) with rfl | rfl | rfl | rfl | rfl | rfl | rfl <;> rfl) (Nat.le_of_ble_eq_true rfl) (Nat.le_of_ble_eq_true rfl) dX2_init_9 (fun q9 H hP hD hS => ?_)
  have hP : va_P (dC, dI) xCl [(h0, .inr (4, [.null, .null, .int 0])), (q5, .inr (2, [.null, .null, .null, .int 0, .int 0])), (q9, .inr (3, [.int 0, .int 0, .long 0, .long 0, .long 0, .int 0, .int 0]))] H := hP
  have hD : va_D A [(h0, .inr (4, [.null, .null, .int 0])), (q5, .inr (2, [.null, .null, .null, .int 0, .int 0])), (q9, .inr (3, [.int 0, .int 0, .long 0, .long 0, .long 0, .int 0, .int 0]))] := hD
  refine lv_dup hx hb dX2_init_12 rfl ?_
  refine lv_bipush (v := 11) hx hb dX2_init_13 (by decide +kernel) ?_
  refine lv_bipush (v := 52) hx hb dX2_init_15 (by decide +kernel) ?_
  refine lv_ldc (own := RX2) (index := 13) (v := 1000000000) hx hb hown (hts (.constant RX2 13 (1000000000)) (by decide +kernel)) dX2_init_17 ?_
  have hPc := hP.sub (ws' := [(q9, .inr (3, [.int 0, .int 0, .long 0, .long 0, .long 0, .int 0, .int 0]))]) [2] rfl
  have hDc := hD.sub (ws' := [(q9, .inr (3, [.int 0, .int 0, .long 0, .long 0, .long 0, .int 0, .int 0]))]) [2] (by decide +kernel) rfl
  have hKc := hK.sub (tys' := []) [] rfl
  have hFc := va_free (wc := [(q9, .inr (3, [.int 0, .int 0, .long 0, .long 0, .long 0, .int 0, .int 0]))]) hD hS hA [2] rfl
  refine va_callv (va_runI (As := [.int 11, .int 52, .int 1000000000]) (rest := [.ref q9, .ref q5, .ref q5, .ref h0]) ⟨hx, hb, hml, hown, hts⟩ (k_X1_init l dC dI q9 H.size N true) (cwI 3 hts gX2_init_X1_init rfl rfl rfl (hts (.initialized RX1) (by decide +kernel)) (hts (.methodLink RX2 14 yX1_init) (by decide +kernel)) (hts (.instanceMethod yX1_init) (by decide +kernel)) rfl (by decide +kernel) ⟨Nat.le_of_ble_eq_true rfl, Nat.le_of_ble_eq_true rfl⟩) (xM.preS (As := .ref q9 :: [.int 11, .int 52, .int 1000000000]) hKc hPc hDc hAN (Nat.le_trans hN hS.1) (hG.kept hS hAN)) rfl rfl hl.1 rfl (lv_room (Nat.le_of_ble_eq_true rfl)) dX2_init_19 ⟨Nat.le_of_ble_eq_true rfl, Nat.le_of_ble_eq_true rfl⟩) hS (fun q _ h => hFc q h) hFc (fun u t H locs ht hvm hw hB hz hk hS => ?_)
  obtain ⟨hP1, hD1⟩ := hB
  rw [ht] at hP1
  obtain ⟨hP, hD⟩ := va_join (wr := [(h0, .inr (4, [.null, .null, .int 0])), (q5, .inr (2, [.null, .null, .null, .int 0, .int 0]))]) (w1 := [(q9, eW true)]) hP hD [2] [0, 1] rfl rfl (by decide +kernel) (by decide +kernel) hk hFc hP1 hD1
  have hP : va_P (dC, dI) xCl [(h0, .inr (4, [.null, .null, .int 0])), (q5, .inr (2, [.null, .null, .null, .int 0, .int 0])), (q9, eW true)] H := hP
  have hD : va_D A [(h0, .inr (4, [.null, .null, .int 0])), (q5, .inr (2, [.null, .null, .null, .int 0, .int 0])), (q9, eW true)] := hD
  have hPc := hP.sub (ws' := [(q5, .inr (2, [.null, .null, .null, .int 0, .int 0]))]) [1] rfl
  have hDc := hD.sub (ws' := [(q5, .inr (2, [.null, .null, .null, .int 0, .int 0]))]) [1] (by decide +kernel) rfl
  have hKc := hK.sub (tys' := [(cy, .long)]) [0] rfl
  have hFc := va_free (wc := [(q5, .inr (2, [.null, .null, .null, .int 0, .int 0]))]) hD hS hA [1] rfl
  refine va_callv (va_runI (As := [.ref q9]) (rest := [.ref q5, .ref h0]) ⟨hx, hb, hml, hown, hts⟩ (k_X0_init l dC dI cy q5 H.size N q9) (cwI 1 hts gX2_init_X0_init rfl rfl rfl (hts (.initialized RX0) (by decide +kernel)) (hts (.methodLink RX2 17 yX0_init) (by decide +kernel)) (hts (.instanceMethod yX0_init) (by decide +kernel)) rfl (by decide +kernel) ⟨Nat.le_of_ble_eq_true rfl, Nat.le_of_ble_eq_true rfl⟩) (xM.preS (As := .ref q5 :: [.ref q9]) hKc hPc hDc hAN (Nat.le_trans hN hS.1) (hG.kept hS hAN)) rfl rfl hl.1 rfl (lv_room (Nat.le_of_ble_eq_true rfl)) dX2_init_22 ⟨Nat.le_of_ble_eq_true rfl, Nat.le_of_ble_eq_true rfl⟩) hS (fun q _ h => hFc q h) hFc (fun u t H locs ht hvm hw hB hz hk hS => ?_)
  obtain ⟨n22_z0, n22_z1⟩ := u
  obtain ⟨hP1, hD1⟩ := hB
  rw [ht] at hP1
  obtain ⟨hP, hD⟩ := va_join (wr := [(h0, .inr (4, [.null, .null, .int 0])), (q9, eW true)]) (w1 := [(q5, eR q9 n22_z0 n22_z1 0 0), (n22_z0, eA cy (fun _ => 0)), (n22_z1, eA cy (fun _ => 0))]) hP hD [1] [0, 2] rfl rfl (by decide +kernel) (by decide +kernel) hk hFc hP1 hD1
  have hP : va_P (dC, dI) xCl [(h0, .inr (4, [.null, .null, .int 0])), (q9, eW true), (q5, eR q9 n22_z0 n22_z1 0 0), (n22_z0, eA cy (fun _ => 0)), (n22_z1, eA cy (fun _ => 0))] H := hP
  have hD : va_D A [(h0, .inr (4, [.null, .null, .int 0])), (q9, eW true), (q5, eR q9 n22_z0 n22_z1 0 0), (n22_z0, eA cy (fun _ => 0)), (n22_z1, eA cy (fun _ => 0))] := hD
  refine va_putF (D := (dC, dI)) (ci := 4) (v := .ref q5) (ty := (.object "Edgefloats$Row")) (C := RX2) (T := TX2) (N := 3) hx hb hts (by decide +kernel) tyX2 tyX2_ok nmX2 hown hK hP hD hS 0 rfl rfl 0 (by decide +kernel) (hts (.fieldLink RX2 20 "Edgefloats" "wide" "LEdgefloats$Row;") (by decide +kernel)) (fun _ h9 => h9) rfl hin rfl (by decide +kernel) rfl rfl (Nat.le_of_ble_eq_true rfl) dX2_init_25 (fun H locs hP hD hS => ?_)
  have hP : va_P (dC, dI) xCl [(h0, .inr (4, [.ref q5, .null, .int 0])), (q9, eW true), (q5, eR q9 n22_z0 n22_z1 0 0), (n22_z0, eA cy (fun _ => 0)), (n22_z1, eA cy (fun _ => 0))] H := hP
  have hD : va_D A [(h0, .inr (4, [.ref q5, .null, .int 0])), (q9, eW true), (q5, eR q9 n22_z0 n22_z1 0 0), (n22_z0, eA cy (fun _ => 0)), (n22_z1, eA cy (fun _ => 0))] := hD
  refine lv_aload_n hx hb dX2_init_28 rfl (lv_at hl 0 rfl) ?_
  refine va_new (ci := 2) (fs := [.null, .null, .null, .int 0, .int 0]) (C := RX0) (T := TX0) (N := 5) hx hb hts (by decide +kernel) tyX0 tyX0_ok hown (hts (.classLink RX2 7 RX0) (by decide +kernel)) (hts (.instantiable RX0 5) (by decide +kernel)) (hts (.initialized RX0) (by decide +kernel)) hK hP hD hS hA rfl (fun j hj => by rcases (show j = 0 ∨ j = 1 ∨ j = 2 ∨ j = 3 ∨ j = 4 by omega) with rfl | rfl | rfl | rfl | rfl <;> rfl) (Nat.le_of_ble_eq_true rfl) (Nat.le_of_ble_eq_true rfl) dX2_init_29 (fun q29 H hP hD hS => ?_)
  have hP : va_P (dC, dI) xCl [(h0, .inr (4, [.ref q5, .null, .int 0])), (q9, eW true), (q5, eR q9 n22_z0 n22_z1 0 0), (n22_z0, eA cy (fun _ => 0)), (n22_z1, eA cy (fun _ => 0)), (q29, .inr (2, [.null, .null, .null, .int 0, .int 0]))] H := hP
  have hD : va_D A [(h0, .inr (4, [.ref q5, .null, .int 0])), (q9, eW true), (q5, eR q9 n22_z0 n22_z1 0 0), (n22_z0, eA cy (fun _ => 0)), (n22_z1, eA cy (fun _ => 0)), (q29, .inr (2, [.null, .null, .null, .int 0, .int 0]))] := hD
  refine lv_dup hx hb dX2_init_32 rfl ?_
  refine va_new (ci := 3) (fs := [.int 0, .int 0, .long 0, .long 0, .long 0, .int 0, .int 0]) (C := RX1) (T := TX1) (N := 7) hx hb hts (by decide +kernel) tyX1 tyX1_ok hown (hts (.classLink RX2 9 RX1) (by decide +kernel)) (hts (.instantiable RX1 7) (by decide +kernel)) (hts (.initialized RX1) (by decide +kernel)) hK hP hD hS hA rfl (fun j hj => by rcases (show j = 0 ∨ j = 1 ∨ j = 2 ∨ j = 3 ∨ j = 4 ∨ j = 5 ∨ j = 6 by omega) with rfl | rfl | rfl | rfl | rfl | rfl | rfl <;> rfl) (Nat.le_of_ble_eq_true rfl) (Nat.le_of_ble_eq_true rfl) dX2_init_33 (fun q33 H hP hD hS => ?_)
  have hP : va_P (dC, dI) xCl [(h0, .inr (4, [.ref q5, .null, .int 0])), (q9, eW true), (q5, eR q9 n22_z0 n22_z1 0 0), (n22_z0, eA cy (fun _ => 0)), (n22_z1, eA cy (fun _ => 0)), (q29, .inr (2, [.null, .null, .null, .int 0, .int 0])), (q33, .inr (3, [.int 0, .int 0, .long 0, .long 0, .long 0, .int 0, .int 0]))] H := hP
  have hD : va_D A [(h0, .inr (4, [.ref q5, .null, .int 0])), (q9, eW true), (q5, eR q9 n22_z0 n22_z1 0 0), (n22_z0, eA cy (fun _ => 0)), (n22_z1, eA cy (fun _ => 0)), (q29, .inr (2, [.null, .null, .null, .int 0, .int 0])), (q33, .inr (3, [.int 0, .int 0, .long 0, .long 0, .long 0, .int 0, .int 0]))] := hD
  refine lv_dup hx hb dX2_init_36 rfl ?_
  refine lv_bipush (v := 8) hx hb dX2_init_37 (by decide +kernel) ?_
  refine lv_bipush (v := 23) hx hb dX2_init_39 (by decide +kernel) ?_
  refine lv_ldc (own := RX2) (index := 24) (v := 16000000) hx hb hown (hts (.constant RX2 24 (16000000)) (by decide +kernel)) dX2_init_41 ?_
  have hPc := hP.sub (ws' := [(q33, .inr (3, [.int 0, .int 0, .long 0, .long 0, .long 0, .int 0, .int 0]))]) [6] rfl
  have hDc := hD.sub (ws' := [(q33, .inr (3, [.int 0, .int 0, .long 0, .long 0, .long 0, .int 0, .int 0]))]) [6] (by decide +kernel) rfl
  have hKc := hK.sub (tys' := []) [] rfl
  have hFc := va_free (wc := [(q33, .inr (3, [.int 0, .int 0, .long 0, .long 0, .long 0, .int 0, .int 0]))]) hD hS hA [6] rfl
  refine va_callv (va_runI (As := [.int 8, .int 23, .int 16000000]) (rest := [.ref q33, .ref q29, .ref q29, .ref h0]) ⟨hx, hb, hml, hown, hts⟩ (k_X1_init l dC dI q33 H.size N false) (cwI 3 hts gX2_init_X1_init rfl rfl rfl (hts (.initialized RX1) (by decide +kernel)) (hts (.methodLink RX2 14 yX1_init) (by decide +kernel)) (hts (.instanceMethod yX1_init) (by decide +kernel)) rfl (by decide +kernel) ⟨Nat.le_of_ble_eq_true rfl, Nat.le_of_ble_eq_true rfl⟩) (xM.preS (As := .ref q33 :: [.int 8, .int 23, .int 16000000]) hKc hPc hDc hAN (Nat.le_trans hN hS.1) (hG.kept hS hAN)) rfl rfl hl.1 rfl (lv_room (Nat.le_of_ble_eq_true rfl)) dX2_init_43 ⟨Nat.le_of_ble_eq_true rfl, Nat.le_of_ble_eq_true rfl⟩) hS (fun q _ h => hFc q h) hFc (fun u t H locs ht hvm hw hB hz hk hS => ?_)
  obtain ⟨hP1, hD1⟩ := hB
  rw [ht] at hP1
  obtain ⟨hP, hD⟩ := va_join (wr := [(h0, .inr (4, [.ref q5, .null, .int 0])), (q9, eW true), (q5, eR q9 n22_z0 n22_z1 0 0), (n22_z0, eA cy (fun _ => 0)), (n22_z1, eA cy (fun _ => 0)), (q29, .inr (2, [.null, .null, .null, .int 0, .int 0]))]) (w1 := [(q33, eW false)]) hP hD [6] [0, 1, 2, 3, 4, 5] rfl rfl (by decide +kernel) (by decide +kernel) hk hFc hP1 hD1
  have hP : va_P (dC, dI) xCl [(h0, .inr (4, [.ref q5, .null, .int 0])), (q9, eW true), (q5, eR q9 n22_z0 n22_z1 0 0), (n22_z0, eA cy (fun _ => 0)), (n22_z1, eA cy (fun _ => 0)), (q29, .inr (2, [.null, .null, .null, .int 0, .int 0])), (q33, eW false)] H := hP
  have hD : va_D A [(h0, .inr (4, [.ref q5, .null, .int 0])), (q9, eW true), (q5, eR q9 n22_z0 n22_z1 0 0), (n22_z0, eA cy (fun _ => 0)), (n22_z1, eA cy (fun _ => 0)), (q29, .inr (2, [.null, .null, .null, .int 0, .int 0])), (q33, eW false)] := hD
  have hPc := hP.sub (ws' := [(q29, .inr (2, [.null, .null, .null, .int 0, .int 0]))]) [5] rfl
  have hDc := hD.sub (ws' := [(q29, .inr (2, [.null, .null, .null, .int 0, .int 0]))]) [5] (by decide +kernel) rfl
  have hKc := hK.sub (tys' := [(cy, .long)]) [0] rfl
  have hFc := va_free (wc := [(q29, .inr (2, [.null, .null, .null, .int 0, .int 0]))]) hD hS hA [5] rfl
  refine va_callv (va_runI (As := [.ref q33]) (rest := [.ref q29, .ref h0]) ⟨hx, hb, hml, hown, hts⟩ (k_X0_init l dC dI cy q29 H.size N q33) (cwI 1 hts gX2_init_X0_init rfl rfl rfl (hts (.initialized RX0) (by decide +kernel)) (hts (.methodLink RX2 17 yX0_init) (by decide +kernel)) (hts (.instanceMethod yX0_init) (by decide +kernel)) rfl (by decide +kernel) ⟨Nat.le_of_ble_eq_true rfl, Nat.le_of_ble_eq_true rfl⟩) (xM.preS (As := .ref q29 :: [.ref q33]) hKc hPc hDc hAN (Nat.le_trans hN hS.1) (hG.kept hS hAN)) rfl rfl hl.1 rfl (lv_room (Nat.le_of_ble_eq_true rfl)) dX2_init_46 ⟨Nat.le_of_ble_eq_true rfl, Nat.le_of_ble_eq_true rfl⟩) hS (fun q _ h => hFc q h) hFc (fun u t H locs ht hvm hw hB hz hk hS => ?_)
  obtain ⟨n46_z0, n46_z1⟩ := u
  obtain ⟨hP1, hD1⟩ := hB
  rw [ht] at hP1
  obtain ⟨hP, hD⟩ := va_join (wr := [(h0, .inr (4, [.ref q5, .null, .int 0])), (q9, eW true), (q5, eR q9 n22_z0 n22_z1 0 0), (n22_z0, eA cy (fun _ => 0)), (n22_z1, eA cy (fun _ => 0)), (q33, eW false)]) (w1 := [(q29, eR q33 n46_z0 n46_z1 0 0), (n46_z0, eA cy (fun _ => 0)), (n46_z1, eA cy (fun _ => 0))]) hP hD [5] [0, 1, 2, 3, 4, 6] rfl rfl (by decide +kernel) (by decide +kernel) hk hFc hP1 hD1
  have hP : va_P (dC, dI) xCl [(h0, .inr (4, [.ref q5, .null, .int 0])), (q9, eW true), (q5, eR q9 n22_z0 n22_z1 0 0), (n22_z0, eA cy (fun _ => 0)), (n22_z1, eA cy (fun _ => 0)), (q33, eW false), (q29, eR q33 n46_z0 n46_z1 0 0), (n46_z0, eA cy (fun _ => 0)), (n46_z1, eA cy (fun _ => 0))] H := hP
  have hD : va_D A [(h0, .inr (4, [.ref q5, .null, .int 0])), (q9, eW true), (q5, eR q9 n22_z0 n22_z1 0 0), (n22_z0, eA cy (fun _ => 0)), (n22_z1, eA cy (fun _ => 0)), (q33, eW false), (q29, eR q33 n46_z0 n46_z1 0 0), (n46_z0, eA cy (fun _ => 0)), (n46_z1, eA cy (fun _ => 0))] := hD
  refine va_putF (D := (dC, dI)) (ci := 4) (v := .ref q29) (ty := (.object "Edgefloats$Row")) (C := RX2) (T := TX2) (N := 3) hx hb hts (by decide +kernel) tyX2 tyX2_ok nmX2 hown hK hP hD hS 0 rfl rfl 1 (by decide +kernel) (hts (.fieldLink RX2 25 "Edgefloats" "narrow" "LEdgefloats$Row;") (by decide +kernel)) (fun _ h9 => h9) rfl hin rfl (by decide +kernel) rfl rfl (Nat.le_of_ble_eq_true rfl) dX2_init_49 (fun H locs hP hD hS => ?_)
  have hP : va_P (dC, dI) xCl [(h0, .inr (4, [.ref q5, .ref q29, .int 0])), (q9, eW true), (q5, eR q9 n22_z0 n22_z1 0 0), (n22_z0, eA cy (fun _ => 0)), (n22_z1, eA cy (fun _ => 0)), (q33, eW false), (q29, eR q33 n46_z0 n46_z1 0 0), (n46_z0, eA cy (fun _ => 0)), (n46_z1, eA cy (fun _ => 0))] H := hP
  have hD : va_D A [(h0, .inr (4, [.ref q5, .ref q29, .int 0])), (q9, eW true), (q5, eR q9 n22_z0 n22_z1 0 0), (n22_z0, eA cy (fun _ => 0)), (n22_z1, eA cy (fun _ => 0)), (q33, eW false), (q29, eR q33 n46_z0 n46_z1 0 0), (n46_z0, eA cy (fun _ => 0)), (n46_z1, eA cy (fun _ => 0))] := hD
  have hP := hP.sub (ws' := [(h0, eE q5 q29 0), (q5, eR q9 n22_z0 n22_z1 0 0), (q9, eW true), (n22_z0, eA cy (fun _ => 0)), (n22_z1, eA cy (fun _ => 0)), (q29, eR q33 n46_z0 n46_z1 0 0), (q33, eW false), (n46_z0, eA cy (fun _ => 0)), (n46_z1, eA cy (fun _ => 0))]) [0, 2, 1, 3, 4, 6, 5, 7, 8] rfl
  have hD := hD.sub (ws' := [(h0, eE q5 q29 0), (q5, eR q9 n22_z0 n22_z1 0 0), (q9, eW true), (n22_z0, eA cy (fun _ => 0)), (n22_z1, eA cy (fun _ => 0)), (q29, eR q33 n46_z0 n46_z1 0 0), (q33, eW false), (n46_z0, eA cy (fun _ => 0)), (n46_z1, eA cy (fun _ => 0))]) [0, 2, 1, 3, 4, 6, 5, 7, 8] (by decide +kernel) rfl
  refine W.widen (k := 8) (n := 56) (by omega) (by omega) ?_
  exact W.vret hx hb hr (fun t ht hW => ⟨⟨(q5, q9, n22_z0, n22_z1, q29, q33, n46_z0, n46_z1), rfl, trivial, by rw [ht]; exact hP, hD⟩, hS.F ht⟩) hS.2.2 dX2_init_52
noncomputable def dz_p17_5 : List (Nat × Instr × Nat) := [(0, (.aload_n 0, 1)), (1, (.invokespecial 3, 3)), (4, (.aload_n 0, 1)), (5, (.bipush 8, 2)), (7, (.newarray .long, 2)), (9, (.putfield 9, 3)), (12, (.aload_n 0, 1)), (13, (.iload_n 1, 1)), (14, (.putfield 15, 3)), (17, (.aload_n 0, 1)), (18, (.iload_n 2, 1)), (19, (.putfield 19, 3)), (22, (.aload_n 0, 1)), (23, (.lload_n 3, 1)), (24, (.putfield 22, 3)), (27, (.return_, 1))]
theorem dy_p17_5 : dz_ok cX4_init dz_p17_5 = true := by decide +kernel
theorem dX4_init_0 : decode cX4_init 0 = .ok (.aload_n 0, 1) := dz_at (i := 0) dy_p17_5 rfl
theorem dX4_init_1 : decode cX4_init 1 = .ok (.invokespecial 3, 3) := dz_at (i := 1) dy_p17_5 rfl
theorem dX4_init_4 : decode cX4_init 4 = .ok (.aload_n 0, 1) := dz_at (i := 2) dy_p17_5 rfl
theorem dX4_init_5 : decode cX4_init 5 = .ok (.bipush 8, 2) := dz_at (i := 3) dy_p17_5 rfl
theorem dX4_init_7 : decode cX4_init 7 = .ok (.newarray .long, 2) := dz_at (i := 4) dy_p17_5 rfl
theorem dX4_init_9 : decode cX4_init 9 = .ok (.putfield 9, 3) := dz_at (i := 5) dy_p17_5 rfl
theorem dX4_init_12 : decode cX4_init 12 = .ok (.aload_n 0, 1) := dz_at (i := 6) dy_p17_5 rfl
theorem dX4_init_13 : decode cX4_init 13 = .ok (.iload_n 1, 1) := dz_at (i := 7) dy_p17_5 rfl
theorem dX4_init_14 : decode cX4_init 14 = .ok (.putfield 15, 3) := dz_at (i := 8) dy_p17_5 rfl
theorem dX4_init_17 : decode cX4_init 17 = .ok (.aload_n 0, 1) := dz_at (i := 9) dy_p17_5 rfl
theorem dX4_init_18 : decode cX4_init 18 = .ok (.iload_n 2, 1) := dz_at (i := 10) dy_p17_5 rfl
theorem dX4_init_19 : decode cX4_init 19 = .ok (.putfield 19, 3) := dz_at (i := 11) dy_p17_5 rfl
theorem dX4_init_22 : decode cX4_init 22 = .ok (.aload_n 0, 1) := dz_at (i := 12) dy_p17_5 rfl
theorem dX4_init_23 : decode cX4_init 23 = .ok (.lload_n 3, 1) := dz_at (i := 13) dy_p17_5 rfl
theorem dX4_init_24 : decode cX4_init 24 = .ok (.putfield 22, 3) := dz_at (i := 14) dy_p17_5 rfl
theorem dX4_init_27 : decode cX4_init 27 = .ok (.return_, 1) := dz_at (i := 15) dy_p17_5 rfl
set_option maxHeartbeats 4000000 in
set_option maxRecDepth 100000 in
theorem k_X4_init (l : Launch) (dC : Nat → ClassId) (dI : Nat → Nat → Nat) (cy : ClassId) (h0 : Nat) (sz N : Nat) (w : Bool) : Met l yX4_init wsX4_init ({ frames := 1, cells := 1, slots := 8, locals := 30 }) (va_Pc [.ref h0, .int (mEx w), .int (mFr w), .long (mMo w)] (xM (dC, dI) xCl [(h0, .inr (6, [.int 0, .int 0, .long 0, .null, .int 0]))] [(cy, .long)] sz N)) (va_Qv (fun (_ : Nat) => True) (fun (u : Nat) t => match u with | (u0) => xW (dC, dI) xCl [(h0, eMR w u0 0), (u0, eA cy (fun _ => 0))] (va_A [(h0, .inr (6, [.int 0, .int 0, .long 0, .null, .int 0]))] sz) t) (va_A [(h0, .inr (6, [.int 0, .int 0, .long 0, .null, .int 0]))] sz)) 1 8 (va_A [(h0, .inr (6, [.int 0, .int 0, .long 0, .null, .int 0]))] sz) := by
  refine Met.ofW (cc := cX4_init) (maxL := 5) (ret := none) (by decide +kernel) rfl ?_
  intro p e s m args below meth c s₁ B hml hv
  obtain ⟨rfl, hsz, hP, hK, hD0, hN, hG⟩ := hv
  have hx := B.exec
  have hb := B.bytes
  have hr := B.returns
  have hts := atoms_spec (ws := wsX4_init) B.pre
  have hown : s.vm.findClass RX4 = some m.cls := findClass_of_methodNamed B.named
  have hlocks := B.notSynchronized
  have hin : meth.name = "<init>" := (name_of_methodNamed B.named B.method).1
  subst hsz
  have hAN : ∀ q, va_A [(h0, .inr (6, [.int 0, .int 0, .long 0, .null, .int 0]))] s.heap.size q → N ≤ q := xA_N hD0 hN
  have hD := hD0.self (sz := s.heap.size)
  generalize hAe : va_A [(h0, .inr (6, [.int 0, .int 0, .long 0, .null, .int 0]))] s.heap.size = A at hD hAN ⊢
  have hA : ∀ q : Nat, s.heap.size ≤ q → A q := fun q h => by rw [← hAe]; exact Or.inr h
  have hS : va_S A s.heap s.heap [] := va_S.rf
  have hP : va_P (dC, dI) xCl [(h0, .inr (6, [.int 0, .int 0, .long 0, .null, .int 0]))] s.heap := hP
  have hl := lv_entry ([.ref h0, .int (mEx w), .int (mFr w), .long (mMo w)]) (n := 5) (Nat.le_of_ble_eq_true rfl)
  rw [lg_entry_eq]
  generalize (lg_sl ([.ref h0, .int (mEx w), .int (mFr w), .long (mMo w)]) ++ List.replicate (5 - (lg_sl ([.ref h0, .int (mEx w), .int (mFr w), .long (mMo w)])).length) Slot.unset).toArray = ls at hl ⊢
  have hl : lv_has ls 5 [(0, .ref h0), (1, .int (mEx w)), (2, .int (mFr w)), (3, .long (mMo w))] := hl
  refine lv_aload_n hx hb dX4_init_0 rfl (lv_at hl 0 rfl) ?_
  refine W.objInit hx hb hown (hts (.methodLink RX4 3 objectInit) (by decide +kernel)) (hts (.instanceMethod objectInit) (by decide +kernel)) (hts (.code objectInit ⟨#[0xb1]⟩ 1 none) (by decide +kernel)) rfl (by rw [hml]; exact hl.1) rfl dX4_init_1 (Nat.le_of_ble_eq_true rfl) (Nat.le_of_ble_eq_true rfl) ?_
  refine W.eq (g2 := F0 m 4 ls []) rfl ?_
  refine lv_aload_n hx hb dX4_init_4 rfl (lv_at hl 0 rfl) ?_
  refine lv_bipush (v := 8) hx hb dX4_init_5 (by decide +kernel) ?_
  refine va_newa (atype := .long) (a0 := (8, .inr (.inl (fun _ => 0)))) (N' := 8) hx hb (hts (.arrayClass .long) (by decide +kernel)) rfl hK hP hD hS hA (fun cA => rfl) (by decide +kernel) (by decide +kernel) (by decide +kernel) (Nat.le_of_ble_eq_true rfl) (Nat.le_of_ble_eq_true rfl) dX4_init_7 (fun q7 cA H hK9 hP hD hS => ?_)
  have hcA : cA = cy := Option.some.inj (((hK9.2 1 _ rfl).2.symm).trans (hK.2 0 _ rfl).2)
  rw [hcA] at hP hD
  have hP : va_P (dC, dI) xCl [(h0, .inr (6, [.int 0, .int 0, .long 0, .null, .int 0])), (q7, eA cy (fun _ => 0))] H := hP
  have hD : va_D A [(h0, .inr (6, [.int 0, .int 0, .long 0, .null, .int 0])), (q7, eA cy (fun _ => 0))] := hD
  refine va_putF (D := (dC, dI)) (ci := 6) (v := .ref q7) (ty := (.array .long)) (C := RX4) (T := TX4) (N := 5) hx hb hts (by decide +kernel) tyX4 tyX4_ok nmX4 hown hK hP hD hS 0 rfl rfl 3 (by decide +kernel) (hts (.fieldLink RX4 9 "EdgefloatsModel$Row" "cells" "[J") (by decide +kernel)) (fun _ h9 => h9) rfl hin rfl (by decide +kernel) rfl rfl (Nat.le_of_ble_eq_true rfl) dX4_init_9 (fun H locs hP hD hS => ?_)
  have hP : va_P (dC, dI) xCl [(h0, .inr (6, [.int 0, .int 0, .long 0, .ref q7, .int 0])), (q7, eA cy (fun _ => 0))] H := hP
  have hD : va_D A [(h0, .inr (6, [.int 0, .int 0, .long 0, .ref q7, .int 0])), (q7, eA cy (fun _ => 0))] := hD
  refine lv_aload_n hx hb dX4_init_12 rfl (lv_at hl 0 rfl) ?_
  refine lv_iload_n hx hb dX4_init_13 rfl (lv_at hl 1 rfl) ?_
  refine va_putF (D := (dC, dI)) (ci := 6) (v := .int (mEx w)) (ty := .int) (C := RX4) (T := TX4) (N := 5) hx hb hts (by decide +kernel) tyX4 tyX4_ok nmX4 hown hK hP hD hS 0 rfl rfl 0 (by decide +kernel) (hts (.fieldLink RX4 15 "EdgefloatsModel$Row" "exponents" "I") (by decide +kernel)) (fun _ h9 => h9) rfl hin rfl (by decide +kernel) rfl rfl (Nat.le_of_ble_eq_true rfl) dX4_init_14 (fun H locs hP hD hS => ?_)
  have hP : va_P (dC, dI) xCl [(h0, .inr (6, [.int (mEx w), .int 0, .long 0, .ref q7, .int 0])), (q7, eA cy (fun _ => 0))] H := hP
  have hD : va_D A [(h0, .inr (6, [.int (mEx w), .int 0, .long 0, .ref q7, .int 0])), (q7, eA cy (fun _ => 0))] := hD
  refine lv_aload_n hx hb dX4_init_17 rfl (lv_at hl 0 rfl) ?_
  refine lv_iload_n hx hb dX4_init_18 rfl (lv_at hl 2 rfl) ?_
  refine va_putF (D := (dC, dI)) (ci := 6) (v := .int (mFr w)) (ty := .int) (C := RX4) (T := TX4) (N := 5) hx hb hts (by decide +kernel) tyX4 tyX4_ok nmX4 hown hK hP hD hS 0 rfl rfl 1 (by decide +kernel) (hts (.fieldLink RX4 19 "EdgefloatsModel$Row" "fractions" "I") (by decide +kernel)) (fun _ h9 => h9) rfl hin rfl (by decide +kernel) rfl rfl (Nat.le_of_ble_eq_true rfl) dX4_init_19 (fun H locs hP hD hS => ?_)
  have hP : va_P (dC, dI) xCl [(h0, .inr (6, [.int (mEx w), .int (mFr w), .long 0, .ref q7, .int 0])), (q7, eA cy (fun _ => 0))] H := hP
  have hD : va_D A [(h0, .inr (6, [.int (mEx w), .int (mFr w), .long 0, .ref q7, .int 0])), (q7, eA cy (fun _ => 0))] := hD
  refine lv_aload_n hx hb dX4_init_22 rfl (lv_at hl 0 rfl) ?_
  refine lv_lload_n hx hb dX4_init_23 rfl (lv_at hl 3 rfl) ?_
  refine va_putF (D := (dC, dI)) (ci := 6) (v := .long (mMo w)) (ty := .long) (C := RX4) (T := TX4) (N := 5) hx hb hts (by decide +kernel) tyX4 tyX4_ok nmX4 hown hK hP hD hS 0 rfl rfl 2 (by decide +kernel) (hts (.fieldLink RX4 22 "EdgefloatsModel$Row" "most" "J") (by decide +kernel)) (fun _ h9 => h9) rfl hin rfl (by decide +kernel) rfl rfl (Nat.le_of_ble_eq_true rfl) dX4_init_24 (fun H locs hP hD hS => ?_)
  have hP : va_P (dC, dI) xCl [(h0, .inr (6, [.int (mEx w), .int (mFr w), .long (mMo w), .ref q7, .int 0])), (q7, eA cy (fun _ => 0))] H := hP
  have hD : va_D A [(h0, .inr (6, [.int (mEx w), .int (mFr w), .long (mMo w), .ref q7, .int 0])), (q7, eA cy (fun _ => 0))] := hD
  have hP := hP.sub (ws' := [(h0, eMR w q7 0), (q7, eA cy (fun _ => 0))]) [0, 1] rfl
  have hD := hD.sub (ws' := [(h0, eMR w q7 0), (q7, eA cy (fun _ => 0))]) [0, 1] (by decide +kernel) rfl
  refine W.widen (k := 1) (n := 8) (by omega) (by omega) ?_
  exact W.vret hx hb hr (fun t ht hW => ⟨⟨(q7), rfl, trivial, by rw [ht]; exact hP, hD⟩, hS.F ht⟩) hS.2.2 dX4_init_27
theorem cl_X5_init_1 : ∀ w ∈ [.methodLink RX5 3 objectInit, .instanceMethod objectInit, .code objectInit ⟨#[0xb1]⟩ 1 none, .classLink RX5 9 RX4, .instantiable RX4 5, .initialized RX4, .constantLong RX5 11 (1000000000), .fieldLink RX5 16 "EdgefloatsModel" "wide" "LEdgefloatsModel$Row;", .constantLong RX5 22 (16000000), .fieldLink RX5 24 "EdgefloatsModel" "narrow" "LEdgefloatsModel$Row;", .methodLink RX5 13 yX4_init, .instanceMethod yX4_init, .code yX4_init cX4_init 5 none, .methodLink RX4 3 objectInit, .arrayClass .long, .fieldLink RX4 9 "EdgefloatsModel$Row" "cells" "[J", .fieldLink RX4 15 "EdgefloatsModel$Row" "exponents" "I", .fieldLink RX4 19 "EdgefloatsModel$Row" "fractions" "I", .fieldLink RX4 22 "EdgefloatsModel$Row" "most" "J"], w ∈ wsX5_init := fun _ h => (List.mem_cons_of_mem _ (List.mem_append_left _ (List.mem_append_left _ h)))
theorem cl_X5_init_2 : ∀ w ∈ wsX40, w ∈ wsX5_init := fun _ h => (List.mem_cons_of_mem _ (List.mem_append_left _ (List.mem_append_right _ h)))
theorem cl_X5_init_3 : ∀ w ∈ wsX50, w ∈ wsX5_init := fun _ h => (List.mem_cons_of_mem _ (List.mem_append_right _ h))
set_option maxRecDepth 20000 in
theorem ggX5_init_X4_init : GoodIn wsX5_init wsX4_init := goodIn_sub (List.forall_mem_cons.mpr ⟨(cl_X5_init_1 _ (List.mem_of_getElem? (i := 12) rfl)), fun w h => (List.mem_append.mp h).elim ((List.forall_mem_cons.mpr ⟨(cl_X5_init_1 _ (List.mem_of_getElem? (i := 13) rfl)), List.forall_mem_cons.mpr ⟨(cl_X5_init_1 _ (List.mem_of_getElem? (i := 1) rfl)), List.forall_mem_cons.mpr ⟨(cl_X5_init_1 _ (List.mem_of_getElem? (i := 2) rfl)), List.forall_mem_cons.mpr ⟨(cl_X5_init_1 _ (List.mem_of_getElem? (i := 14) rfl)), List.forall_mem_cons.mpr ⟨(cl_X5_init_1 _ (List.mem_of_getElem? (i := 15) rfl)), List.forall_mem_cons.mpr ⟨(cl_X5_init_1 _ (List.mem_of_getElem? (i := 16) rfl)), List.forall_mem_cons.mpr ⟨(cl_X5_init_1 _ (List.mem_of_getElem? (i := 17) rfl)), List.forall_mem_cons.mpr ⟨(cl_X5_init_1 _ (List.mem_of_getElem? (i := 18) rfl)), fun _ h => absurd h List.not_mem_nil⟩⟩⟩⟩⟩⟩⟩⟩) w) ((cl_X5_init_2) w)⟩) (by decide +kernel)
set_option maxRecDepth 20000 in
theorem gX5_init_X4_init : GoodIn wsX5_init (wsX4_init) := ggX5_init_X4_init
noncomputable def dz_p17_6 : List (Nat × Instr × Nat) := [(0, (.aload_n 0, 1)), (1, (.invokespecial 3, 3)), (4, (.aload_n 0, 1)), (5, (.new 9, 3)), (8, (.dup, 1)), (9, (.bipush 11, 2)), (11, (.bipush 52, 2)), (13, (.ldc2_w 11, 3)), (16, (.invokespecial 13, 3)), (19, (.putfield 16, 3)), (22, (.aload_n 0, 1)), (23, (.new 9, 3)), (26, (.dup, 1)), (27, (.bipush 8, 2)), (29, (.bipush 23, 2)), (31, (.ldc2_w 22, 3)), (34, (.invokespecial 13, 3)), (37, (.putfield 24, 3)), (40, (.return_, 1))]
theorem dy_p17_6 : dz_ok cX5_init dz_p17_6 = true := by decide +kernel
theorem dX5_init_0 : decode cX5_init 0 = .ok (.aload_n 0, 1) := dz_at (i := 0) dy_p17_6 rfl
theorem dX5_init_1 : decode cX5_init 1 = .ok (.invokespecial 3, 3) := dz_at (i := 1) dy_p17_6 rfl
theorem dX5_init_4 : decode cX5_init 4 = .ok (.aload_n 0, 1) := dz_at (i := 2) dy_p17_6 rfl
theorem dX5_init_5 : decode cX5_init 5 = .ok (.new 9, 3) := dz_at (i := 3) dy_p17_6 rfl
theorem dX5_init_8 : decode cX5_init 8 = .ok (.dup, 1) := dz_at (i := 4) dy_p17_6 rfl
theorem dX5_init_9 : decode cX5_init 9 = .ok (.bipush 11, 2) := dz_at (i := 5) dy_p17_6 rfl
theorem dX5_init_11 : decode cX5_init 11 = .ok (.bipush 52, 2) := dz_at (i := 6) dy_p17_6 rfl
theorem dX5_init_13 : decode cX5_init 13 = .ok (.ldc2_w 11, 3) := dz_at (i := 7) dy_p17_6 rfl
theorem dX5_init_16 : decode cX5_init 16 = .ok (.invokespecial 13, 3) := dz_at (i := 8) dy_p17_6 rfl
theorem dX5_init_19 : decode cX5_init 19 = .ok (.putfield 16, 3) := dz_at (i := 9) dy_p17_6 rfl
theorem dX5_init_22 : decode cX5_init 22 = .ok (.aload_n 0, 1) := dz_at (i := 10) dy_p17_6 rfl
theorem dX5_init_23 : decode cX5_init 23 = .ok (.new 9, 3) := dz_at (i := 11) dy_p17_6 rfl
theorem dX5_init_26 : decode cX5_init 26 = .ok (.dup, 1) := dz_at (i := 12) dy_p17_6 rfl
theorem dX5_init_27 : decode cX5_init 27 = .ok (.bipush 8, 2) := dz_at (i := 13) dy_p17_6 rfl
theorem dX5_init_29 : decode cX5_init 29 = .ok (.bipush 23, 2) := dz_at (i := 14) dy_p17_6 rfl
theorem dX5_init_31 : decode cX5_init 31 = .ok (.ldc2_w 22, 3) := dz_at (i := 15) dy_p17_6 rfl
theorem dX5_init_34 : decode cX5_init 34 = .ok (.invokespecial 13, 3) := dz_at (i := 16) dy_p17_6 rfl
theorem dX5_init_37 : decode cX5_init 37 = .ok (.putfield 24, 3) := dz_at (i := 17) dy_p17_6 rfl
theorem dX5_init_40 : decode cX5_init 40 = .ok (.return_, 1) := dz_at (i := 18) dy_p17_6 rfl
set_option maxHeartbeats 4000000 in
set_option maxRecDepth 100000 in
theorem k_X5_init (l : Launch) (dC : Nat → ClassId) (dI : Nat → Nat → Nat) (cy : ClassId) (h0 : Nat) (sz N : Nat)  : Met l yX5_init wsX5_init ({ frames := 2, cells := 4, slots := 26, locals := 54 }) (va_Pc [.ref h0] (xM (dC, dI) xCl [(h0, .inr (7, [.null, .null, .int 0, .int 0, .int 0]))] [(cy, .long)] sz N)) (va_Qv (fun (_ : Nat × Nat × Nat × Nat) => True) (fun (u : Nat × Nat × Nat × Nat) t => match u with | (u0, u1, u2, u3) => xW (dC, dI) xCl [(h0, eM u0 u2 0 0 0), (u0, eMR true u1 0), (u1, eA cy (fun _ => 0)), (u2, eMR false u3 0), (u3, eA cy (fun _ => 0))] (va_A [(h0, .inr (7, [.null, .null, .int 0, .int 0, .int 0]))] sz) t) (va_A [(h0, .inr (7, [.null, .null, .int 0, .int 0, .int 0]))] sz)) 4 26 (va_A [(h0, .inr (7, [.null, .null, .int 0, .int 0, .int 0]))] sz) := by
  refine Met.ofW (cc := cX5_init) (maxL := 1) (ret := none) (by decide +kernel) rfl ?_
  intro p e s m args below meth c s₁ B hml hv
  obtain ⟨rfl, hsz, hP, hK, hD0, hN, hG⟩ := hv
  have hx := B.exec
  have hb := B.bytes
  have hr := B.returns
  have hts := atoms_spec (ws := wsX5_init) B.pre
  have hown : s.vm.findClass RX5 = some m.cls := findClass_of_methodNamed B.named
  have hlocks := B.notSynchronized
  have hin : meth.name = "<init>" := (name_of_methodNamed B.named B.method).1
  subst hsz
  have hAN : ∀ q, va_A [(h0, .inr (7, [.null, .null, .int 0, .int 0, .int 0]))] s.heap.size q → N ≤ q := xA_N hD0 hN
  have hD := hD0.self (sz := s.heap.size)
  generalize hAe : va_A [(h0, .inr (7, [.null, .null, .int 0, .int 0, .int 0]))] s.heap.size = A at hD hAN ⊢
  have hA : ∀ q : Nat, s.heap.size ≤ q → A q := fun q h => by rw [← hAe]; exact Or.inr h
  have hS : va_S A s.heap s.heap [] := va_S.rf
  have hP : va_P (dC, dI) xCl [(h0, .inr (7, [.null, .null, .int 0, .int 0, .int 0]))] s.heap := hP
  have hl := lv_entry ([.ref h0]) (n := 1) (Nat.le_of_ble_eq_true rfl)
  rw [lg_entry_eq]
  generalize (lg_sl ([.ref h0]) ++ List.replicate (1 - (lg_sl ([.ref h0])).length) Slot.unset).toArray = ls at hl ⊢
  have hl : lv_has ls 1 [(0, .ref h0)] := hl
  refine lv_aload_n hx hb dX5_init_0 rfl (lv_at hl 0 rfl) ?_
  refine W.objInit hx hb hown (hts (.methodLink RX5 3 objectInit) (by decide +kernel)) (hts (.instanceMethod objectInit) (by decide +kernel)) (hts (.code objectInit ⟨#[0xb1]⟩ 1 none) (by decide +kernel)) rfl (by rw [hml]; exact hl.1) rfl dX5_init_1 (Nat.le_of_ble_eq_true rfl) (Nat.le_of_ble_eq_true rfl) ?_
  refine W.eq (g2 := F0 m 4 ls []) rfl ?_
  refine lv_aload_n hx hb dX5_init_4 rfl (lv_at hl 0 rfl) ?_
  refine va_new (ci := 6) (fs := [.int 0, .int 0, .long 0, .null, .int 0]) (C := RX4) (T := TX4) (N := 5) hx hb hts (by decide +kernel) tyX4 tyX4_ok hown (hts (.classLink RX5 9 RX4) (by decide +kernel)) (hts (.instantiable RX4 5) (by decide +kernel)) (hts (.initialized RX4) (by decide +kernel)) hK hP hD hS hA rfl (fun j hj => by rcases (show j = 0 ∨ j = 1 ∨ j = 2 ∨ j = 3 ∨ j = 4 by omega) with rfl | rfl | rfl | rfl | rfl <;> rfl) (Nat.le_of_ble_eq_true rfl) (Nat.le_of_ble_eq_true rfl) dX5_init_5 (fun q5 H hP hD hS => ?_)
  have hP : va_P (dC, dI) xCl [(h0, .inr (7, [.null, .null, .int 0, .int 0, .int 0])), (q5, .inr (6, [.int 0, .int 0, .long 0, .null, .int 0]))] H := hP
  have hD : va_D A [(h0, .inr (7, [.null, .null, .int 0, .int 0, .int 0])), (q5, .inr (6, [.int 0, .int 0, .long 0, .null, .int 0]))] := hD
  refine lv_dup hx hb dX5_init_8 rfl ?_
  refine lv_bipush (v := 11) hx hb dX5_init_9 (by decide +kernel) ?_
  refine lv_bipush (v := 52) hx hb dX5_init_11 (by decide +kernel) ?_
  refine lv_ldc2 (own := RX5) (index := 11) (v := 1000000000) hx hb hown (hts (.constantLong RX5 11 (1000000000)) (by decide +kernel)) dX5_init_13 ?_
  have hPc := hP.sub (ws' := [(q5, .inr (6, [.int 0, .int 0, .long 0, .null, .int 0]))]) [1] rfl
  have hDc := hD.sub (ws' := [(q5, .inr (6, [.int 0, .int 0, .long 0, .null, .int 0]))]) [1] (by decide +kernel) rfl
  have hKc := hK.sub (tys' := [(cy, .long)]) [0] rfl
  have hFc := va_free (wc := [(q5, .inr (6, [.int 0, .int 0, .long 0, .null, .int 0]))]) hD hS hA [1] rfl
  refine va_callv (va_runI (As := [.int 11, .int 52, .long 1000000000]) (rest := [.ref q5, .ref h0]) ⟨hx, hb, hml, hown, hts⟩ (k_X4_init l dC dI cy q5 H.size N true) (cwI 3 hts gX5_init_X4_init rfl rfl rfl (hts (.initialized RX4) (by decide +kernel)) (hts (.methodLink RX5 13 yX4_init) (by decide +kernel)) (hts (.instanceMethod yX4_init) (by decide +kernel)) rfl (by decide +kernel) ⟨Nat.le_of_ble_eq_true rfl, Nat.le_of_ble_eq_true rfl⟩) (xM.preS (As := .ref q5 :: [.int 11, .int 52, .long 1000000000]) hKc hPc hDc hAN (Nat.le_trans hN hS.1) (hG.kept hS hAN)) rfl rfl hl.1 rfl (lv_room (Nat.le_of_ble_eq_true rfl)) dX5_init_16 ⟨Nat.le_of_ble_eq_true rfl, Nat.le_of_ble_eq_true rfl⟩) hS (fun q _ h => hFc q h) hFc (fun u t H locs ht hvm hw hB hz hk hS => ?_)
  obtain ⟨n16_z0, rfl⟩ : ∃ z, z = u := ⟨_, rfl⟩
  obtain ⟨hP1, hD1⟩ := hB
  rw [ht] at hP1
  obtain ⟨hP, hD⟩ := va_join (wr := [(h0, .inr (7, [.null, .null, .int 0, .int 0, .int 0]))]) (w1 := [(q5, eMR true n16_z0 0), (n16_z0, eA cy (fun _ => 0))]) hP hD [1] [0] rfl rfl (by decide +kernel) (by decide +kernel) hk hFc hP1 hD1
  have hP : va_P (dC, dI) xCl [(h0, .inr (7, [.null, .null, .int 0, .int 0, .int 0])), (q5, eMR true n16_z0 0), (n16_z0, eA cy (fun _ => 0))] H := hP
  have hD : va_D A [(h0, .inr (7, [.null, .null, .int 0, .int 0, .int 0])), (q5, eMR true n16_z0 0), (n16_z0, eA cy (fun _ => 0))] := hD
  refine va_putF (D := (dC, dI)) (ci := 7) (v := .ref q5) (ty := (.object "EdgefloatsModel$Row")) (C := RX5) (T := TX5) (N := 5) hx hb hts (by decide +kernel) tyX5 tyX5_ok nmX5 hown hK hP hD hS 0 rfl rfl 0 (by decide +kernel) (hts (.fieldLink RX5 16 "EdgefloatsModel" "wide" "LEdgefloatsModel$Row;") (by decide +kernel)) (fun _ h9 => h9) rfl hin rfl (by decide +kernel) rfl rfl (Nat.le_of_ble_eq_true rfl) dX5_init_19 (fun H locs hP hD hS => ?_)
  have hP : va_P (dC, dI) xCl [(h0, .inr (7, [.ref q5, .null, .int 0, .int 0, .int 0])), (q5, eMR true n16_z0 0), (n16_z0, eA cy (fun _ => 0))] H := hP
  have hD : va_D A [(h0, .inr (7, [.ref q5, .null, .int 0, .int 0, .int 0])), (q5, eMR true n16_z0 0), (n16_z0, eA cy (fun _ => 0))] := hD
  refine lv_aload_n hx hb dX5_init_22 rfl (lv_at hl 0 rfl) ?_
  refine va_new (ci := 6) (fs := [.int 0, .int 0, .long 0, .null, .int 0]) (C := RX4) (T := TX4) (N := 5) hx hb hts (by decide +kernel) tyX4 tyX4_ok hown (hts (.classLink RX5 9 RX4) (by decide +kernel)) (hts (.instantiable RX4 5) (by decide +kernel)) (hts (.initialized RX4) (by decide +kernel)) hK hP hD hS hA rfl (fun j hj => by rcases (show j = 0 ∨ j = 1 ∨ j = 2 ∨ j = 3 ∨ j = 4 by omega) with rfl | rfl | rfl | rfl | rfl <;> rfl) (Nat.le_of_ble_eq_true rfl) (Nat.le_of_ble_eq_true rfl) dX5_init_23 (fun q23 H hP hD hS => ?_)
  have hP : va_P (dC, dI) xCl [(h0, .inr (7, [.ref q5, .null, .int 0, .int 0, .int 0])), (q5, eMR true n16_z0 0), (n16_z0, eA cy (fun _ => 0)), (q23, .inr (6, [.int 0, .int 0, .long 0, .null, .int 0]))] H := hP
  have hD : va_D A [(h0, .inr (7, [.ref q5, .null, .int 0, .int 0, .int 0])), (q5, eMR true n16_z0 0), (n16_z0, eA cy (fun _ => 0)), (q23, .inr (6, [.int 0, .int 0, .long 0, .null, .int 0]))] := hD
  refine lv_dup hx hb dX5_init_26 rfl ?_
  refine lv_bipush (v := 8) hx hb dX5_init_27 (by decide +kernel) ?_
  refine lv_bipush (v := 23) hx hb dX5_init_29 (by decide +kernel) ?_
  refine lv_ldc2 (own := RX5) (index := 22) (v := 16000000) hx hb hown (hts (.constantLong RX5 22 (16000000)) (by decide +kernel)) dX5_init_31 ?_
  have hPc := hP.sub (ws' := [(q23, .inr (6, [.int 0, .int 0, .long 0, .null, .int 0]))]) [3] rfl
  have hDc := hD.sub (ws' := [(q23, .inr (6, [.int 0, .int 0, .long 0, .null, .int 0]))]) [3] (by decide +kernel) rfl
  have hKc := hK.sub (tys' := [(cy, .long)]) [0] rfl
  have hFc := va_free (wc := [(q23, .inr (6, [.int 0, .int 0, .long 0, .null, .int 0]))]) hD hS hA [3] rfl
  refine va_callv (va_runI (As := [.int 8, .int 23, .long 16000000]) (rest := [.ref q23, .ref h0]) ⟨hx, hb, hml, hown, hts⟩ (k_X4_init l dC dI cy q23 H.size N false) (cwI 3 hts gX5_init_X4_init rfl rfl rfl (hts (.initialized RX4) (by decide +kernel)) (hts (.methodLink RX5 13 yX4_init) (by decide +kernel)) (hts (.instanceMethod yX4_init) (by decide +kernel)) rfl (by decide +kernel) ⟨Nat.le_of_ble_eq_true rfl, Nat.le_of_ble_eq_true rfl⟩) (xM.preS (As := .ref q23 :: [.int 8, .int 23, .long 16000000]) hKc hPc hDc hAN (Nat.le_trans hN hS.1) (hG.kept hS hAN)) rfl rfl hl.1 rfl (lv_room (Nat.le_of_ble_eq_true rfl)) dX5_init_34 ⟨Nat.le_of_ble_eq_true rfl, Nat.le_of_ble_eq_true rfl⟩) hS (fun q _ h => hFc q h) hFc (fun u t H locs ht hvm hw hB hz hk hS => ?_)
  obtain ⟨n34_z0, rfl⟩ : ∃ z, z = u := ⟨_, rfl⟩
  obtain ⟨hP1, hD1⟩ := hB
  rw [ht] at hP1
  obtain ⟨hP, hD⟩ := va_join (wr := [(h0, .inr (7, [.ref q5, .null, .int 0, .int 0, .int 0])), (q5, eMR true n16_z0 0), (n16_z0, eA cy (fun _ => 0))]) (w1 := [(q23, eMR false n34_z0 0), (n34_z0, eA cy (fun _ => 0))]) hP hD [3] [0, 1, 2] rfl rfl (by decide +kernel) (by decide +kernel) hk hFc hP1 hD1
  have hP : va_P (dC, dI) xCl [(h0, .inr (7, [.ref q5, .null, .int 0, .int 0, .int 0])), (q5, eMR true n16_z0 0), (n16_z0, eA cy (fun _ => 0)), (q23, eMR false n34_z0 0), (n34_z0, eA cy (fun _ => 0))] H := hP
  have hD : va_D A [(h0, .inr (7, [.ref q5, .null, .int 0, .int 0, .int 0])), (q5, eMR true n16_z0 0), (n16_z0, eA cy (fun _ => 0)), (q23, eMR false n34_z0 0), (n34_z0, eA cy (fun _ => 0))] := hD
  refine va_putF (D := (dC, dI)) (ci := 7) (v := .ref q23) (ty := (.object "EdgefloatsModel$Row")) (C := RX5) (T := TX5) (N := 5) hx hb hts (by decide +kernel) tyX5 tyX5_ok nmX5 hown hK hP hD hS 0 rfl rfl 1 (by decide +kernel) (hts (.fieldLink RX5 24 "EdgefloatsModel" "narrow" "LEdgefloatsModel$Row;") (by decide +kernel)) (fun _ h9 => h9) rfl hin rfl (by decide +kernel) rfl rfl (Nat.le_of_ble_eq_true rfl) dX5_init_37 (fun H locs hP hD hS => ?_)
  have hP : va_P (dC, dI) xCl [(h0, .inr (7, [.ref q5, .ref q23, .int 0, .int 0, .int 0])), (q5, eMR true n16_z0 0), (n16_z0, eA cy (fun _ => 0)), (q23, eMR false n34_z0 0), (n34_z0, eA cy (fun _ => 0))] H := hP
  have hD : va_D A [(h0, .inr (7, [.ref q5, .ref q23, .int 0, .int 0, .int 0])), (q5, eMR true n16_z0 0), (n16_z0, eA cy (fun _ => 0)), (q23, eMR false n34_z0 0), (n34_z0, eA cy (fun _ => 0))] := hD
  have hP := hP.sub (ws' := [(h0, eM q5 q23 0 0 0), (q5, eMR true n16_z0 0), (n16_z0, eA cy (fun _ => 0)), (q23, eMR false n34_z0 0), (n34_z0, eA cy (fun _ => 0))]) [0, 1, 2, 3, 4] rfl
  have hD := hD.sub (ws' := [(h0, eM q5 q23 0 0 0), (q5, eMR true n16_z0 0), (n16_z0, eA cy (fun _ => 0)), (q23, eMR false n34_z0 0), (n34_z0, eA cy (fun _ => 0))]) [0, 1, 2, 3, 4] (by decide +kernel) rfl
  refine W.widen (k := 4) (n := 26) (by omega) (by omega) ?_
  exact W.vret hx hb hr (fun t ht hW => ⟨⟨(q5, n16_z0, q23, n34_z0), rfl, trivial, by rw [ht]; exact hP, hD⟩, hS.F ht⟩) hS.2.2 dX5_init_40
noncomputable def dz_p17_7 : List (Nat × Instr × Nat) := [(0, (.aload_n 0, 1)), (1, (.invokespecial 1, 3)), (4, (.return_, 1))]
theorem dy_p17_7 : dz_ok cX3_init dz_p17_7 = true := by decide +kernel
theorem dX3_init_0 : decode cX3_init 0 = .ok (.aload_n 0, 1) := dz_at (i := 0) dy_p17_7 rfl
theorem dX3_init_1 : decode cX3_init 1 = .ok (.invokespecial 1, 3) := dz_at (i := 1) dy_p17_7 rfl
theorem dX3_init_4 : decode cX3_init 4 = .ok (.return_, 1) := dz_at (i := 2) dy_p17_7 rfl
set_option maxHeartbeats 4000000 in
set_option maxRecDepth 100000 in
theorem k_X3_init (l : Launch) (dC : Nat → ClassId) (dI : Nat → Nat → Nat) (h0 : Nat) (sz N : Nat)  : Met l yX3_init wsX3_init ({ frames := 1, cells := 0, slots := 0, locals := 30 }) (va_Pc [.ref h0] (xM (dC, dI) xCl [(h0, .inr (5, [.long 0, .null]))] [] sz N)) (va_Qv (fun (_ : Unit) => True) (fun (u : Unit) t => xW (dC, dI) xCl [(h0, eO 0 .null)] (va_A [(h0, .inr (5, [.long 0, .null]))] sz) t) (va_A [(h0, .inr (5, [.long 0, .null]))] sz)) 0 0 (va_A [(h0, .inr (5, [.long 0, .null]))] sz) := by
  refine Met.ofW (cc := cX3_init) (maxL := 1) (ret := none) (by decide +kernel) rfl ?_
  intro p e s m args below meth c s₁ B hml hv
  obtain ⟨rfl, hsz, hP, hK, hD0, hN, hG⟩ := hv
  have hx := B.exec
  have hb := B.bytes
  have hr := B.returns
  have hts := atoms_spec (ws := wsX3_init) B.pre
  have hown : s.vm.findClass RX3 = some m.cls := findClass_of_methodNamed B.named
  have hlocks := B.notSynchronized
  have hin : meth.name = "<init>" := (name_of_methodNamed B.named B.method).1
  subst hsz
  have hAN : ∀ q, va_A [(h0, .inr (5, [.long 0, .null]))] s.heap.size q → N ≤ q := xA_N hD0 hN
  have hD := hD0.self (sz := s.heap.size)
  generalize hAe : va_A [(h0, .inr (5, [.long 0, .null]))] s.heap.size = A at hD hAN ⊢
  have hA : ∀ q : Nat, s.heap.size ≤ q → A q := fun q h => by rw [← hAe]; exact Or.inr h
  have hS : va_S A s.heap s.heap [] := va_S.rf
  have hP : va_P (dC, dI) xCl [(h0, .inr (5, [.long 0, .null]))] s.heap := hP
  have hl := lv_entry ([.ref h0]) (n := 1) (Nat.le_of_ble_eq_true rfl)
  rw [lg_entry_eq]
  generalize (lg_sl ([.ref h0]) ++ List.replicate (1 - (lg_sl ([.ref h0])).length) Slot.unset).toArray = ls at hl ⊢
  have hl : lv_has ls 1 [(0, .ref h0)] := hl
  refine lv_aload_n hx hb dX3_init_0 rfl (lv_at hl 0 rfl) ?_
  refine W.objInit hx hb hown (hts (.methodLink RX3 1 objectInit) (by decide +kernel)) (hts (.instanceMethod objectInit) (by decide +kernel)) (hts (.code objectInit ⟨#[0xb1]⟩ 1 none) (by decide +kernel)) rfl (by rw [hml]; exact hl.1) rfl dX3_init_1 (Nat.le_of_ble_eq_true rfl) (Nat.le_of_ble_eq_true rfl) ?_
  refine W.eq (g2 := F0 m 4 ls []) rfl ?_
  have hP := hP.sub (ws' := [(h0, eO 0 .null)]) [0] rfl
  have hD := hD.sub (ws' := [(h0, eO 0 .null)]) [0] (by decide +kernel) rfl
  refine W.widen (k := 0) (n := 0) (by omega) (by omega) ?_
  exact W.vret hx hb hr (fun t ht hW => ⟨⟨(), rfl, trivial, by rw [ht]; exact hP, hD⟩, hS.F ht⟩) hS.2.2 dX3_init_4
