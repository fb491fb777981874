
theorem xm_made0 (w : Bool) (x : Int64) (h : (jLshl 1 (mFr w)).toInt ≤ x.toInt * 2 ^ 0) : ¬ x < jLshl 1 (mFr w) := by
  intro hc
  have := Int64.lt_iff_toInt_lt.mp hc
  omega
theorem xm_madeL (w : Bool) : (jLshl 1 (mFr w)).toInt = if w then 4503599627370496 else 8388608 := by cases w <;> decide
theorem xm_madeS (w : Bool) (n : Nat) (x : Int64) (h1 : 1 ≤ x.toInt) (h : (jLshl 1 (mFr w)).toInt ≤ x.toInt * 2 ^ (n + 1)) (hc : x < jLshl 1 (mFr w)) : 1 ≤ (x * 2).toInt ∧ (jLshl 1 (mFr w)).toInt ≤ (x * 2).toInt * 2 ^ n := by
  have h2 := Int64.lt_iff_toInt_lt.mp hc
  have hL := xm_madeL w
  have hb : x.toInt < 4503599627370496 := by
    rw [hL] at h2
    split at h2 <;> omega
  have e : (x * 2).toInt = x.toInt * 2 := by
    rw [Int64.toInt_mul]
    have : (2 : Int64).toInt = 2 := by decide
    rw [this]
    exact Int.bmod_eq_of_le (by omega) (by omega)
  rw [e]
  refine ⟨by omega, ?_⟩
  rw [Int.pow_succ] at h
  rw [Int.mul_assoc, Int.mul_comm 2]
  exact h
theorem xm_made1 (w : Bool) (x : Int64) (h1 : 1 ≤ x.toInt) : 1 ≤ x.toInt ∧ (jLshl 1 (mFr w)).toInt ≤ x.toInt * 2 ^ 53 := by
  refine ⟨h1, ?_⟩
  have hL := xm_madeL w
  rw [hL]
  split <;> omega
theorem xm_abs {p0 : Int64} (h0 : ¬ p0 = 0) (hq : -8589934592 ≤ p0.toInt ∧ p0.toInt ≤ 8589934592) : (0 ≤ p0 → 1 ≤ p0.toInt) ∧ (¬ 0 ≤ p0 → 1 ≤ (-p0).toInt) := by
  have z : (0 : Int64).toInt = 0 := by decide
  have hz : p0.toInt ≠ 0 := fun z9 => h0 (Int64.toInt_inj.mp (by rw [z9, z]))
  constructor
  · intro h
    have := Int64.le_iff_toInt_le.mp h
    omega
  · intro h
    have h2 : ¬ 0 ≤ p0.toInt := fun z9 => h (Int64.le_iff_toInt_le.mpr (by rw [z]; exact z9))
    rw [Int64.toInt_neg, Int.bmod_eq_of_le (by omega) (by omega)]
    omega
theorem xm_cnt0 {x y : Int64} (h : y.toInt ≤ x.toInt + 0) : y ≤ x := Int64.le_iff_toInt_le.mpr (by omega)
theorem xm_cntS {x y : Int64} {n : Nat} (h : y.toInt ≤ x.toInt + (n + 1 : Nat)) (hc : ¬ y ≤ x) : y.toInt ≤ (x + 1).toInt + (n : Nat) := by
  have h2 : x.toInt < y.toInt := by
    by_cases z : y.toInt ≤ x.toInt
    · exact absurd (Int64.le_iff_toInt_le.mpr z) hc
    · omega
  have hy := y.toInt_lt
  have hx := x.le_toInt
  have e : (x + 1).toInt = x.toInt + 1 := by
    rw [Int64.toInt_add]
    have : (1 : Int64).toInt = 1 := by decide
    rw [this]
    exact Int.bmod_eq_of_le (by omega) (by omega)
  rw [e]
  omega

theorem cl_X4_sort_1 : ∀ w ∈ wsX4_sort_r1, w ∈ wsX4_sort := fun _ h => (List.mem_cons_of_mem _ (List.mem_append_left _ (List.mem_append_left _ h)))
theorem cl_X4_sort_2 : ∀ w ∈ wsX4_sort_r2, w ∈ wsX4_sort := fun _ h => (List.mem_cons_of_mem _ (List.mem_append_left _ (List.mem_append_right _ h)))
theorem cl_X4_sort_3 : ∀ w ∈ wsX40, w ∈ wsX4_sort := fun _ h => (List.mem_cons_of_mem _ (List.mem_append_right _ h))
set_option maxRecDepth 20000 in
theorem ggX4_sort_X4_order : GoodIn wsX4_sort wsX4_order := goodIn_sub (List.forall_mem_cons.mpr ⟨(cl_X4_sort_1 _ (List.mem_of_getElem? (i := 7) rfl)), fun w h => (List.mem_append.mp h).elim ((List.forall_mem_cons.mpr ⟨(cl_X4_sort_1 _ (List.mem_of_getElem? (i := 8) rfl)), List.forall_mem_cons.mpr ⟨(cl_X4_sort_1 _ (List.mem_of_getElem? (i := 9) rfl)), List.forall_mem_cons.mpr ⟨(cl_X4_sort_1 _ (List.mem_of_getElem? (i := 10) rfl)), List.forall_mem_cons.mpr ⟨(cl_X4_sort_1 _ (List.mem_of_getElem? (i := 6) rfl)), List.forall_mem_cons.mpr ⟨(cl_X4_sort_1 _ (List.mem_of_getElem? (i := 11) rfl)), List.forall_mem_cons.mpr ⟨(cl_X4_sort_1 _ (List.mem_of_getElem? (i := 12) rfl)), List.forall_mem_cons.mpr ⟨(cl_X4_sort_1 _ (List.mem_of_getElem? (i := 13) rfl)), List.forall_mem_cons.mpr ⟨(cl_X4_sort_1 _ (List.mem_of_getElem? (i := 14) rfl)), List.forall_mem_cons.mpr ⟨(cl_X4_sort_1 _ (List.mem_of_getElem? (i := 15) rfl)), List.forall_mem_cons.mpr ⟨(cl_X4_sort_1 _ (List.mem_of_getElem? (i := 16) rfl)), List.forall_mem_cons.mpr ⟨(cl_X4_sort_1 _ (List.mem_of_getElem? (i := 17) rfl)), List.forall_mem_cons.mpr ⟨(cl_X4_sort_1 _ (List.mem_of_getElem? (i := 18) rfl)), List.forall_mem_cons.mpr ⟨(cl_X4_sort_1 _ (List.mem_of_getElem? (i := 19) rfl)), List.forall_mem_cons.mpr ⟨(cl_X4_sort_1 _ (List.mem_of_getElem? (i := 20) rfl)), List.forall_mem_cons.mpr ⟨(cl_X4_sort_1 _ (List.mem_of_getElem? (i := 21) rfl)), List.forall_mem_cons.mpr ⟨(cl_X4_sort_1 _ (List.mem_of_getElem? (i := 22) rfl)), List.forall_mem_cons.mpr ⟨(cl_X4_sort_1 _ (List.mem_of_getElem? (i := 23) rfl)), List.forall_mem_cons.mpr ⟨(cl_X4_sort_2 _ (List.mem_of_getElem? (i := 0) rfl)), List.forall_mem_cons.mpr ⟨(cl_X4_sort_2 _ (List.mem_of_getElem? (i := 1) rfl)), List.forall_mem_cons.mpr ⟨(cl_X4_sort_2 _ (List.mem_of_getElem? (i := 2) rfl)), fun _ h => absurd h List.not_mem_nil⟩⟩⟩⟩⟩⟩⟩⟩⟩⟩⟩⟩⟩⟩⟩⟩⟩⟩⟩⟩) w) ((cl_X4_sort_3) w)⟩) (by decide +kernel)
set_option maxRecDepth 20000 in
theorem gX4_sort_X4_order : GoodIn wsX4_sort (wsV RX4 77 RX4 yX4_order wsX4_order) := goodIn_app (goodIn_sub (List.forall_mem_cons.mpr ⟨(cl_X4_sort_1 _ (List.mem_of_getElem? (i := 3) rfl)), List.forall_mem_cons.mpr ⟨(cl_X4_sort_1 _ (List.mem_of_getElem? (i := 4) rfl)), List.forall_mem_cons.mpr ⟨(cl_X4_sort_1 _ (List.mem_of_getElem? (i := 5) rfl)), List.forall_mem_cons.mpr ⟨(cl_X4_sort_1 _ (List.mem_of_getElem? (i := 6) rfl)), fun _ h => absurd h List.not_mem_nil⟩⟩⟩⟩) (by decide +kernel)) ggX4_sort_X4_order
noncomputable def dz_p08_1 : List (Nat × Instr × Nat) := [(0, (.aload_n 0, 1)), (1, (.dup, 1)), (2, (.getfield 70, 3)), (5, (.iconst 1, 1)), (6, (.iadd, 1)), (7, (.putfield 70, 3)), (10, (.bipush 8, 2)), (12, (.newarray .long, 2)), (14, (.astore_n 1, 1)), (15, (.iconst 0, 1)), (16, (.istore_n 2, 1)), (17, (.iload_n 2, 1)), (18, (.bipush 8, 2)), (20, (.if_icmp .ge 18, 3)), (23, (.aload_n 1, 1)), (24, (.iload_n 2, 1)), (25, (.aload_n 0, 1)), (26, (.getfield 9, 3)), (29, (.iload_n 2, 1)), (30, (.laload, 1)), (31, (.lastore, 1)), (32, (.iinc 2 1, 3)), (35, (.goto (-18), 3)), (38, (.iconst 0, 1)), (39, (.istore_n 2, 1)), (40, (.iload_n 2, 1)), (41, (.bipush 8, 2)), (43, (.if_icmp .ge 72, 3)), (46, (.iload_n 2, 1)), (47, (.iconst 1, 1)), (48, (.iadd, 1)), (49, (.istore_n 3, 1)), (50, (.iload_n 3, 1)), (51, (.bipush 8, 2)), (53, (.if_icmp .ge 56, 3)), (56, (.aload_n 0, 1)), (57, (.aload_n 0, 1)), (58, (.getfield 9, 3)), (61, (.iload_n 3, 1)), (62, (.laload, 1))]
theorem dy_p08_1 : dz_ok cX4_sort dz_p08_1 = true := by decide +kernel
theorem dX4_sort_0 : decode cX4_sort 0 = .ok (.aload_n 0, 1) := dz_at (i := 0) dy_p08_1 rfl
theorem dX4_sort_1 : decode cX4_sort 1 = .ok (.dup, 1) := dz_at (i := 1) dy_p08_1 rfl
theorem dX4_sort_2 : decode cX4_sort 2 = .ok (.getfield 70, 3) := dz_at (i := 2) dy_p08_1 rfl
theorem dX4_sort_5 : decode cX4_sort 5 = .ok (.iconst 1, 1) := dz_at (i := 3) dy_p08_1 rfl
theorem dX4_sort_6 : decode cX4_sort 6 = .ok (.iadd, 1) := dz_at (i := 4) dy_p08_1 rfl
theorem dX4_sort_7 : decode cX4_sort 7 = .ok (.putfield 70, 3) := dz_at (i := 5) dy_p08_1 rfl
theorem dX4_sort_10 : decode cX4_sort 10 = .ok (.bipush 8, 2) := dz_at (i := 6) dy_p08_1 rfl
theorem dX4_sort_12 : decode cX4_sort 12 = .ok (.newarray .long, 2) := dz_at (i := 7) dy_p08_1 rfl
theorem dX4_sort_14 : decode cX4_sort 14 = .ok (.astore_n 1, 1) := dz_at (i := 8) dy_p08_1 rfl
theorem dX4_sort_15 : decode cX4_sort 15 = .ok (.iconst 0, 1) := dz_at (i := 9) dy_p08_1 rfl
theorem dX4_sort_16 : decode cX4_sort 16 = .ok (.istore_n 2, 1) := dz_at (i := 10) dy_p08_1 rfl
theorem dX4_sort_17 : decode cX4_sort 17 = .ok (.iload_n 2, 1) := dz_at (i := 11) dy_p08_1 rfl
theorem dX4_sort_18 : decode cX4_sort 18 = .ok (.bipush 8, 2) := dz_at (i := 12) dy_p08_1 rfl
theorem dX4_sort_20 : decode cX4_sort 20 = .ok (.if_icmp .ge 18, 3) := dz_at (i := 13) dy_p08_1 rfl
theorem dX4_sort_23 : decode cX4_sort 23 = .ok (.aload_n 1, 1) := dz_at (i := 14) dy_p08_1 rfl
theorem dX4_sort_24 : decode cX4_sort 24 = .ok (.iload_n 2, 1) := dz_at (i := 15) dy_p08_1 rfl
theorem dX4_sort_25 : decode cX4_sort 25 = .ok (.aload_n 0, 1) := dz_at (i := 16) dy_p08_1 rfl
theorem dX4_sort_26 : decode cX4_sort 26 = .ok (.getfield 9, 3) := dz_at (i := 17) dy_p08_1 rfl
theorem dX4_sort_29 : decode cX4_sort 29 = .ok (.iload_n 2, 1) := dz_at (i := 18) dy_p08_1 rfl
theorem dX4_sort_30 : decode cX4_sort 30 = .ok (.laload, 1) := dz_at (i := 19) dy_p08_1 rfl
theorem dX4_sort_31 : decode cX4_sort 31 = .ok (.lastore, 1) := dz_at (i := 20) dy_p08_1 rfl
theorem dX4_sort_32 : decode cX4_sort 32 = .ok (.iinc 2 1, 3) := dz_at (i := 21) dy_p08_1 rfl
theorem dX4_sort_35 : decode cX4_sort 35 = .ok (.goto (-18), 3) := dz_at (i := 22) dy_p08_1 rfl
theorem dX4_sort_38 : decode cX4_sort 38 = .ok (.iconst 0, 1) := dz_at (i := 23) dy_p08_1 rfl
theorem dX4_sort_39 : decode cX4_sort 39 = .ok (.istore_n 2, 1) := dz_at (i := 24) dy_p08_1 rfl
theorem dX4_sort_40 : decode cX4_sort 40 = .ok (.iload_n 2, 1) := dz_at (i := 25) dy_p08_1 rfl
theorem dX4_sort_41 : decode cX4_sort 41 = .ok (.bipush 8, 2) := dz_at (i := 26) dy_p08_1 rfl
theorem dX4_sort_43 : decode cX4_sort 43 = .ok (.if_icmp .ge 72, 3) := dz_at (i := 27) dy_p08_1 rfl
theorem dX4_sort_46 : decode cX4_sort 46 = .ok (.iload_n 2, 1) := dz_at (i := 28) dy_p08_1 rfl
theorem dX4_sort_47 : decode cX4_sort 47 = .ok (.iconst 1, 1) := dz_at (i := 29) dy_p08_1 rfl
theorem dX4_sort_48 : decode cX4_sort 48 = .ok (.iadd, 1) := dz_at (i := 30) dy_p08_1 rfl
theorem dX4_sort_49 : decode cX4_sort 49 = .ok (.istore_n 3, 1) := dz_at (i := 31) dy_p08_1 rfl
theorem dX4_sort_50 : decode cX4_sort 50 = .ok (.iload_n 3, 1) := dz_at (i := 32) dy_p08_1 rfl
theorem dX4_sort_51 : decode cX4_sort 51 = .ok (.bipush 8, 2) := dz_at (i := 33) dy_p08_1 rfl
theorem dX4_sort_53 : decode cX4_sort 53 = .ok (.if_icmp .ge 56, 3) := dz_at (i := 34) dy_p08_1 rfl
theorem dX4_sort_56 : decode cX4_sort 56 = .ok (.aload_n 0, 1) := dz_at (i := 35) dy_p08_1 rfl
theorem dX4_sort_57 : decode cX4_sort 57 = .ok (.aload_n 0, 1) := dz_at (i := 36) dy_p08_1 rfl
theorem dX4_sort_58 : decode cX4_sort 58 = .ok (.getfield 9, 3) := dz_at (i := 37) dy_p08_1 rfl
theorem dX4_sort_61 : decode cX4_sort 61 = .ok (.iload_n 3, 1) := dz_at (i := 38) dy_p08_1 rfl
theorem dX4_sort_62 : decode cX4_sort 62 = .ok (.laload, 1) := dz_at (i := 39) dy_p08_1 rfl
noncomputable def dz_p08_2 : List (Nat × Instr × Nat) := [(63, (.aload_n 0, 1)), (64, (.getfield 9, 3)), (67, (.iload_n 2, 1)), (68, (.laload, 1)), (69, (.invokevirtual 77, 3)), (72, (.ifCond .ge 31, 3)), (75, (.aload_n 0, 1)), (76, (.getfield 9, 3)), (79, (.iload_n 2, 1)), (80, (.laload, 1)), (81, (.lstore 4, 2)), (83, (.aload_n 0, 1)), (84, (.getfield 9, 3)), (87, (.iload_n 2, 1)), (88, (.aload_n 0, 1)), (89, (.getfield 9, 3)), (92, (.iload_n 3, 1)), (93, (.laload, 1)), (94, (.lastore, 1)), (95, (.aload_n 0, 1)), (96, (.getfield 9, 3)), (99, (.iload_n 3, 1)), (100, (.lload 4, 2)), (102, (.lastore, 1)), (103, (.iinc 3 1, 3)), (106, (.goto (-56), 3)), (109, (.iinc 2 1, 3)), (112, (.goto (-72), 3)), (115, (.iconst 0, 1)), (116, (.istore_n 2, 1)), (117, (.iconst 0, 1)), (118, (.istore_n 3, 1)), (119, (.iload_n 3, 1)), (120, (.bipush 8, 2)), (122, (.if_icmp .ge 30, 3)), (125, (.iload_n 2, 1)), (126, (.aload_n 0, 1)), (127, (.getfield 9, 3)), (130, (.iload_n 3, 1)), (131, (.laload, 1))]
theorem dy_p08_2 : dz_ok cX4_sort dz_p08_2 = true := by decide +kernel
theorem dX4_sort_63 : decode cX4_sort 63 = .ok (.aload_n 0, 1) := dz_at (i := 0) dy_p08_2 rfl
theorem dX4_sort_64 : decode cX4_sort 64 = .ok (.getfield 9, 3) := dz_at (i := 1) dy_p08_2 rfl
theorem dX4_sort_67 : decode cX4_sort 67 = .ok (.iload_n 2, 1) := dz_at (i := 2) dy_p08_2 rfl
theorem dX4_sort_68 : decode cX4_sort 68 = .ok (.laload, 1) := dz_at (i := 3) dy_p08_2 rfl
theorem dX4_sort_69 : decode cX4_sort 69 = .ok (.invokevirtual 77, 3) := dz_at (i := 4) dy_p08_2 rfl
theorem dX4_sort_72 : decode cX4_sort 72 = .ok (.ifCond .ge 31, 3) := dz_at (i := 5) dy_p08_2 rfl
theorem dX4_sort_75 : decode cX4_sort 75 = .ok (.aload_n 0, 1) := dz_at (i := 6) dy_p08_2 rfl
theorem dX4_sort_76 : decode cX4_sort 76 = .ok (.getfield 9, 3) := dz_at (i := 7) dy_p08_2 rfl
theorem dX4_sort_79 : decode cX4_sort 79 = .ok (.iload_n 2, 1) := dz_at (i := 8) dy_p08_2 rfl
theorem dX4_sort_80 : decode cX4_sort 80 = .ok (.laload, 1) := dz_at (i := 9) dy_p08_2 rfl
theorem dX4_sort_81 : decode cX4_sort 81 = .ok (.lstore 4, 2) := dz_at (i := 10) dy_p08_2 rfl
theorem dX4_sort_83 : decode cX4_sort 83 = .ok (.aload_n 0, 1) := dz_at (i := 11) dy_p08_2 rfl
theorem dX4_sort_84 : decode cX4_sort 84 = .ok (.getfield 9, 3) := dz_at (i := 12) dy_p08_2 rfl
theorem dX4_sort_87 : decode cX4_sort 87 = .ok (.iload_n 2, 1) := dz_at (i := 13) dy_p08_2 rfl
theorem dX4_sort_88 : decode cX4_sort 88 = .ok (.aload_n 0, 1) := dz_at (i := 14) dy_p08_2 rfl
theorem dX4_sort_89 : decode cX4_sort 89 = .ok (.getfield 9, 3) := dz_at (i := 15) dy_p08_2 rfl
theorem dX4_sort_92 : decode cX4_sort 92 = .ok (.iload_n 3, 1) := dz_at (i := 16) dy_p08_2 rfl
theorem dX4_sort_93 : decode cX4_sort 93 = .ok (.laload, 1) := dz_at (i := 17) dy_p08_2 rfl
theorem dX4_sort_94 : decode cX4_sort 94 = .ok (.lastore, 1) := dz_at (i := 18) dy_p08_2 rfl
theorem dX4_sort_95 : decode cX4_sort 95 = .ok (.aload_n 0, 1) := dz_at (i := 19) dy_p08_2 rfl
theorem dX4_sort_96 : decode cX4_sort 96 = .ok (.getfield 9, 3) := dz_at (i := 20) dy_p08_2 rfl
theorem dX4_sort_99 : decode cX4_sort 99 = .ok (.iload_n 3, 1) := dz_at (i := 21) dy_p08_2 rfl
theorem dX4_sort_100 : decode cX4_sort 100 = .ok (.lload 4, 2) := dz_at (i := 22) dy_p08_2 rfl
theorem dX4_sort_102 : decode cX4_sort 102 = .ok (.lastore, 1) := dz_at (i := 23) dy_p08_2 rfl
theorem dX4_sort_103 : decode cX4_sort 103 = .ok (.iinc 3 1, 3) := dz_at (i := 24) dy_p08_2 rfl
theorem dX4_sort_106 : decode cX4_sort 106 = .ok (.goto (-56), 3) := dz_at (i := 25) dy_p08_2 rfl
theorem dX4_sort_109 : decode cX4_sort 109 = .ok (.iinc 2 1, 3) := dz_at (i := 26) dy_p08_2 rfl
theorem dX4_sort_112 : decode cX4_sort 112 = .ok (.goto (-72), 3) := dz_at (i := 27) dy_p08_2 rfl
theorem dX4_sort_115 : decode cX4_sort 115 = .ok (.iconst 0, 1) := dz_at (i := 28) dy_p08_2 rfl
theorem dX4_sort_116 : decode cX4_sort 116 = .ok (.istore_n 2, 1) := dz_at (i := 29) dy_p08_2 rfl
theorem dX4_sort_117 : decode cX4_sort 117 = .ok (.iconst 0, 1) := dz_at (i := 30) dy_p08_2 rfl
theorem dX4_sort_118 : decode cX4_sort 118 = .ok (.istore_n 3, 1) := dz_at (i := 31) dy_p08_2 rfl
theorem dX4_sort_119 : decode cX4_sort 119 = .ok (.iload_n 3, 1) := dz_at (i := 32) dy_p08_2 rfl
theorem dX4_sort_120 : decode cX4_sort 120 = .ok (.bipush 8, 2) := dz_at (i := 33) dy_p08_2 rfl
theorem dX4_sort_122 : decode cX4_sort 122 = .ok (.if_icmp .ge 30, 3) := dz_at (i := 34) dy_p08_2 rfl
theorem dX4_sort_125 : decode cX4_sort 125 = .ok (.iload_n 2, 1) := dz_at (i := 35) dy_p08_2 rfl
theorem dX4_sort_126 : decode cX4_sort 126 = .ok (.aload_n 0, 1) := dz_at (i := 36) dy_p08_2 rfl
theorem dX4_sort_127 : decode cX4_sort 127 = .ok (.getfield 9, 3) := dz_at (i := 37) dy_p08_2 rfl
theorem dX4_sort_130 : decode cX4_sort 130 = .ok (.iload_n 3, 1) := dz_at (i := 38) dy_p08_2 rfl
theorem dX4_sort_131 : decode cX4_sort 131 = .ok (.laload, 1) := dz_at (i := 39) dy_p08_2 rfl
noncomputable def dz_p08_3 : List (Nat × Instr × Nat) := [(132, (.aload_n 1, 1)), (133, (.iload_n 3, 1)), (134, (.laload, 1)), (135, (.lcmp, 1)), (136, (.ifCond .ne 7, 3)), (139, (.iconst 0, 1)), (140, (.goto 4, 3)), (143, (.iconst 1, 1)), (144, (.iadd, 1)), (145, (.istore_n 2, 1)), (146, (.iinc 3 1, 3)), (149, (.goto (-30), 3)), (152, (.iload_n 2, 1)), (153, (.ireturn, 1))]
theorem dy_p08_3 : dz_ok cX4_sort dz_p08_3 = true := by decide +kernel
theorem dX4_sort_132 : decode cX4_sort 132 = .ok (.aload_n 1, 1) := dz_at (i := 0) dy_p08_3 rfl
theorem dX4_sort_133 : decode cX4_sort 133 = .ok (.iload_n 3, 1) := dz_at (i := 1) dy_p08_3 rfl
theorem dX4_sort_134 : decode cX4_sort 134 = .ok (.laload, 1) := dz_at (i := 2) dy_p08_3 rfl
theorem dX4_sort_135 : decode cX4_sort 135 = .ok (.lcmp, 1) := dz_at (i := 3) dy_p08_3 rfl
theorem dX4_sort_136 : decode cX4_sort 136 = .ok (.ifCond .ne 7, 3) := dz_at (i := 4) dy_p08_3 rfl
theorem dX4_sort_139 : decode cX4_sort 139 = .ok (.iconst 0, 1) := dz_at (i := 5) dy_p08_3 rfl
theorem dX4_sort_140 : decode cX4_sort 140 = .ok (.goto 4, 3) := dz_at (i := 6) dy_p08_3 rfl
theorem dX4_sort_143 : decode cX4_sort 143 = .ok (.iconst 1, 1) := dz_at (i := 7) dy_p08_3 rfl
theorem dX4_sort_144 : decode cX4_sort 144 = .ok (.iadd, 1) := dz_at (i := 8) dy_p08_3 rfl
theorem dX4_sort_145 : decode cX4_sort 145 = .ok (.istore_n 2, 1) := dz_at (i := 9) dy_p08_3 rfl
theorem dX4_sort_146 : decode cX4_sort 146 = .ok (.iinc 3 1, 3) := dz_at (i := 10) dy_p08_3 rfl
theorem dX4_sort_149 : decode cX4_sort 149 = .ok (.goto (-30), 3) := dz_at (i := 11) dy_p08_3 rfl
theorem dX4_sort_152 : decode cX4_sort 152 = .ok (.iload_n 2, 1) := dz_at (i := 12) dy_p08_3 rfl
theorem dX4_sort_153 : decode cX4_sort 153 = .ok (.ireturn, 1) := dz_at (i := 13) dy_p08_3 rfl
noncomputable def L_msa (f : Nat → Int64) : Nat → Nat → (Nat → Int64) → (Nat → Int64)
  | 0, _, g9 => g9
  | nmsa + 1, imsa, g9 => L_msa f nmsa (imsa + 1) (vp_updL g9 imsa (f imsa))
noncomputable def L_msn (w : Bool) (imsk : Nat) : Nat → Nat → (Nat → Int64) → (Nat → Int64)
  | 0, _, f9 => f9
  | nmsn + 1, imsn, f9 => if 0 ≤ (o_X4_order w (f9 imsn) (f9 imsk)) then L_msn w imsk nmsn (imsn + 1) f9
    else L_msn w imsk nmsn (imsn + 1) (vp_updL (vp_updL f9 imsk (f9 imsn)) imsn (f9 imsk))
noncomputable def L_msk (w : Bool) : Nat → Nat → (Nat → Int64) → (Nat → Int64)
  | 0, _, f8 => f8
  | nmsk + 1, imsk, f8 => L_msk w nmsk (imsk + 1) (L_msn w imsk (8 - (imsk + 1)) (imsk + 1) f8)
noncomputable def L_msc (w : Bool) (f : Nat → Int64) : Nat → Nat → Int32 → Int32
  | 0, _, v => v
  | nmsc + 1, imsc, v => if ((L_msk w 8 0 f) imsc) = ((L_msa f 8 0 (fun _ => 0)) imsc) then L_msc w f nmsc (imsc + 1) (v + 0)
    else L_msc w f nmsc (imsc + 1) (v + 1)
noncomputable def o_X4_sort (w : Bool) (a : Int32) (f : Nat → Int64)  : Int32 × Int32 × (Nat → Int64) :=
  ((L_msc w f 8 0 0), (a + 1), (L_msk w 8 0 f))
set_option maxHeartbeats 4000000 in
set_option maxRecDepth 100000 in
theorem k_X4_sort (l : Launch) (dC : Nat → ClassId) (dI : Nat → Nat → Nat) (cy : ClassId) (h0 : Nat) (hc : Nat) (w : Bool) (a : Int32) (f : Nat → Int64) (sz : Nat) (N : Nat)  : Met l yX4_sort wsX4_sort ({ frames := 4, cells := 1, slots := 8, locals := 88 }) (va_Pc [.ref h0] (xM (dC, dI) xCl [(h0, eMR w hc a), (hc, eA cy f)] [(cy, .long)] sz N)) (va_Qi (fun (r : Int32) (_ : Unit) => r = (o_X4_sort w a f).1) (fun _ t => xW (dC, dI) xCl [(h0, eMR w hc (o_X4_sort w a f).2.1), (hc, eA cy (o_X4_sort w a f).2.2)] (va_A [(h0, eMR w hc a), (hc, eA cy f)] sz) t) (va_A [(h0, eMR w hc a), (hc, eA cy f)] sz)) 1 8 (va_A [(h0, eMR w hc a), (hc, eA cy f)] sz) := by
  refine Met.ofW (cc := cX4_sort) (maxL := 6) (ret := (some .int)) (by decide +kernel) rfl ?_
  intro p e s m args below meth c s₁ B hml hv
  obtain ⟨rfl, hsz, hP, hK, hD0, hN, hG⟩ := hv
  have hx := B.exec
  have hb := B.bytes
  have hr := B.returns
  have hts := atoms_spec (ws := wsX4_sort) B.pre
  have hown : s.vm.findClass RX4 = some m.cls := findClass_of_methodNamed B.named
  have hlocks := B.notSynchronized
  subst hsz
  have hAN : ∀ q, va_A [(h0, eMR w hc a), (hc, eA cy f)] s.heap.size q → N ≤ q := xA_N hD0 hN
  have hD := hD0.self (sz := s.heap.size)
  generalize hAe : va_A [(h0, eMR w hc a), (hc, eA cy f)] s.heap.size = A at hD hAN ⊢
  have hA : ∀ q : Nat, s.heap.size ≤ q → A q := fun q h => by rw [← hAe]; exact Or.inr h
  have hS : va_S A s.heap s.heap [] := va_S.rf
  have hP : va_P (dC, dI) xCl [(h0, eMR w hc a), (hc, eA cy f)] s.heap := hP
  have hl := lv_entry ([.ref h0]) (n := 6) (Nat.le_of_ble_eq_true rfl)
  rw [lg_entry_eq]
  generalize (lg_sl ([.ref h0]) ++ List.replicate (6 - (lg_sl ([.ref h0])).length) Slot.unset).toArray = ls at hl ⊢
  have hl : lv_has ls 6 [(0, .ref h0)] := hl
  refine lv_aload_n hx hb dX4_sort_0 rfl (lv_at hl 0 rfl) ?_
  refine lv_dup hx hb dX4_sort_1 rfl ?_
  refine va_get (D := (dC, dI)) (ci := 6) (v := .int a) (C := RX4) (T := TX4) (N := 5) hx hb hts (by decide +kernel) hown hK hP 0 rfl rfl 4 (by decide +kernel) (hts (.fieldLink RX4 70 "EdgefloatsModel$Row" "acts" "I") (by decide +kernel)) (fun _ h9 => h9) rfl dX4_sort_2 ?_
  refine lv_iconst (v := 1) hx hb dX4_sort_5 (by decide +kernel) ?_
  refine lv_iadd hx hb dX4_sort_6 ?_
  refine va_put (D := (dC, dI)) (ci := 6) (v := .int (a + 1)) (ty := .int) (C := RX4) (T := TX4) (N := 5) hx hb hts (by decide +kernel) tyX4 tyX4_ok nmX4 hown hK hP hD hS 0 rfl rfl 4 (by decide +kernel) (hts (.fieldLink RX4 70 "EdgefloatsModel$Row" "acts" "I") (by decide +kernel)) (fun _ h9 => h9) rfl (by decide +kernel) rfl rfl (Nat.le_of_ble_eq_true rfl) dX4_sort_7 (fun H locs hP hD hS => ?_)
  have hP : va_P (dC, dI) xCl [(h0, eMR w hc (a + 1)), (hc, eA cy f)] H := hP
  have hD : va_D A [(h0, eMR w hc (a + 1)), (hc, eA cy f)] := hD
  refine lv_bipush (v := 8) hx hb dX4_sort_10 (by decide +kernel) ?_
  refine va_newa (atype := .long) (a0 := (8, .inr (.inl (fun _ => 0)))) (N' := 8) hx hb (hts (.arrayClass .long) (by decide +kernel)) rfl hK hP hD hS hA (fun cA => rfl) (by decide +kernel) (by decide +kernel) (by decide +kernel) (Nat.le_of_ble_eq_true rfl) (Nat.le_of_ble_eq_true rfl) dX4_sort_12 (fun q12 cA H hK9 hP hD hS => ?_)
  have hcA : cA = cy := Option.some.inj (((hK9.2 1 _ rfl).2.symm).trans (hK.2 0 _ rfl).2)
  rw [hcA] at hP hD
  have hP : va_P (dC, dI) xCl [(h0, eMR w hc (a + 1)), (hc, eA cy f), (q12, eA cy (fun _ => 0))] H := hP
  have hD : va_D A [(h0, eMR w hc (a + 1)), (hc, eA cy f), (q12, eA cy (fun _ => 0))] := hD
  refine lv_astore_n (lv' := [(1, .ref q12), (0, .ref h0)]) hx hb dX4_sort_14 rfl hl (by decide +kernel) rfl (fun ls hl => ?_)
  refine lv_iconst (v := 0) hx hb dX4_sort_15 (by decide +kernel) ?_
  refine lv_istore_n (lv' := [(2, .int 0), (1, .ref q12), (0, .ref h0)]) hx hb dX4_sort_16 rfl hl (by decide +kernel) rfl (fun ls hl => ?_)
  have loop_msa : ∀ (nmsa imsa : Nat) (g9 : Nat → Int64) (H : Heap) (locs : List Loc) (ls : Array Slot), imsa + nmsa = 8 → 0 ≤ imsa → (L_msa f 8 0 (fun _ => 0)) = L_msa f nmsa imsa g9 → va_P (dC, dI) xCl [(h0, eMR w hc (a + 1)), (hc, eA cy f), (q12, eA cy g9)] H → va_D A [(h0, eMR w hc (a + 1)), (hc, eA cy f), (q12, eA cy g9)] → va_S A s.heap H locs → lv_has ls 6 [(2, .int (nI imsa)), (1, .ref q12), (0, .ref h0)] → (∀ (H : Heap) (locs : List Loc) (ls : Array Slot), va_P (dC, dI) xCl [(h0, eMR w hc (a + 1)), (hc, eA cy f), (q12, eA cy (L_msa f 8 0 (fun _ => 0)))] H → va_D A [(h0, eMR w hc (a + 1)), (hc, eA cy f), (q12, eA cy (L_msa f 8 0 (fun _ => 0)))] → va_S A s.heap H locs → lv_has ls 6 [(1, .ref q12), (0, .ref h0)] → W p l e (headSpec wsX4_sort ({ frames := 4, cells := 1, slots := 8, locals := 88 } : Room)).room s m ([.ref h0]).toArray below meth c H locs 1 8 (MQ below (va_Qi (fun (r : Int32) (_ : Unit) => r = (o_X4_sort w a f).1) (fun _ t => xW (dC, dI) xCl [(h0, eMR w hc (o_X4_sort w a f).2.1), (hc, eA cy (o_X4_sort w a f).2.2)] A t) A) ([.ref h0]).toArray s 1 8 A) (F0 m 38 ls [])) → W p l e (headSpec wsX4_sort ({ frames := 4, cells := 1, slots := 8, locals := 88 } : Room)).room s m ([.ref h0]).toArray below meth c H locs 1 8 (MQ below (va_Qi (fun (r : Int32) (_ : Unit) => r = (o_X4_sort w a f).1) (fun _ t => xW (dC, dI) xCl [(h0, eMR w hc (o_X4_sort w a f).2.1), (hc, eA cy (o_X4_sort w a f).2.2)] A t) A) ([.ref h0]).toArray s 1 8 A) (F0 m 17 ls []) := by
    intro nmsa
    induction nmsa with
    | zero =>
      intro imsa g9 H locs ls hin_msa his_msa hsp_msa hP hD hS hl K_msa
      have hv : (L_msa f 8 0 (fun _ => 0)) = g9 := hsp_msa
      subst hv
      have hi8 : imsa = 8 := by omega
      refine lv_iload_n hx hb dX4_sort_17 rfl (lv_at hl 0 rfl) ?_
      refine lv_bipush (v := 8) hx hb dX4_sort_18 (by decide +kernel) ?_
      refine lv_icmp_ge (tgt := 38) hx hb dX4_sort_20 (by decide +kernel) (fun c9 => ?_) (fun c9 => absurd (by rw [hi8]; decide) c9)
      exact K_msa _ _ _ hP hD hS (lv_sub hl [1, 2] rfl)
    | succ nmsa ih_msa =>
      intro imsa g9 H locs ls hin_msa his_msa hsp_msa hP hD hS hl K_msa
      refine lv_iload_n hx hb dX4_sort_17 rfl (lv_at hl 0 rfl) ?_
      refine lv_bipush (v := 8) hx hb dX4_sort_18 (by decide +kernel) ?_
      refine lv_icmp_ge (tgt := 38) hx hb dX4_sort_20 (by decide +kernel) (fun c9 => absurd c9 (show ¬ (8 : Int32) ≤ nI imsa from nI_ge (a := imsa) (b := 8) (by omega) (by decide +kernel))) (fun c9 => ?_)
      refine lv_aload_n hx hb dX4_sort_23 rfl (lv_at hl 1 rfl) ?_
      refine lv_iload_n hx hb dX4_sort_24 rfl (lv_at hl 0 rfl) ?_
      refine lv_aload_n hx hb dX4_sort_25 rfl (lv_at hl 2 rfl) ?_
      refine va_get (D := (dC, dI)) (ci := 6) (v := .ref hc) (C := RX4) (T := TX4) (N := 5) hx hb hts (by decide +kernel) hown hK hP 0 rfl rfl 3 (by decide +kernel) (hts (.fieldLink RX4 9 "EdgefloatsModel$Row" "cells" "[J") (by decide +kernel)) (fun _ h9 => h9) rfl dX4_sort_26 ?_
      refine lv_iload_n hx hb dX4_sort_29 rfl (lv_at hl 0 rfl) ?_
      refine xa_lald hx hb hK hP 1 0 (f := f) rfl rfl (k := imsa) (vp_in_nI (n := imsa) (N := 8) (by omega) (by decide +kernel)) (nI_clamp (n := imsa) (by omega)) dX4_sort_30 ?_
      refine xa_last hx hb hK hP hD hS 2 0 (f := g9) rfl rfl (k := imsa) (vp_in_nI (n := imsa) (N := 8) (by omega) (by decide +kernel)) (nI_clamp (n := imsa) (by omega)) dX4_sort_31 (fun H locs hP hD hS => ?_)
      have hP : va_P (dC, dI) xCl [(h0, eMR w hc (a + 1)), (hc, eA cy f), (q12, eA cy (vp_updL g9 imsa (f imsa)))] H := hP
      have hD : va_D A [(h0, eMR w hc (a + 1)), (hc, eA cy f), (q12, eA cy (vp_updL g9 imsa (f imsa)))] := hD
      refine lv_iinc (v := (nI (imsa + 1))) (lv' := [(2, .int (nI (imsa + 1))), (1, .ref q12), (0, .ref h0)]) hx hb dX4_sort_32 hl (k := 0) rfl (nI_1 imsa) (by decide +kernel) rfl (fun ls hl => ?_)
      refine lv_goto (tgt := 17) hx hb dX4_sort_35 (by decide +kernel) ?_
      refine W.widen (k := 1) (n := 8) (Nat.le_refl _) (Nat.le_refl _) ?_
      exact ih_msa (imsa + 1) (vp_updL g9 imsa (f imsa)) _ _ _ (by omega) (by omega) (hsp_msa.trans (by (rw [L_msa]) <;> rfl)) hP hD hS (lv_sub hl [0, 1, 2] rfl) K_msa
  refine loop_msa 8 0 (fun _ => 0) _ _ _ (by omega) (by omega) rfl hP hD hS (lv_sub hl [0, 1, 2] rfl) (fun H locs ls hP hD hS hl => ?_)
  refine lv_iconst (v := 0) hx hb dX4_sort_38 (by decide +kernel) ?_
  refine lv_istore_n (lv' := [(2, .int 0), (1, .ref q12), (0, .ref h0)]) hx hb dX4_sort_39 rfl hl (by decide +kernel) rfl (fun ls hl => ?_)
  have loop_msk : ∀ (nmsk imsk : Nat) (f8 : Nat → Int64) (H : Heap) (locs : List Loc) (ls : Array Slot), imsk + nmsk = 8 → 0 ≤ imsk → (L_msk w 8 0 f) = L_msk w nmsk imsk f8 → va_P (dC, dI) xCl [(h0, eMR w hc (a + 1)), (hc, eA cy f8), (q12, eA cy (L_msa f 8 0 (fun _ => 0)))] H → va_D A [(h0, eMR w hc (a + 1)), (hc, eA cy f8), (q12, eA cy (L_msa f 8 0 (fun _ => 0)))] → va_S A s.heap H locs → lv_has ls 6 [(2, .int (nI imsk)), (1, .ref q12), (0, .ref h0)] → (∀ (H : Heap) (locs : List Loc) (ls : Array Slot), va_P (dC, dI) xCl [(h0, eMR w hc (a + 1)), (hc, eA cy (L_msk w 8 0 f)), (q12, eA cy (L_msa f 8 0 (fun _ => 0)))] H → va_D A [(h0, eMR w hc (a + 1)), (hc, eA cy (L_msk w 8 0 f)), (q12, eA cy (L_msa f 8 0 (fun _ => 0)))] → va_S A s.heap H locs → lv_has ls 6 [(1, .ref q12), (0, .ref h0)] → W p l e (headSpec wsX4_sort ({ frames := 4, cells := 1, slots := 8, locals := 88 } : Room)).room s m ([.ref h0]).toArray below meth c H locs 1 8 (MQ below (va_Qi (fun (r : Int32) (_ : Unit) => r = (o_X4_sort w a f).1) (fun _ t => xW (dC, dI) xCl [(h0, eMR w hc (o_X4_sort w a f).2.1), (hc, eA cy (o_X4_sort w a f).2.2)] A t) A) ([.ref h0]).toArray s 1 8 A) (F0 m 115 ls [])) → W p l e (headSpec wsX4_sort ({ frames := 4, cells := 1, slots := 8, locals := 88 } : Room)).room s m ([.ref h0]).toArray below meth c H locs 1 8 (MQ below (va_Qi (fun (r : Int32) (_ : Unit) => r = (o_X4_sort w a f).1) (fun _ t => xW (dC, dI) xCl [(h0, eMR w hc (o_X4_sort w a f).2.1), (hc, eA cy (o_X4_sort w a f).2.2)] A t) A) ([.ref h0]).toArray s 1 8 A) (F0 m 40 ls []) := by
    intro nmsk
    induction nmsk with
    | zero =>
      intro imsk f8 H locs ls hin_msk his_msk hsp_msk hP hD hS hl K_msk
      have hv : (L_msk w 8 0 f) = f8 := hsp_msk
      subst hv
      have hi8 : imsk = 8 := by omega
      refine lv_iload_n hx hb dX4_sort_40 rfl (lv_at hl 0 rfl) ?_
      refine lv_bipush (v := 8) hx hb dX4_sort_41 (by decide +kernel) ?_
      refine lv_icmp_ge (tgt := 115) hx hb dX4_sort_43 (by decide +kernel) (fun c9 => ?_) (fun c9 => absurd (by rw [hi8]; decide) c9)
      exact K_msk _ _ _ hP hD hS (lv_sub hl [1, 2] rfl)
    | succ nmsk ih_msk =>
      intro imsk f8 H locs ls hin_msk his_msk hsp_msk hP hD hS hl K_msk
      refine lv_iload_n hx hb dX4_sort_40 rfl (lv_at hl 0 rfl) ?_
      refine lv_bipush (v := 8) hx hb dX4_sort_41 (by decide +kernel) ?_
      refine lv_icmp_ge (tgt := 115) hx hb dX4_sort_43 (by decide +kernel) (fun c9 => absurd c9 (show ¬ (8 : Int32) ≤ nI imsk from nI_ge (a := imsk) (b := 8) (by omega) (by decide +kernel))) (fun c9 => ?_)
      refine lv_iload_n hx hb dX4_sort_46 rfl (lv_at hl 0 rfl) ?_
      refine lv_iconst (v := 1) hx hb dX4_sort_47 (by decide +kernel) ?_
      refine lv_iadd hx hb dX4_sort_48 ?_
      rw [nI_1 imsk]
      refine lv_istore_n (lv' := [(3, .int (nI (imsk + 1))), (2, .int (nI imsk)), (1, .ref q12), (0, .ref h0)]) hx hb dX4_sort_49 rfl hl (by decide +kernel) rfl (fun ls hl => ?_)
      have loop_msn : ∀ (nmsn imsn : Nat) (f9 : Nat → Int64) (H : Heap) (locs : List Loc) (ls : Array Slot), imsn + nmsn = 8 → imsk + 1 ≤ imsn → (L_msn w imsk (8 - (imsk + 1)) (imsk + 1) f8) = L_msn w imsk nmsn imsn f9 → va_P (dC, dI) xCl [(h0, eMR w hc (a + 1)), (hc, eA cy f9), (q12, eA cy (L_msa f 8 0 (fun _ => 0)))] H → va_D A [(h0, eMR w hc (a + 1)), (hc, eA cy f9), (q12, eA cy (L_msa f 8 0 (fun _ => 0)))] → va_S A s.heap H locs → lv_has ls 6 [(3, .int (nI imsn)), (2, .int (nI imsk)), (1, .ref q12), (0, .ref h0)] → (∀ (H : Heap) (locs : List Loc) (ls : Array Slot), va_P (dC, dI) xCl [(h0, eMR w hc (a + 1)), (hc, eA cy (L_msn w imsk (8 - (imsk + 1)) (imsk + 1) f8)), (q12, eA cy (L_msa f 8 0 (fun _ => 0)))] H → va_D A [(h0, eMR w hc (a + 1)), (hc, eA cy (L_msn w imsk (8 - (imsk + 1)) (imsk + 1) f8)), (q12, eA cy (L_msa f 8 0 (fun _ => 0)))] → va_S A s.heap H locs → lv_has ls 6 [(2, .int (nI imsk)), (1, .ref q12), (0, .ref h0)] → W p l e (headSpec wsX4_sort ({ frames := 4, cells := 1, slots := 8, locals := 88 } : Room)).room s m ([.ref h0]).toArray below meth c H locs 1 8 (MQ below (va_Qi (fun (r : Int32) (_ : Unit) => r = (o_X4_sort w a f).1) (fun _ t => xW (dC, dI) xCl [(h0, eMR w hc (o_X4_sort w a f).2.1), (hc, eA cy (o_X4_sort w a f).2.2)] A t) A) ([.ref h0]).toArray s 1 8 A) (F0 m 109 ls [])) → W p l e (headSpec wsX4_sort ({ frames := 4, cells := 1, slots := 8, locals := 88 } : Room)).room s m ([.ref h0]).toArray below meth c H locs 1 8 (MQ below (va_Qi (fun (r : Int32) (_ : Unit) => r = (o_X4_sort w a f).1) (fun _ t => xW (dC, dI) xCl [(h0, eMR w hc (o_X4_sort w a f).2.1), (hc, eA cy (o_X4_sort w a f).2.2)] A t) A) ([.ref h0]).toArray s 1 8 A) (F0 m 50 ls []) := by
        intro nmsn
        induction nmsn with
        | zero =>
          intro imsn f9 H locs ls hin_msn his_msn hsp_msn hP hD hS hl K_msn
          have hv : (L_msn w imsk (8 - (imsk + 1)) (imsk + 1) f8) = f9 := hsp_msn
          subst hv
          have hi8 : imsn = 8 := by omega
          refine lv_iload_n hx hb dX4_sort_50 rfl (lv_at hl 0 rfl) ?_
          refine lv_bipush (v := 8) hx hb dX4_sort_51 (by decide +kernel) ?_
          refine lv_icmp_ge (tgt := 109) hx hb dX4_sort_53 (by decide +kernel) (fun c9 => ?_) (fun c9 => absurd (by rw [hi8]; decide) c9)
          exact K_msn _ _ _ hP hD hS (lv_sub hl [1, 2, 3] rfl)
        | succ nmsn ih_msn =>
          intro imsn f9 H locs ls hin_msn his_msn hsp_msn hP hD hS hl K_msn
          refine lv_iload_n hx hb dX4_sort_50 rfl (lv_at hl 0 rfl) ?_
          refine lv_bipush (v := 8) hx hb dX4_sort_51 (by decide +kernel) ?_
          refine lv_icmp_ge (tgt := 109) hx hb dX4_sort_53 (by decide +kernel) (fun c9 => absurd c9 (show ¬ (8 : Int32) ≤ nI imsn from nI_ge (a := imsn) (b := 8) (by omega) (by decide +kernel))) (fun c9 => ?_)
          refine lv_aload_n hx hb dX4_sort_56 rfl (lv_at hl 3 rfl) ?_
          refine lv_aload_n hx hb dX4_sort_57 rfl (lv_at hl 3 rfl) ?_
          refine va_get (D := (dC, dI)) (ci := 6) (v := .ref hc) (C := RX4) (T := TX4) (N := 5) hx hb hts (by decide +kernel) hown hK hP 0 rfl rfl 3 (by decide +kernel) (hts (.fieldLink RX4 9 "EdgefloatsModel$Row" "cells" "[J") (by decide +kernel)) (fun _ h9 => h9) rfl dX4_sort_58 ?_
          refine lv_iload_n hx hb dX4_sort_61 rfl (lv_at hl 0 rfl) ?_
          refine xa_lald hx hb hK hP 1 0 (f := f9) rfl rfl (k := imsn) (vp_in_nI (n := imsn) (N := 8) (by omega) (by decide +kernel)) (nI_clamp (n := imsn) (by omega)) dX4_sort_62 ?_
          refine lv_aload_n hx hb dX4_sort_63 rfl (lv_at hl 3 rfl) ?_
          refine va_get (D := (dC, dI)) (ci := 6) (v := .ref hc) (C := RX4) (T := TX4) (N := 5) hx hb hts (by decide +kernel) hown hK hP 0 rfl rfl 3 (by decide +kernel) (hts (.fieldLink RX4 9 "EdgefloatsModel$Row" "cells" "[J") (by decide +kernel)) (fun _ h9 => h9) rfl dX4_sort_64 ?_
          refine lv_iload_n hx hb dX4_sort_67 rfl (lv_at hl 1 rfl) ?_
          refine xa_lald hx hb hK hP 1 0 (f := f9) rfl rfl (k := imsk) (vp_in_nI (n := imsk) (N := 8) (by omega) (by decide +kernel)) (nI_clamp (n := imsk) (by omega)) dX4_sort_68 ?_
          have hPc := hP.sub (ws' := [(h0, eMR w hc (a + 1)), (hc, eA cy f9)]) [0, 1] rfl
          have hKc := hK.sub (tys' := [(cy, .long)]) [0] rfl
          refine va_calli (va_runV (As := [.long (f9 imsn), .long (f9 imsk)]) (rest := []) ⟨hx, hb, hml, hown, hts⟩ (k_X4_order l dC dI cy h0 hc w (a + 1) f9 H.size (f9 imsn) (f9 imsk)) (cwV 2 hts gX4_sort_X4_order rfl rfl rfl (by decide +kernel) ⟨Nat.le_of_ble_eq_true rfl, Nat.le_of_ble_eq_true rfl⟩) (xB.preV hKc hPc (ci := 6) (q0 := 0) rfl rfl) rfl rfl hl.1 rfl (lv_room (Nat.le_of_ble_eq_true rfl)) dX4_sort_69 ⟨Nat.le_of_ble_eq_true rfl, Nat.le_of_ble_eq_true rfl⟩) hS xA_old (fun q h => hA q (Nat.le_trans hS.1 h)) (fun r_1 u t H locs ht hvm hw hB hz hk hS => ?_)
          replace hw : r_1 = (o_X4_order w (f9 imsn) (f9 imsk)) := hw
          subst r_1
          have hP := xP_keep hP hk
          refine lv_if_ge (tgt := 103) hx hb dX4_sort_72 (by decide +kernel) (fun c_2 => ?_) (fun c_2 => ?_)
          · skip
            refine lv_iinc (v := (nI (imsn + 1))) (lv' := [(3, .int (nI (imsn + 1))), (2, .int (nI imsk)), (1, .ref q12), (0, .ref h0)]) hx hb dX4_sort_103 hl (k := 0) rfl (nI_1 imsn) (by decide +kernel) rfl (fun ls hl => ?_)
            refine lv_goto (tgt := 50) hx hb dX4_sort_106 (by decide +kernel) ?_
            refine W.widen (k := 1) (n := 8) (Nat.le_refl _) (Nat.le_refl _) ?_
            exact ih_msn (imsn + 1) f9 _ _ _ (by omega) (by omega) (hsp_msn.trans (by (rw [L_msn, if_pos c_2]) <;> rfl)) hP hD hS (lv_sub hl [0, 1, 2, 3] rfl) K_msn
          · skip
            refine lv_aload_n hx hb dX4_sort_75 rfl (lv_at hl 3 rfl) ?_
            refine va_get (D := (dC, dI)) (ci := 6) (v := .ref hc) (C := RX4) (T := TX4) (N := 5) hx hb hts (by decide +kernel) hown hK hP 0 rfl rfl 3 (by decide +kernel) (hts (.fieldLink RX4 9 "EdgefloatsModel$Row" "cells" "[J") (by decide +kernel)) (fun _ h9 => h9) rfl dX4_sort_76 ?_
            refine lv_iload_n hx hb dX4_sort_79 rfl (lv_at hl 1 rfl) ?_
            refine xa_lald hx hb hK hP 1 0 (f := f9) rfl rfl (k := imsk) (vp_in_nI (n := imsk) (N := 8) (by omega) (by decide +kernel)) (nI_clamp (n := imsk) (by omega)) dX4_sort_80 ?_
            refine lv_lstore (lv' := [(4, .long (f9 imsk)), (3, .int (nI imsn)), (2, .int (nI imsk)), (1, .ref q12), (0, .ref h0)]) hx hb dX4_sort_81 hl (by decide +kernel) rfl (fun ls hl => ?_)
            refine lv_aload_n hx hb dX4_sort_83 rfl (lv_at hl 4 rfl) ?_
            refine va_get (D := (dC, dI)) (ci := 6) (v := .ref hc) (C := RX4) (T := TX4) (N := 5) hx hb hts (by decide +kernel) hown hK hP 0 rfl rfl 3 (by decide +kernel) (hts (.fieldLink RX4 9 "EdgefloatsModel$Row" "cells" "[J") (by decide +kernel)) (fun _ h9 => h9) rfl dX4_sort_84 ?_
            refine lv_iload_n hx hb dX4_sort_87 rfl (lv_at hl 2 rfl) ?_
            refine lv_aload_n hx hb dX4_sort_88 rfl (lv_at hl 4 rfl) ?_
            refine va_get (D := (dC, dI)) (ci := 6) (v := .ref hc) (C := RX4) (T := TX4) (N := 5) hx hb hts (by decide +kernel) hown hK hP 0 rfl rfl 3 (by decide +kernel) (hts (.fieldLink RX4 9 "EdgefloatsModel$Row" "cells" "[J") (by decide +kernel)) (fun _ h9 => h9) rfl dX4_sort_89 ?_
            refine lv_iload_n hx hb dX4_sort_92 rfl (lv_at hl 1 rfl) ?_
            refine xa_lald hx hb hK hP 1 0 (f := f9) rfl rfl (k := imsn) (vp_in_nI (n := imsn) (N := 8) (by omega) (by decide +kernel)) (nI_clamp (n := imsn) (by omega)) dX4_sort_93 ?_
            refine xa_last hx hb hK hP hD hS 1 0 (f := f9) rfl rfl (k := imsk) (vp_in_nI (n := imsk) (N := 8) (by omega) (by decide +kernel)) (nI_clamp (n := imsk) (by omega)) dX4_sort_94 (fun H locs hP hD hS => ?_)
            have hP : va_P (dC, dI) xCl [(h0, eMR w hc (a + 1)), (hc, eA cy (vp_updL f9 imsk (f9 imsn))), (q12, eA cy (L_msa f 8 0 (fun _ => 0)))] H := hP
            have hD : va_D A [(h0, eMR w hc (a + 1)), (hc, eA cy (vp_updL f9 imsk (f9 imsn))), (q12, eA cy (L_msa f 8 0 (fun _ => 0)))] := hD
            refine lv_aload_n hx hb dX4_sort_95 rfl (lv_at hl 4 rfl) ?_
            refine va_get (D := (dC, dI)) (ci := 6) (v := .ref hc) (C := RX4) (T := TX4) (N := 5) hx hb hts (by decide +kernel) hown hK hP 0 rfl rfl 3 (by decide +kernel) (hts (.fieldLink RX4 9 "EdgefloatsModel$Row" "cells" "[J") (by decide +kernel)) (fun _ h9 => h9) rfl dX4_sort_96 ?_
            refine lv_iload_n hx hb dX4_sort_99 rfl (lv_at hl 1 rfl) ?_
            refine lv_lload hx hb dX4_sort_100 (lv_at hl 0 rfl) ?_
            refine xa_last hx hb hK hP hD hS 1 0 (f := (vp_updL f9 imsk (f9 imsn))) rfl rfl (k := imsn) (vp_in_nI (n := imsn) (N := 8) (by omega) (by decide +kernel)) (nI_clamp (n := imsn) (by omega)) dX4_sort_102 (fun H locs hP hD hS => ?_)
            have hP : va_P (dC, dI) xCl [(h0, eMR w hc (a + 1)), (hc, eA cy (vp_updL (vp_updL f9 imsk (f9 imsn)) imsn (f9 imsk))), (q12, eA cy (L_msa f 8 0 (fun _ => 0)))] H := hP
            have hD : va_D A [(h0, eMR w hc (a + 1)), (hc, eA cy (vp_updL (vp_updL f9 imsk (f9 imsn)) imsn (f9 imsk))), (q12, eA cy (L_msa f 8 0 (fun _ => 0)))] := hD
            refine lv_iinc (v := (nI (imsn + 1))) (lv' := [(3, .int (nI (imsn + 1))), (4, .long (f9 imsk)), (2, .int (nI imsk)), (1, .ref q12), (0, .ref h0)]) hx hb dX4_sort_103 hl (k := 1) rfl (nI_1 imsn) (by decide +kernel) rfl (fun ls hl => ?_)
            refine lv_goto (tgt := 50) hx hb dX4_sort_106 (by decide +kernel) ?_
            refine W.widen (k := 1) (n := 8) (Nat.le_refl _) (Nat.le_refl _) ?_
            exact ih_msn (imsn + 1) (vp_updL (vp_updL f9 imsk (f9 imsn)) imsn (f9 imsk)) _ _ _ (by omega) (by omega) (hsp_msn.trans (by (rw [L_msn, if_neg c_2]) <;> rfl)) hP hD hS (lv_sub hl [0, 2, 3, 4] rfl) K_msn
      refine loop_msn (8 - (imsk + 1)) (imsk + 1) f8 _ _ _ (by omega) (by omega) rfl hP hD hS (lv_sub hl [0, 1, 2, 3] rfl) (fun H locs ls hP hD hS hl => ?_)
      refine lv_iinc (v := (nI (imsk + 1))) (lv' := [(2, .int (nI (imsk + 1))), (1, .ref q12), (0, .ref h0)]) hx hb dX4_sort_109 hl (k := 0) rfl (nI_1 imsk) (by decide +kernel) rfl (fun ls hl => ?_)
      refine lv_goto (tgt := 40) hx hb dX4_sort_112 (by decide +kernel) ?_
      refine W.widen (k := 1) (n := 8) (Nat.le_refl _) (Nat.le_refl _) ?_
      exact ih_msk (imsk + 1) (L_msn w imsk (8 - (imsk + 1)) (imsk + 1) f8) _ _ _ (by omega) (by omega) (hsp_msk.trans (by (rw [L_msk]) <;> rfl)) hP hD hS (lv_sub hl [0, 1, 2] rfl) K_msk
  refine loop_msk 8 0 f _ _ _ (by omega) (by omega) rfl hP hD hS (lv_sub hl [0, 1, 2] rfl) (fun H locs ls hP hD hS hl => ?_)
  refine lv_iconst (v := 0) hx hb dX4_sort_115 (by decide +kernel) ?_
  refine lv_istore_n (lv' := [(2, .int 0), (1, .ref q12), (0, .ref h0)]) hx hb dX4_sort_116 rfl hl (by decide +kernel) rfl (fun ls hl => ?_)
  refine lv_iconst (v := 0) hx hb dX4_sort_117 (by decide +kernel) ?_
  refine lv_istore_n (lv' := [(3, .int 0), (2, .int 0), (1, .ref q12), (0, .ref h0)]) hx hb dX4_sort_118 rfl hl (by decide +kernel) rfl (fun ls hl => ?_)
  have loop_msc : ∀ (nmsc imsc : Nat) (v : Int32) (H : Heap) (locs : List Loc) (ls : Array Slot), imsc + nmsc = 8 → 0 ≤ imsc → (L_msc w f 8 0 0) = L_msc w f nmsc imsc v → va_P (dC, dI) xCl [(h0, eMR w hc (a + 1)), (hc, eA cy (L_msk w 8 0 f)), (q12, eA cy (L_msa f 8 0 (fun _ => 0)))] H → va_D A [(h0, eMR w hc (a + 1)), (hc, eA cy (L_msk w 8 0 f)), (q12, eA cy (L_msa f 8 0 (fun _ => 0)))] → va_S A s.heap H locs → lv_has ls 6 [(3, .int (nI imsc)), (2, .int v), (1, .ref q12), (0, .ref h0)] → (∀ (H : Heap) (locs : List Loc) (ls : Array Slot), va_P (dC, dI) xCl [(h0, eMR w hc (a + 1)), (hc, eA cy (L_msk w 8 0 f)), (q12, eA cy (L_msa f 8 0 (fun _ => 0)))] H → va_D A [(h0, eMR w hc (a + 1)), (hc, eA cy (L_msk w 8 0 f)), (q12, eA cy (L_msa f 8 0 (fun _ => 0)))] → va_S A s.heap H locs → lv_has ls 6 [(2, .int (L_msc w f 8 0 0)), (1, .ref q12), (0, .ref h0)] → W p l e (headSpec wsX4_sort ({ frames := 4, cells := 1, slots := 8, locals := 88 } : Room)).room s m ([.ref h0]).toArray below meth c H locs 1 8 (MQ below (va_Qi (fun (r : Int32) (_ : Unit) => r = (o_X4_sort w a f).1) (fun _ t => xW (dC, dI) xCl [(h0, eMR w hc (o_X4_sort w a f).2.1), (hc, eA cy (o_X4_sort w a f).2.2)] A t) A) ([.ref h0]).toArray s 1 8 A) (F0 m 152 ls [])) → W p l e (headSpec wsX4_sort ({ frames := 4, cells := 1, slots := 8, locals := 88 } : Room)).room s m ([.ref h0]).toArray below meth c H locs 1 8 (MQ below (va_Qi (fun (r : Int32) (_ : Unit) => r = (o_X4_sort w a f).1) (fun _ t => xW (dC, dI) xCl [(h0, eMR w hc (o_X4_sort w a f).2.1), (hc, eA cy (o_X4_sort w a f).2.2)] A t) A) ([.ref h0]).toArray s 1 8 A) (F0 m 119 ls []) := by
    intro nmsc
    induction nmsc with
    | zero =>
      intro imsc v H locs ls hin_msc his_msc hsp_msc hP hD hS hl K_msc
      have hv : (L_msc w f 8 0 0) = v := hsp_msc
      subst hv
      have hi8 : imsc = 8 := by omega
      refine lv_iload_n hx hb dX4_sort_119 rfl (lv_at hl 0 rfl) ?_
      refine lv_bipush (v := 8) hx hb dX4_sort_120 (by decide +kernel) ?_
      refine lv_icmp_ge (tgt := 152) hx hb dX4_sort_122 (by decide +kernel) (fun c9 => ?_) (fun c9 => absurd (by rw [hi8]; decide) c9)
      exact K_msc _ _ _ hP hD hS (lv_sub hl [1, 2, 3] rfl)
    | succ nmsc ih_msc =>
      intro imsc v H locs ls hin_msc his_msc hsp_msc hP hD hS hl K_msc
      refine lv_iload_n hx hb dX4_sort_119 rfl (lv_at hl 0 rfl) ?_
      refine lv_bipush (v := 8) hx hb dX4_sort_120 (by decide +kernel) ?_
      refine lv_icmp_ge (tgt := 152) hx hb dX4_sort_122 (by decide +kernel) (fun c9 => absurd c9 (show ¬ (8 : Int32) ≤ nI imsc from nI_ge (a := imsc) (b := 8) (by omega) (by decide +kernel))) (fun c9 => ?_)
      refine lv_iload_n hx hb dX4_sort_125 rfl (lv_at hl 1 rfl) ?_
      refine lv_aload_n hx hb dX4_sort_126 rfl (lv_at hl 3 rfl) ?_
      refine va_get (D := (dC, dI)) (ci := 6) (v := .ref hc) (C := RX4) (T := TX4) (N := 5) hx hb hts (by decide +kernel) hown hK hP 0 rfl rfl 3 (by decide +kernel) (hts (.fieldLink RX4 9 "EdgefloatsModel$Row" "cells" "[J") (by decide +kernel)) (fun _ h9 => h9) rfl dX4_sort_127 ?_
      refine lv_iload_n hx hb dX4_sort_130 rfl (lv_at hl 0 rfl) ?_
      refine xa_lald hx hb hK hP 1 0 (f := (L_msk w 8 0 f)) rfl rfl (k := imsc) (vp_in_nI (n := imsc) (N := 8) (by omega) (by decide +kernel)) (nI_clamp (n := imsc) (by omega)) dX4_sort_131 ?_
      refine lv_aload_n hx hb dX4_sort_132 rfl (lv_at hl 2 rfl) ?_
      refine lv_iload_n hx hb dX4_sort_133 rfl (lv_at hl 0 rfl) ?_
      refine xa_lald hx hb hK hP 2 0 (f := (L_msa f 8 0 (fun _ => 0))) rfl rfl (k := imsc) (vp_in_nI (n := imsc) (N := 8) (by omega) (by decide +kernel)) (nI_clamp (n := imsc) (by omega)) dX4_sort_134 ?_
      refine xc_ne (tgt := 143) hx hb dX4_sort_135 dX4_sort_136 (by decide +kernel) (fun c_3 => ?_) (fun c_3 => ?_)
      · skip
        refine lv_iconst (v := 1) hx hb dX4_sort_143 (by decide +kernel) ?_
        refine lv_iadd hx hb dX4_sort_144 ?_
        refine lv_istore_n (lv' := [(2, .int (v + 1)), (3, .int (nI imsc)), (1, .ref q12), (0, .ref h0)]) hx hb dX4_sort_145 rfl hl (by decide +kernel) rfl (fun ls hl => ?_)
        refine lv_iinc (v := (nI (imsc + 1))) (lv' := [(3, .int (nI (imsc + 1))), (2, .int (v + 1)), (1, .ref q12), (0, .ref h0)]) hx hb dX4_sort_146 hl (k := 1) rfl (nI_1 imsc) (by decide +kernel) rfl (fun ls hl => ?_)
        refine lv_goto (tgt := 119) hx hb dX4_sort_149 (by decide +kernel) ?_
        refine W.widen (k := 1) (n := 8) (Nat.le_refl _) (Nat.le_refl _) ?_
        exact ih_msc (imsc + 1) (v + 1) _ _ _ (by omega) (by omega) (hsp_msc.trans (by (rw [L_msc, if_neg c_3]) <;> rfl)) hP hD hS (lv_sub hl [0, 1, 2, 3] rfl) K_msc
      · skip
        refine lv_iconst (v := 0) hx hb dX4_sort_139 (by decide +kernel) ?_
        refine lv_goto (tgt := 144) hx hb dX4_sort_140 (by decide +kernel) ?_
        refine lv_iadd hx hb dX4_sort_144 ?_
        refine lv_istore_n (lv' := [(2, .int (v + 0)), (3, .int (nI imsc)), (1, .ref q12), (0, .ref h0)]) hx hb dX4_sort_145 rfl hl (by decide +kernel) rfl (fun ls hl => ?_)
        refine lv_iinc (v := (nI (imsc + 1))) (lv' := [(3, .int (nI (imsc + 1))), (2, .int (v + 0)), (1, .ref q12), (0, .ref h0)]) hx hb dX4_sort_146 hl (k := 1) rfl (nI_1 imsc) (by decide +kernel) rfl (fun ls hl => ?_)
        refine lv_goto (tgt := 119) hx hb dX4_sort_149 (by decide +kernel) ?_
        refine W.widen (k := 1) (n := 8) (Nat.le_refl _) (Nat.le_refl _) ?_
        exact ih_msc (imsc + 1) (v + 0) _ _ _ (by omega) (by omega) (hsp_msc.trans (by (rw [L_msc, if_pos c_3]) <;> rfl)) hP hD hS (lv_sub hl [0, 1, 2, 3] rfl) K_msc
  refine loop_msc 8 0 0 _ _ _ (by omega) (by omega) rfl hP hD hS (lv_sub hl [0, 1, 2, 3] rfl) (fun H locs ls hP hD hS hl => ?_)
  refine lv_iload_n hx hb dX4_sort_152 rfl (lv_at hl 0 rfl) ?_
  have he : o_X4_sort w a f = ((L_msc w f 8 0 0), (a + 1), (L_msk w 8 0 f)) := by (rw [o_X4_sort]) <;> rfl
  have hP := hP.sub (ws' := [(h0, eMR w hc (a + 1)), (hc, eA cy (L_msk w 8 0 f))]) [0, 1] rfl
  have hD := hD.sub (ws' := [(h0, eMR w hc (a + 1)), (hc, eA cy (L_msk w 8 0 f))]) [0, 1] (by decide +kernel) rfl
  refine W.widen (k := 1) (n := 8) (by omega) (by omega) ?_
  exact W.iret (v := (L_msc w f 8 0 0)) hx hb hr (fun t ht hW => ⟨⟨_, (), rfl, (by (rw [he]) <;> rfl), (by rw [he]; exact ⟨by rw [ht]; dsimp only; exact hP, by dsimp only; exact hD⟩)⟩, hS.F ht⟩) hS.2.2 dX4_sort_153
theorem cl_X4_made_1 : ∀ w ∈ [.fieldLink RX4 15 "EdgefloatsModel$Row" "exponents" "I", .constantLong RX4 46 (3), .fieldLink RX4 19 "EdgefloatsModel$Row" "fractions" "I", .constantLong RX4 48 (2), .methodLink RX4 26 yX4_sign, .instanceMethod yX4_sign, .selects RX4 yX4_sign yX4_sign, .initialized RX4, .code yX4_sign cX4_sign 1 (some .long)], w ∈ wsX4_made := fun _ h => (List.mem_cons_of_mem _ (List.mem_append_left _ h))
theorem cl_X4_made_2 : ∀ w ∈ wsX40, w ∈ wsX4_made := fun _ h => (List.mem_cons_of_mem _ (List.mem_append_right _ h))
set_option maxRecDepth 20000 in
theorem ggX4_made_X4_sign : GoodIn wsX4_made wsX4_sign := goodIn_sub (List.forall_mem_cons.mpr ⟨(cl_X4_made_1 _ (List.mem_of_getElem? (i := 8) rfl)), fun w h => (List.mem_append.mp h).elim ((List.forall_mem_cons.mpr ⟨(cl_X4_made_1 _ (List.mem_of_getElem? (i := 0) rfl)), List.forall_mem_cons.mpr ⟨(cl_X4_made_1 _ (List.mem_of_getElem? (i := 2) rfl)), fun _ h => absurd h List.not_mem_nil⟩⟩) w) ((cl_X4_made_2) w)⟩) (by decide +kernel)
set_option maxRecDepth 20000 in
theorem gX4_made_X4_sign : GoodIn wsX4_made (wsV RX4 26 RX4 yX4_sign wsX4_sign) := goodIn_app (goodIn_sub (List.forall_mem_cons.mpr ⟨(cl_X4_made_1 _ (List.mem_of_getElem? (i := 4) rfl)), List.forall_mem_cons.mpr ⟨(cl_X4_made_1 _ (List.mem_of_getElem? (i := 5) rfl)), List.forall_mem_cons.mpr ⟨(cl_X4_made_1 _ (List.mem_of_getElem? (i := 6) rfl)), List.forall_mem_cons.mpr ⟨(cl_X4_made_1 _ (List.mem_of_getElem? (i := 7) rfl)), fun _ h => absurd h List.not_mem_nil⟩⟩⟩⟩) (by decide +kernel)) ggX4_made_X4_sign
noncomputable def dz_p08_4 : List (Nat × Instr × Nat) := [(0, (.lload_n 1, 1)), (1, (.lconst 0, 1)), (2, (.lcmp, 1)), (3, (.ifCond .ne 5, 3)), (6, (.lconst 0, 1)), (7, (.lreturn, 1)), (8, (.lload_n 1, 1)), (9, (.lconst 0, 1)), (10, (.lcmp, 1)), (11, (.ifCond .ge 8, 3)), (14, (.lload_n 1, 1)), (15, (.lneg, 1)), (16, (.goto 4, 3)), (19, (.lload_n 1, 1)), (20, (.lstore_n 3, 1)), (21, (.lconst 1, 1)), (22, (.aload_n 0, 1)), (23, (.getfield 15, 3)), (26, (.iconst 1, 1)), (27, (.isub, 1)), (28, (.lshl, 1)), (29, (.ldc2_w 46, 3)), (32, (.lsub, 1)), (33, (.aload_n 0, 1)), (34, (.getfield 19, 3)), (37, (.i2l, 1)), (38, (.ladd, 1)), (39, (.lstore 5, 2)), (41, (.lload_n 3, 1)), (42, (.lconst 1, 1)), (43, (.aload_n 0, 1)), (44, (.getfield 19, 3)), (47, (.lshl, 1)), (48, (.lcmp, 1)), (49, (.ifCond .ge 18, 3)), (52, (.lload_n 3, 1)), (53, (.ldc2_w 48, 3)), (56, (.lmul, 1)), (57, (.lstore_n 3, 1)), (58, (.lload 5, 2))]
theorem dy_p08_4 : dz_ok cX4_made dz_p08_4 = true := by decide +kernel
theorem dX4_made_0 : decode cX4_made 0 = .ok (.lload_n 1, 1) := dz_at (i := 0) dy_p08_4 rfl
theorem dX4_made_1 : decode cX4_made 1 = .ok (.lconst 0, 1) := dz_at (i := 1) dy_p08_4 rfl
theorem dX4_made_2 : decode cX4_made 2 = .ok (.lcmp, 1) := dz_at (i := 2) dy_p08_4 rfl
theorem dX4_made_3 : decode cX4_made 3 = .ok (.ifCond .ne 5, 3) := dz_at (i := 3) dy_p08_4 rfl
theorem dX4_made_6 : decode cX4_made 6 = .ok (.lconst 0, 1) := dz_at (i := 4) dy_p08_4 rfl
theorem dX4_made_7 : decode cX4_made 7 = .ok (.lreturn, 1) := dz_at (i := 5) dy_p08_4 rfl
theorem dX4_made_8 : decode cX4_made 8 = .ok (.lload_n 1, 1) := dz_at (i := 6) dy_p08_4 rfl
theorem dX4_made_9 : decode cX4_made 9 = .ok (.lconst 0, 1) := dz_at (i := 7) dy_p08_4 rfl
theorem dX4_made_10 : decode cX4_made 10 = .ok (.lcmp, 1) := dz_at (i := 8) dy_p08_4 rfl
theorem dX4_made_11 : decode cX4_made 11 = .ok (.ifCond .ge 8, 3) := dz_at (i := 9) dy_p08_4 rfl
theorem dX4_made_14 : decode cX4_made 14 = .ok (.lload_n 1, 1) := dz_at (i := 10) dy_p08_4 rfl
theorem dX4_made_15 : decode cX4_made 15 = .ok (.lneg, 1) := dz_at (i := 11) dy_p08_4 rfl
theorem dX4_made_16 : decode cX4_made 16 = .ok (.goto 4, 3) := dz_at (i := 12) dy_p08_4 rfl
theorem dX4_made_19 : decode cX4_made 19 = .ok (.lload_n 1, 1) := dz_at (i := 13) dy_p08_4 rfl
theorem dX4_made_20 : decode cX4_made 20 = .ok (.lstore_n 3, 1) := dz_at (i := 14) dy_p08_4 rfl
theorem dX4_made_21 : decode cX4_made 21 = .ok (.lconst 1, 1) := dz_at (i := 15) dy_p08_4 rfl
theorem dX4_made_22 : decode cX4_made 22 = .ok (.aload_n 0, 1) := dz_at (i := 16) dy_p08_4 rfl
theorem dX4_made_23 : decode cX4_made 23 = .ok (.getfield 15, 3) := dz_at (i := 17) dy_p08_4 rfl
theorem dX4_made_26 : decode cX4_made 26 = .ok (.iconst 1, 1) := dz_at (i := 18) dy_p08_4 rfl
theorem dX4_made_27 : decode cX4_made 27 = .ok (.isub, 1) := dz_at (i := 19) dy_p08_4 rfl
theorem dX4_made_28 : decode cX4_made 28 = .ok (.lshl, 1) := dz_at (i := 20) dy_p08_4 rfl
theorem dX4_made_29 : decode cX4_made 29 = .ok (.ldc2_w 46, 3) := dz_at (i := 21) dy_p08_4 rfl
theorem dX4_made_32 : decode cX4_made 32 = .ok (.lsub, 1) := dz_at (i := 22) dy_p08_4 rfl
theorem dX4_made_33 : decode cX4_made 33 = .ok (.aload_n 0, 1) := dz_at (i := 23) dy_p08_4 rfl
theorem dX4_made_34 : decode cX4_made 34 = .ok (.getfield 19, 3) := dz_at (i := 24) dy_p08_4 rfl
theorem dX4_made_37 : decode cX4_made 37 = .ok (.i2l, 1) := dz_at (i := 25) dy_p08_4 rfl
theorem dX4_made_38 : decode cX4_made 38 = .ok (.ladd, 1) := dz_at (i := 26) dy_p08_4 rfl
theorem dX4_made_39 : decode cX4_made 39 = .ok (.lstore 5, 2) := dz_at (i := 27) dy_p08_4 rfl
theorem dX4_made_41 : decode cX4_made 41 = .ok (.lload_n 3, 1) := dz_at (i := 28) dy_p08_4 rfl
theorem dX4_made_42 : decode cX4_made 42 = .ok (.lconst 1, 1) := dz_at (i := 29) dy_p08_4 rfl
theorem dX4_made_43 : decode cX4_made 43 = .ok (.aload_n 0, 1) := dz_at (i := 30) dy_p08_4 rfl
theorem dX4_made_44 : decode cX4_made 44 = .ok (.getfield 19, 3) := dz_at (i := 31) dy_p08_4 rfl
theorem dX4_made_47 : decode cX4_made 47 = .ok (.lshl, 1) := dz_at (i := 32) dy_p08_4 rfl
theorem dX4_made_48 : decode cX4_made 48 = .ok (.lcmp, 1) := dz_at (i := 33) dy_p08_4 rfl
theorem dX4_made_49 : decode cX4_made 49 = .ok (.ifCond .ge 18, 3) := dz_at (i := 34) dy_p08_4 rfl
theorem dX4_made_52 : decode cX4_made 52 = .ok (.lload_n 3, 1) := dz_at (i := 35) dy_p08_4 rfl
theorem dX4_made_53 : decode cX4_made 53 = .ok (.ldc2_w 48, 3) := dz_at (i := 36) dy_p08_4 rfl
theorem dX4_made_56 : decode cX4_made 56 = .ok (.lmul, 1) := dz_at (i := 37) dy_p08_4 rfl
theorem dX4_made_57 : decode cX4_made 57 = .ok (.lstore_n 3, 1) := dz_at (i := 38) dy_p08_4 rfl
theorem dX4_made_58 : decode cX4_made 58 = .ok (.lload 5, 2) := dz_at (i := 39) dy_p08_4 rfl
noncomputable def dz_p08_5 : List (Nat × Instr × Nat) := [(60, (.lconst 1, 1)), (61, (.lsub, 1)), (62, (.lstore 5, 2)), (64, (.goto (-23), 3)), (67, (.lload 5, 2)), (69, (.aload_n 0, 1)), (70, (.getfield 19, 3)), (73, (.lshl, 1)), (74, (.lload_n 3, 1)), (75, (.lconst 1, 1)), (76, (.aload_n 0, 1)), (77, (.getfield 19, 3)), (80, (.lshl, 1)), (81, (.lsub, 1)), (82, (.ladd, 1)), (83, (.lload_n 1, 1)), (84, (.lconst 0, 1)), (85, (.lcmp, 1)), (86, (.ifCond .ge 10, 3)), (89, (.aload_n 0, 1)), (90, (.invokevirtual 26, 3)), (93, (.goto 4, 3)), (96, (.lconst 0, 1)), (97, (.lor, 1)), (98, (.lreturn, 1))]
theorem dy_p08_5 : dz_ok cX4_made dz_p08_5 = true := by decide +kernel
theorem dX4_made_60 : decode cX4_made 60 = .ok (.lconst 1, 1) := dz_at (i := 0) dy_p08_5 rfl
theorem dX4_made_61 : decode cX4_made 61 = .ok (.lsub, 1) := dz_at (i := 1) dy_p08_5 rfl
theorem dX4_made_62 : decode cX4_made 62 = .ok (.lstore 5, 2) := dz_at (i := 2) dy_p08_5 rfl
theorem dX4_made_64 : decode cX4_made 64 = .ok (.goto (-23), 3) := dz_at (i := 3) dy_p08_5 rfl
theorem dX4_made_67 : decode cX4_made 67 = .ok (.lload 5, 2) := dz_at (i := 4) dy_p08_5 rfl
theorem dX4_made_69 : decode cX4_made 69 = .ok (.aload_n 0, 1) := dz_at (i := 5) dy_p08_5 rfl
theorem dX4_made_70 : decode cX4_made 70 = .ok (.getfield 19, 3) := dz_at (i := 6) dy_p08_5 rfl
theorem dX4_made_73 : decode cX4_made 73 = .ok (.lshl, 1) := dz_at (i := 7) dy_p08_5 rfl
theorem dX4_made_74 : decode cX4_made 74 = .ok (.lload_n 3, 1) := dz_at (i := 8) dy_p08_5 rfl
theorem dX4_made_75 : decode cX4_made 75 = .ok (.lconst 1, 1) := dz_at (i := 9) dy_p08_5 rfl
theorem dX4_made_76 : decode cX4_made 76 = .ok (.aload_n 0, 1) := dz_at (i := 10) dy_p08_5 rfl
theorem dX4_made_77 : decode cX4_made 77 = .ok (.getfield 19, 3) := dz_at (i := 11) dy_p08_5 rfl
theorem dX4_made_80 : decode cX4_made 80 = .ok (.lshl, 1) := dz_at (i := 12) dy_p08_5 rfl
theorem dX4_made_81 : decode cX4_made 81 = .ok (.lsub, 1) := dz_at (i := 13) dy_p08_5 rfl
theorem dX4_made_82 : decode cX4_made 82 = .ok (.ladd, 1) := dz_at (i := 14) dy_p08_5 rfl
theorem dX4_made_83 : decode cX4_made 83 = .ok (.lload_n 1, 1) := dz_at (i := 15) dy_p08_5 rfl
theorem dX4_made_84 : decode cX4_made 84 = .ok (.lconst 0, 1) := dz_at (i := 16) dy_p08_5 rfl
theorem dX4_made_85 : decode cX4_made 85 = .ok (.lcmp, 1) := dz_at (i := 17) dy_p08_5 rfl
theorem dX4_made_86 : decode cX4_made 86 = .ok (.ifCond .ge 10, 3) := dz_at (i := 18) dy_p08_5 rfl
theorem dX4_made_89 : decode cX4_made 89 = .ok (.aload_n 0, 1) := dz_at (i := 19) dy_p08_5 rfl
theorem dX4_made_90 : decode cX4_made 90 = .ok (.invokevirtual 26, 3) := dz_at (i := 20) dy_p08_5 rfl
theorem dX4_made_93 : decode cX4_made 93 = .ok (.goto 4, 3) := dz_at (i := 21) dy_p08_5 rfl
theorem dX4_made_96 : decode cX4_made 96 = .ok (.lconst 0, 1) := dz_at (i := 22) dy_p08_5 rfl
theorem dX4_made_97 : decode cX4_made 97 = .ok (.lor, 1) := dz_at (i := 23) dy_p08_5 rfl
theorem dX4_made_98 : decode cX4_made 98 = .ok (.lreturn, 1) := dz_at (i := 24) dy_p08_5 rfl
noncomputable def L_made (w : Bool) (p0 : Int64) : Nat → Int64 → Int64 → Int64
  | 0, v, v2 => if 0 ≤ p0 then (((jLshl v2 (mFr w)) + (v - (jLshl 1 (mFr w)))) ||| 0)
    else (((jLshl v2 (mFr w)) + (v - (jLshl 1 (mFr w)))) ||| (o_X4_sign w))
  | nmade + 1, v, v2 => if (jLshl 1 (mFr w)) ≤ v then (if 0 ≤ p0 then (((jLshl v2 (mFr w)) + (v - (jLshl 1 (mFr w)))) ||| 0)
      else (((jLshl v2 (mFr w)) + (v - (jLshl 1 (mFr w)))) ||| (o_X4_sign w)))
    else L_made w p0 nmade (v * 2) (v2 - 1)
noncomputable def o_X4_made (w : Bool) (p0 : Int64) : Int64 :=
  if p0 = 0 then 0
  else if 0 ≤ p0 then L_made w p0 53 p0 (((jLshl 1 ((mEx w) - 1)) - 3) + ((mFr w).toInt64))
  else L_made w p0 53 (-p0) (((jLshl 1 ((mEx w) - 1)) - 3) + ((mFr w).toInt64))
set_option maxHeartbeats 4000000 in
set_option maxRecDepth 100000 in
theorem k_X4_made (l : Launch) (dC : Nat → ClassId) (dI : Nat → Nat → Nat) (cy : ClassId) (h0 : Nat) (hc : Nat) (w : Bool) (a : Int32) (f : Nat → Int64) (sz : Nat) (p0 : Int64) (hq : -8589934592 ≤ p0.toInt ∧ p0.toInt ≤ 8589934592) : Met l yX4_made wsX4_made ({ frames := 1, cells := 0, slots := 0, locals := 20 }) (va_Pc [.ref h0, .long p0] (xB (dC, dI) xCl [(h0, eMR w hc a), (hc, eA cy f)] [(cy, .long)] sz)) (va_Ql (fun (r : Int64) (_ : Unit) => r = (o_X4_made w p0)) (fun _ _ => True) (aN sz)) 0 0 (aN sz) := by
  refine Met.ofW (cc := cX4_made) (maxL := 7) (ret := (some .long)) (by decide +kernel) rfl ?_
  intro p e s m args below meth c s₁ B hml hv
  obtain ⟨rfl, hsz, hP, hK⟩ := hv
  have hx := B.exec
  have hb := B.bytes
  have hr := B.returns
  have hts := atoms_spec (ws := wsX4_made) B.pre
  have hown : s.vm.findClass RX4 = some m.cls := findClass_of_methodNamed B.named
  have hlocks := B.notSynchronized
  subst hsz
  have hA : ∀ q : Nat, s.heap.size ≤ q → aN s.heap.size q := fun _ h => h
  have hS : va_S (aN s.heap.size) s.heap s.heap [] := va_S.rf
  have hP : va_P (dC, dI) xCl [(h0, eMR w hc a), (hc, eA cy f)] s.heap := hP
  have hl := lv_entry ([.ref h0, .long p0]) (n := 7) (Nat.le_of_ble_eq_true rfl)
  rw [lg_entry_eq]
  generalize (lg_sl ([.ref h0, .long p0]) ++ List.replicate (7 - (lg_sl ([.ref h0, .long p0])).length) Slot.unset).toArray = ls at hl ⊢
  have hl : lv_has ls 7 [(0, .ref h0), (1, .long p0)] := hl
  refine lv_lload_n hx hb dX4_made_0 rfl (lv_at hl 1 rfl) ?_
  refine lv_lconst (v := 0) hx hb dX4_made_1 (by decide +kernel) ?_
  refine xc_ne (tgt := 8) hx hb dX4_made_2 dX4_made_3 (by decide +kernel) (fun c_1 => ?_) (fun c_1 => ?_)
  · skip
    refine lv_lload_n hx hb dX4_made_8 rfl (lv_at hl 1 rfl) ?_
    refine lv_lconst (v := 0) hx hb dX4_made_9 (by decide +kernel) ?_
    refine xc_ge (tgt := 19) hx hb dX4_made_10 dX4_made_11 (by decide +kernel) (fun c_2 => ?_) (fun c_2 => ?_)
    · skip
      refine lv_lload_n hx hb dX4_made_19 rfl (lv_at hl 1 rfl) ?_
      refine lv_lstore_n (lv' := [(3, .long p0), (0, .ref h0), (1, .long p0)]) hx hb dX4_made_20 rfl hl (by decide +kernel) rfl (fun ls hl => ?_)
      refine lv_lconst (v := 1) hx hb dX4_made_21 (by decide +kernel) ?_
      refine lv_aload_n hx hb dX4_made_22 rfl (lv_at hl 1 rfl) ?_
      refine va_get (D := (dC, dI)) (ci := 6) (v := .int (mEx w)) (C := RX4) (T := TX4) (N := 5) hx hb hts (by decide +kernel) hown hK hP 0 rfl rfl 0 (by decide +kernel) (hts (.fieldLink RX4 15 "EdgefloatsModel$Row" "exponents" "I") (by decide +kernel)) (fun _ h9 => h9) rfl dX4_made_23 ?_
      refine lv_iconst (v := 1) hx hb dX4_made_26 (by decide +kernel) ?_
      refine lv_isub hx hb dX4_made_27 ?_
      refine lv_lshl (v := (jLshl 1 ((mEx w) - 1))) hx hb dX4_made_28 rfl ?_
      refine lv_ldc2 (own := RX4) (index := 46) (v := 3) hx hb hown (hts (.constantLong RX4 46 (3)) (by decide +kernel)) dX4_made_29 ?_
      refine lv_lsub hx hb dX4_made_32 ?_
      refine lv_aload_n hx hb dX4_made_33 rfl (lv_at hl 1 rfl) ?_
      refine va_get (D := (dC, dI)) (ci := 6) (v := .int (mFr w)) (C := RX4) (T := TX4) (N := 5) hx hb hts (by decide +kernel) hown hK hP 0 rfl rfl 1 (by decide +kernel) (hts (.fieldLink RX4 19 "EdgefloatsModel$Row" "fractions" "I") (by decide +kernel)) (fun _ h9 => h9) rfl dX4_made_34 ?_
      refine lv_i2l (v := ((mFr w).toInt64)) hx hb dX4_made_37 rfl ?_
      refine lv_ladd hx hb dX4_made_38 ?_
      refine lv_lstore (lv' := [(5, .long (((jLshl 1 ((mEx w) - 1)) - 3) + ((mFr w).toInt64))), (3, .long p0), (0, .ref h0), (1, .long p0)]) hx hb dX4_made_39 hl (by decide +kernel) rfl (fun ls hl => ?_)
      have loop_made : ∀ (nmade : Nat) (v : Int64) (v2 : Int64) (H : Heap) (locs : List Loc) (ls : Array Slot), (1 ≤ v.toInt ∧ (jLshl 1 (mFr w)).toInt ≤ v.toInt * 2 ^ nmade) → o_X4_made w p0 = L_made w p0 nmade v v2 → va_P (dC, dI) xCl [(h0, eMR w hc a), (hc, eA cy f)] H → va_S (aN s.heap.size) s.heap H locs → lv_has ls 7 [(5, .long v2), (3, .long v), (0, .ref h0), (1, .long p0)] → W p l e (headSpec wsX4_made ({ frames := 1, cells := 0, slots := 0, locals := 20 } : Room)).room s m ([.ref h0, .long p0]).toArray below meth c H locs 0 0 (MQ below (va_Ql (fun (r : Int64) (_ : Unit) => r = (o_X4_made w p0)) (fun _ _ => True) (aN s.heap.size)) ([.ref h0, .long p0]).toArray s 0 0 (aN s.heap.size)) (F0 m 41 ls []) := by
        intro nmade
        induction nmade with
        | zero =>
          intro v v2 H locs ls hT_made hsp_made hP hS hl
          refine lv_lload_n hx hb dX4_made_41 rfl (lv_at hl 1 rfl) ?_
          refine lv_lconst (v := 1) hx hb dX4_made_42 (by decide +kernel) ?_
          refine lv_aload_n hx hb dX4_made_43 rfl (lv_at hl 2 rfl) ?_
          refine va_get (D := (dC, dI)) (ci := 6) (v := .int (mFr w)) (C := RX4) (T := TX4) (N := 5) hx hb hts (by decide +kernel) hown hK hP 0 rfl rfl 1 (by decide +kernel) (hts (.fieldLink RX4 19 "EdgefloatsModel$Row" "fractions" "I") (by decide +kernel)) (fun _ h9 => h9) rfl dX4_made_44 ?_
          refine lv_lshl (v := (jLshl 1 (mFr w))) hx hb dX4_made_47 rfl ?_
          refine xc_ge (tgt := 67) hx hb dX4_made_48 dX4_made_49 (by decide +kernel) (fun c9 => ?_) (fun c9 => absurd (Int64.not_lt.mp (xm_made0 w v hT_made.2)) c9)
          refine lv_lload hx hb dX4_made_67 (lv_at hl 0 rfl) ?_
          refine lv_aload_n hx hb dX4_made_69 rfl (lv_at hl 2 rfl) ?_
          refine va_get (D := (dC, dI)) (ci := 6) (v := .int (mFr w)) (C := RX4) (T := TX4) (N := 5) hx hb hts (by decide +kernel) hown hK hP 0 rfl rfl 1 (by decide +kernel) (hts (.fieldLink RX4 19 "EdgefloatsModel$Row" "fractions" "I") (by decide +kernel)) (fun _ h9 => h9) rfl dX4_made_70 ?_
          refine lv_lshl (v := (jLshl v2 (mFr w))) hx hb dX4_made_73 rfl ?_
          refine lv_lload_n hx hb dX4_made_74 rfl (lv_at hl 1 rfl) ?_
          refine lv_lconst (v := 1) hx hb dX4_made_75 (by decide +kernel) ?_
          refine lv_aload_n hx hb dX4_made_76 rfl (lv_at hl 2 rfl) ?_
          refine va_get (D := (dC, dI)) (ci := 6) (v := .int (mFr w)) (C := RX4) (T := TX4) (N := 5) hx hb hts (by decide +kernel) hown hK hP 0 rfl rfl 1 (by decide +kernel) (hts (.fieldLink RX4 19 "EdgefloatsModel$Row" "fractions" "I") (by decide +kernel)) (fun _ h9 => h9) rfl dX4_made_77 ?_
          refine lv_lshl (v := (jLshl 1 (mFr w))) hx hb dX4_made_80 rfl ?_
          refine lv_lsub hx hb dX4_made_81 ?_
          refine lv_ladd hx hb dX4_made_82 ?_
          refine lv_lload_n hx hb dX4_made_83 rfl (lv_at hl 3 rfl) ?_
          refine lv_lconst (v := 0) hx hb dX4_made_84 (by decide +kernel) ?_
          refine xc_ge (tgt := 96) hx hb dX4_made_85 dX4_made_86 (by decide +kernel) (fun c_3 => ?_) (fun c_3 => ?_)
          · skip
            refine lv_lconst (v := 0) hx hb dX4_made_96 (by decide +kernel) ?_
            refine lv_lor hx hb dX4_made_97 ?_
            have he : o_X4_made w p0 = (((jLshl v2 (mFr w)) + (v - (jLshl 1 (mFr w)))) ||| 0) := hsp_made.trans (by (rw [L_made, if_pos c_3]) <;> rfl)
            refine W.widen (k := 0) (n := 0) (by omega) (by omega) ?_
            exact W.lret (v := (((jLshl v2 (mFr w)) + (v - (jLshl 1 (mFr w)))) ||| 0)) hx hb hr (fun t ht hW => ⟨⟨_, (), rfl, (by (rw [he]) <;> rfl), trivial⟩, hS.F ht⟩) hS.2.2 dX4_made_98
          · skip
            refine lv_aload_n hx hb dX4_made_89 rfl (lv_at hl 2 rfl) ?_
            have hPc := hP.sub (ws' := [(h0, eMR w hc a), (hc, eA cy f)]) [0, 1] rfl
            have hKc := hK.sub (tys' := [(cy, .long)]) [0] rfl
            refine va_calll (va_runV (As := []) (rest := [.long ((jLshl v2 (mFr w)) + (v - (jLshl 1 (mFr w))))]) ⟨hx, hb, hml, hown, hts⟩ (k_X4_sign l dC dI cy h0 hc w a f H.size) (cwV 0 hts gX4_made_X4_sign rfl rfl rfl (by decide +kernel) ⟨Nat.le_of_ble_eq_true rfl, Nat.le_of_ble_eq_true rfl⟩) (xB.preV hKc hPc (ci := 6) (q0 := 0) rfl rfl) rfl rfl hl.1 rfl (lv_room (Nat.le_of_ble_eq_true rfl)) dX4_made_90 ⟨Nat.le_of_ble_eq_true rfl, Nat.le_of_ble_eq_true rfl⟩) hS xA_old (fun q h => hA q (Nat.le_trans hS.1 h)) (fun r_4 u t H locs ht hvm hw hB hz hk hS => ?_)
            replace hw : r_4 = (o_X4_sign w) := hw
            subst r_4
            have hP := xP_keep hP hk
            refine lv_goto (tgt := 97) hx hb dX4_made_93 (by decide +kernel) ?_
            refine lv_lor hx hb dX4_made_97 ?_
            have he : o_X4_made w p0 = (((jLshl v2 (mFr w)) + (v - (jLshl 1 (mFr w)))) ||| (o_X4_sign w)) := hsp_made.trans (by (rw [L_made, if_neg c_3]) <;> rfl)
            refine W.widen (k := 0) (n := 0) (by omega) (by omega) ?_
            exact W.lret (v := (((jLshl v2 (mFr w)) + (v - (jLshl 1 (mFr w)))) ||| (o_X4_sign w))) hx hb hr (fun t ht hW => ⟨⟨_, (), rfl, (by (rw [he]) <;> rfl), trivial⟩, hS.F ht⟩) hS.2.2 dX4_made_98
        | succ nmade ih_made =>
          intro v v2 H locs ls hT_made hsp_made hP hS hl
          refine lv_lload_n hx hb dX4_made_41 rfl (lv_at hl 1 rfl) ?_
          refine lv_lconst (v := 1) hx hb dX4_made_42 (by decide +kernel) ?_
          refine lv_aload_n hx hb dX4_made_43 rfl (lv_at hl 2 rfl) ?_
          refine va_get (D := (dC, dI)) (ci := 6) (v := .int (mFr w)) (C := RX4) (T := TX4) (N := 5) hx hb hts (by decide +kernel) hown hK hP 0 rfl rfl 1 (by decide +kernel) (hts (.fieldLink RX4 19 "EdgefloatsModel$Row" "fractions" "I") (by decide +kernel)) (fun _ h9 => h9) rfl dX4_made_44 ?_
          refine lv_lshl (v := (jLshl 1 (mFr w))) hx hb dX4_made_47 rfl ?_
          refine xc_ge (tgt := 67) hx hb dX4_made_48 dX4_made_49 (by decide +kernel) (fun c_5 => ?_) (fun c_5 => ?_)
          · skip
            refine lv_lload hx hb dX4_made_67 (lv_at hl 0 rfl) ?_
            refine lv_aload_n hx hb dX4_made_69 rfl (lv_at hl 2 rfl) ?_
            refine va_get (D := (dC, dI)) (ci := 6) (v := .int (mFr w)) (C := RX4) (T := TX4) (N := 5) hx hb hts (by decide +kernel) hown hK hP 0 rfl rfl 1 (by decide +kernel) (hts (.fieldLink RX4 19 "EdgefloatsModel$Row" "fractions" "I") (by decide +kernel)) (fun _ h9 => h9) rfl dX4_made_70 ?_
            refine lv_lshl (v := (jLshl v2 (mFr w))) hx hb dX4_made_73 rfl ?_
            refine lv_lload_n hx hb dX4_made_74 rfl (lv_at hl 1 rfl) ?_
            refine lv_lconst (v := 1) hx hb dX4_made_75 (by decide +kernel) ?_
            refine lv_aload_n hx hb dX4_made_76 rfl (lv_at hl 2 rfl) ?_
            refine va_get (D := (dC, dI)) (ci := 6) (v := .int (mFr w)) (C := RX4) (T := TX4) (N := 5) hx hb hts (by decide +kernel) hown hK hP 0 rfl rfl 1 (by decide +kernel) (hts (.fieldLink RX4 19 "EdgefloatsModel$Row" "fractions" "I") (by decide +kernel)) (fun _ h9 => h9) rfl dX4_made_77 ?_
            refine lv_lshl (v := (jLshl 1 (mFr w))) hx hb dX4_made_80 rfl ?_
            refine lv_lsub hx hb dX4_made_81 ?_
            refine lv_ladd hx hb dX4_made_82 ?_
            refine lv_lload_n hx hb dX4_made_83 rfl (lv_at hl 3 rfl) ?_
            refine lv_lconst (v := 0) hx hb dX4_made_84 (by decide +kernel) ?_
            refine xc_ge (tgt := 96) hx hb dX4_made_85 dX4_made_86 (by decide +kernel) (fun c_6 => ?_) (fun c_6 => ?_)
            · skip
              refine lv_lconst (v := 0) hx hb dX4_made_96 (by decide +kernel) ?_
              refine lv_lor hx hb dX4_made_97 ?_
              have he : o_X4_made w p0 = (((jLshl v2 (mFr w)) + (v - (jLshl 1 (mFr w)))) ||| 0) := hsp_made.trans (by (rw [L_made, if_pos c_5, if_pos c_6]) <;> rfl)
              refine W.widen (k := 0) (n := 0) (by omega) (by omega) ?_
              exact W.lret (v := (((jLshl v2 (mFr w)) + (v - (jLshl 1 (mFr w)))) ||| 0)) hx hb hr (fun t ht hW => ⟨⟨_, (), rfl, (by (rw [he]) <;> rfl), trivial⟩, hS.F ht⟩) hS.2.2 dX4_made_98
            · skip
              refine lv_aload_n hx hb dX4_made_89 rfl (lv_at hl 2 rfl) ?_
              have hPc := hP.sub (ws' := [(h0, eMR w hc a), (hc, eA cy f)]) [0, 1] rfl
              have hKc := hK.sub (tys' := [(cy, .long)]) [0] rfl
              refine va_calll (va_runV (As := []) (rest := [.long ((jLshl v2 (mFr w)) + (v - (jLshl 1 (mFr w))))]) ⟨hx, hb, hml, hown, hts⟩ (k_X4_sign l dC dI cy h0 hc w a f H.size) (cwV 0 hts gX4_made_X4_sign rfl rfl rfl (by decide +kernel) ⟨Nat.le_of_ble_eq_true rfl, Nat.le_of_ble_eq_true rfl⟩) (xB.preV hKc hPc (ci := 6) (q0 := 0) rfl rfl) rfl rfl hl.1 rfl (lv_room (Nat.le_of_ble_eq_true rfl)) dX4_made_90 ⟨Nat.le_of_ble_eq_true rfl, Nat.le_of_ble_eq_true rfl⟩) hS xA_old (fun q h => hA q (Nat.le_trans hS.1 h)) (fun r_7 u t H locs ht hvm hw hB hz hk hS => ?_)
              replace hw : r_7 = (o_X4_sign w) := hw
              subst r_7
              have hP := xP_keep hP hk
              refine lv_goto (tgt := 97) hx hb dX4_made_93 (by decide +kernel) ?_
              refine lv_lor hx hb dX4_made_97 ?_
              have he : o_X4_made w p0 = (((jLshl v2 (mFr w)) + (v - (jLshl 1 (mFr w)))) ||| (o_X4_sign w)) := hsp_made.trans (by (rw [L_made, if_pos c_5, if_neg c_6]) <;> rfl)
              refine W.widen (k := 0) (n := 0) (by omega) (by omega) ?_
              exact W.lret (v := (((jLshl v2 (mFr w)) + (v - (jLshl 1 (mFr w)))) ||| (o_X4_sign w))) hx hb hr (fun t ht hW => ⟨⟨_, (), rfl, (by (rw [he]) <;> rfl), trivial⟩, hS.F ht⟩) hS.2.2 dX4_made_98
          · skip
            refine lv_lload_n hx hb dX4_made_52 rfl (lv_at hl 1 rfl) ?_
            refine lv_ldc2 (own := RX4) (index := 48) (v := 2) hx hb hown (hts (.constantLong RX4 48 (2)) (by decide +kernel)) dX4_made_53 ?_
            refine lv_lmul hx hb dX4_made_56 ?_
            refine lv_lstore_n (lv' := [(3, .long (v * 2)), (5, .long v2), (0, .ref h0), (1, .long p0)]) hx hb dX4_made_57 rfl hl (by decide +kernel) rfl (fun ls hl => ?_)
            refine lv_lload hx hb dX4_made_58 (lv_at hl 1 rfl) ?_
            refine lv_lconst (v := 1) hx hb dX4_made_60 (by decide +kernel) ?_
            refine lv_lsub hx hb dX4_made_61 ?_
            refine lv_lstore (lv' := [(5, .long (v2 - 1)), (3, .long (v * 2)), (0, .ref h0), (1, .long p0)]) hx hb dX4_made_62 hl (by decide +kernel) rfl (fun ls hl => ?_)
            refine lv_goto (tgt := 41) hx hb dX4_made_64 (by decide +kernel) ?_
            refine W.widen (k := 0) (n := 0) (Nat.le_refl _) (Nat.le_refl _) ?_
            exact ih_made (v * 2) (v2 - 1) _ _ _ (xm_madeS w _ v hT_made.1 hT_made.2 (Int64.not_le.mp c_5)) (hsp_made.trans (by (rw [L_made, if_neg c_5]) <;> rfl)) hP hS (lv_sub hl [0, 1, 2, 3] rfl)
      exact loop_made 53 p0 (((jLshl 1 ((mEx w) - 1)) - 3) + ((mFr w).toInt64)) _ _ _ (xm_made1 w _ (by first | exact (xm_abs (by assumption) hq).1 (by assumption) | exact (xm_abs (by assumption) hq).2 (by assumption))) (by (rw [o_X4_made, if_neg c_1, if_pos c_2]) <;> rfl) hP hS (lv_sub hl [0, 1, 2, 3] rfl)
    · skip
      refine lv_lload_n hx hb dX4_made_14 rfl (lv_at hl 1 rfl) ?_
      refine lv_lneg hx hb dX4_made_15 ?_
      refine lv_goto (tgt := 20) hx hb dX4_made_16 (by decide +kernel) ?_
      refine lv_lstore_n (lv' := [(3, .long (-p0)), (0, .ref h0), (1, .long p0)]) hx hb dX4_made_20 rfl hl (by decide +kernel) rfl (fun ls hl => ?_)
      refine lv_lconst (v := 1) hx hb dX4_made_21 (by decide +kernel) ?_
      refine lv_aload_n hx hb dX4_made_22 rfl (lv_at hl 1 rfl) ?_
      refine va_get (D := (dC, dI)) (ci := 6) (v := .int (mEx w)) (C := RX4) (T := TX4) (N := 5) hx hb hts (by decide +kernel) hown hK hP 0 rfl rfl 0 (by decide +kernel) (hts (.fieldLink RX4 15 "EdgefloatsModel$Row" "exponents" "I") (by decide +kernel)) (fun _ h9 => h9) rfl dX4_made_23 ?_
      refine lv_iconst (v := 1) hx hb dX4_made_26 (by decide +kernel) ?_
      refine lv_isub hx hb dX4_made_27 ?_
      refine lv_lshl (v := (jLshl 1 ((mEx w) - 1))) hx hb dX4_made_28 rfl ?_
      refine lv_ldc2 (own := RX4) (index := 46) (v := 3) hx hb hown (hts (.constantLong RX4 46 (3)) (by decide +kernel)) dX4_made_29 ?_
      refine lv_lsub hx hb dX4_made_32 ?_
      refine lv_aload_n hx hb dX4_made_33 rfl (lv_at hl 1 rfl) ?_
      refine va_get (D := (dC, dI)) (ci := 6) (v := .int (mFr w)) (C := RX4) (T := TX4) (N := 5) hx hb hts (by decide +kernel) hown hK hP 0 rfl rfl 1 (by decide +kernel) (hts (.fieldLink RX4 19 "EdgefloatsModel$Row" "fractions" "I") (by decide +kernel)) (fun _ h9 => h9) rfl dX4_made_34 ?_
      refine lv_i2l (v := ((mFr w).toInt64)) hx hb dX4_made_37 rfl ?_
      refine lv_ladd hx hb dX4_made_38 ?_
      refine lv_lstore (lv' := [(5, .long (((jLshl 1 ((mEx w) - 1)) - 3) + ((mFr w).toInt64))), (3, .long (-p0)), (0, .ref h0), (1, .long p0)]) hx hb dX4_made_39 hl (by decide +kernel) rfl (fun ls hl => ?_)
      have loop_made : ∀ (nmade : Nat) (v : Int64) (v2 : Int64) (H : Heap) (locs : List Loc) (ls : Array Slot), (1 ≤ v.toInt ∧ (jLshl 1 (mFr w)).toInt ≤ v.toInt * 2 ^ nmade) → o_X4_made w p0 = L_made w p0 nmade v v2 → va_P (dC, dI) xCl [(h0, eMR w hc a), (hc, eA cy f)] H → va_S (aN s.heap.size) s.heap H locs → lv_has ls 7 [(5, .long v2), (3, .long v), (0, .ref h0), (1, .long p0)] → W p l e (headSpec wsX4_made ({ frames := 1, cells := 0, slots := 0, locals := 20 } : Room)).room s m ([.ref h0, .long p0]).toArray below meth c H locs 0 0 (MQ below (va_Ql (fun (r : Int64) (_ : Unit) => r = (o_X4_made w p0)) (fun _ _ => True) (aN s.heap.size)) ([.ref h0, .long p0]).toArray s 0 0 (aN s.heap.size)) (F0 m 41 ls []) := by
        intro nmade
        induction nmade with
        | zero =>
          intro v v2 H locs ls hT_made hsp_made hP hS hl
          refine lv_lload_n hx hb dX4_made_41 rfl (lv_at hl 1 rfl) ?_
          refine lv_lconst (v := 1) hx hb dX4_made_42 (by decide +kernel) ?_
          refine lv_aload_n hx hb dX4_made_43 rfl (lv_at hl 2 rfl) ?_
          refine va_get (D := (dC, dI)) (ci := 6) (v := .int (mFr w)) (C := RX4) (T := TX4) (N := 5) hx hb hts (by decide +kernel) hown hK hP 0 rfl rfl 1 (by decide +kernel) (hts (.fieldLink RX4 19 "EdgefloatsModel$Row" "fractions" "I") (by decide +kernel)) (fun _ h9 => h9) rfl dX4_made_44 ?_
          refine lv_lshl (v := (jLshl 1 (mFr w))) hx hb dX4_made_47 rfl ?_
          refine xc_ge (tgt := 67) hx hb dX4_made_48 dX4_made_49 (by decide +kernel) (fun c9 => ?_) (fun c9 => absurd (Int64.not_lt.mp (xm_made0 w v hT_made.2)) c9)
          refine lv_lload hx hb dX4_made_67 (lv_at hl 0 rfl) ?_
          refine lv_aload_n hx hb dX4_made_69 rfl (lv_at hl 2 rfl) ?_
          refine va_get (D := (dC, dI)) (ci := 6) (v := .int (mFr w)) (C := RX4) (T := TX4) (N := 5) hx hb hts (by decide +kernel) hown hK hP 0 rfl rfl 1 (by decide +kernel) (hts (.fieldLink RX4 19 "EdgefloatsModel$Row" "fractions" "I") (by decide +kernel)) (fun _ h9 => h9) rfl dX4_made_70 ?_
          refine lv_lshl (v := (jLshl v2 (mFr w))) hx hb dX4_made_73 rfl ?_
          refine lv_lload_n hx hb dX4_made_74 rfl (lv_at hl 1 rfl) ?_
          refine lv_lconst (v := 1) hx hb dX4_made_75 (by decide +kernel) ?_
          refine lv_aload_n hx hb dX4_made_76 rfl (lv_at hl 2 rfl) ?_
          refine va_get (D := (dC, dI)) (ci := 6) (v := .int (mFr w)) (C := RX4) (T := TX4) (N := 5) hx hb hts (by decide +kernel) hown hK hP 0 rfl rfl 1 (by decide +kernel) (hts (.fieldLink RX4 19 "EdgefloatsModel$Row" "fractions" "I") (by decide +kernel)) (fun _ h9 => h9) rfl dX4_made_77 ?_
          refine lv_lshl (v := (jLshl 1 (mFr w))) hx hb dX4_made_80 rfl ?_
          refine lv_lsub hx hb dX4_made_81 ?_
          refine lv_ladd hx hb dX4_made_82 ?_
          refine lv_lload_n hx hb dX4_made_83 rfl (lv_at hl 3 rfl) ?_
          refine lv_lconst (v := 0) hx hb dX4_made_84 (by decide +kernel) ?_
          refine xc_ge (tgt := 96) hx hb dX4_made_85 dX4_made_86 (by decide +kernel) (fun c_8 => ?_) (fun c_8 => ?_)
          · skip
            refine lv_lconst (v := 0) hx hb dX4_made_96 (by decide +kernel) ?_
            refine lv_lor hx hb dX4_made_97 ?_
            have he : o_X4_made w p0 = (((jLshl v2 (mFr w)) + (v - (jLshl 1 (mFr w)))) ||| 0) := hsp_made.trans (by (rw [L_made, if_pos c_8]) <;> rfl)
            refine W.widen (k := 0) (n := 0) (by omega) (by omega) ?_
            exact W.lret (v := (((jLshl v2 (mFr w)) + (v - (jLshl 1 (mFr w)))) ||| 0)) hx hb hr (fun t ht hW => ⟨⟨_, (), rfl, (by (rw [he]) <;> rfl), trivial⟩, hS.F ht⟩) hS.2.2 dX4_made_98
          · skip
            refine lv_aload_n hx hb dX4_made_89 rfl (lv_at hl 2 rfl) ?_
            have hPc := hP.sub (ws' := [(h0, eMR w hc a), (hc, eA cy f)]) [0, 1] rfl
            have hKc := hK.sub (tys' := [(cy, .long)]) [0] rfl
            refine va_calll (va_runV (As := []) (rest := [.long ((jLshl v2 (mFr w)) + (v - (jLshl 1 (mFr w))))]) ⟨hx, hb, hml, hown, hts⟩ (k_X4_sign l dC dI cy h0 hc w a f H.size) (cwV 0 hts gX4_made_X4_sign rfl rfl rfl (by decide +kernel) ⟨Nat.le_of_ble_eq_true rfl, Nat.le_of_ble_eq_true rfl⟩) (xB.preV hKc hPc (ci := 6) (q0 := 0) rfl rfl) rfl rfl hl.1 rfl (lv_room (Nat.le_of_ble_eq_true rfl)) dX4_made_90 ⟨Nat.le_of_ble_eq_true rfl, Nat.le_of_ble_eq_true rfl⟩) hS xA_old (fun q h => hA q (Nat.le_trans hS.1 h)) (fun r_9 u t H locs ht hvm hw hB hz hk hS => ?_)
            replace hw : r_9 = (o_X4_sign w) := hw
            subst r_9
            have hP := xP_keep hP hk
            refine lv_goto (tgt := 97) hx hb dX4_made_93 (by decide +kernel) ?_
            refine lv_lor hx hb dX4_made_97 ?_
            have he : o_X4_made w p0 = (((jLshl v2 (mFr w)) + (v - (jLshl 1 (mFr w)))) ||| (o_X4_sign w)) := hsp_made.trans (by (rw [L_made, if_neg c_8]) <;> rfl)
            refine W.widen (k := 0) (n := 0) (by omega) (by omega) ?_
            exact W.lret (v := (((jLshl v2 (mFr w)) + (v - (jLshl 1 (mFr w)))) ||| (o_X4_sign w))) hx hb hr (fun t ht hW => ⟨⟨_, (), rfl, (by (rw [he]) <;> rfl), trivial⟩, hS.F ht⟩) hS.2.2 dX4_made_98
        | succ nmade ih_made =>
          intro v v2 H locs ls hT_made hsp_made hP hS hl
          refine lv_lload_n hx hb dX4_made_41 rfl (lv_at hl 1 rfl) ?_
          refine lv_lconst (v := 1) hx hb dX4_made_42 (by decide +kernel) ?_
          refine lv_aload_n hx hb dX4_made_43 rfl (lv_at hl 2 rfl) ?_
          refine va_get (D := (dC, dI)) (ci := 6) (v := .int (mFr w)) (C := RX4) (T := TX4) (N := 5) hx hb hts (by decide +kernel) hown hK hP 0 rfl rfl 1 (by decide +kernel) (hts (.fieldLink RX4 19 "EdgefloatsModel$Row" "fractions" "I") (by decide +kernel)) (fun _ h9 => h9) rfl dX4_made_44 ?_
          refine lv_lshl (v := (jLshl 1 (mFr w))) hx hb dX4_made_47 rfl ?_
          refine xc_ge (tgt := 67) hx hb dX4_made_48 dX4_made_49 (by decide +kernel) (fun c_10 => ?_) (fun c_10 => ?_)
          · skip
            refine lv_lload hx hb dX4_made_67 (lv_at hl 0 rfl) ?_
            refine lv_aload_n hx hb dX4_made_69 rfl (lv_at hl 2 rfl) ?_
            refine va_get (D := (dC, dI)) (ci := 6) (v := .int (mFr w)) (C := RX4) (T := TX4) (N := 5) hx hb hts (by decide +kernel) hown hK hP 0 rfl rfl 1 (by decide +kernel) (hts (.fieldLink RX4 19 "EdgefloatsModel$Row" "fractions" "I") (by decide +kernel)) (fun _ h9 => h9) rfl dX4_made_70 ?_
            refine lv_lshl (v := (jLshl v2 (mFr w))) hx hb dX4_made_73 rfl ?_
            refine lv_lload_n hx hb dX4_made_74 rfl (lv_at hl 1 rfl) ?_
            refine lv_lconst (v := 1) hx hb dX4_made_75 (by decide +kernel) ?_
            refine lv_aload_n hx hb dX4_made_76 rfl (lv_at hl 2 rfl) ?_
            refine va_get (D := (dC, dI)) (ci := 6) (v := .int (mFr w)) (C := RX4) (T := TX4) (N := 5) hx hb hts (by decide +kernel) hown hK hP 0 rfl rfl 1 (by decide +kernel) (hts (.fieldLink RX4 19 "EdgefloatsModel$Row" "fractions" "I") (by decide +kernel)) (fun _ h9 => h9) rfl dX4_made_77 ?_
            refine lv_lshl (v := (jLshl 1 (mFr w))) hx hb dX4_made_80 rfl ?_
            refine lv_lsub hx hb dX4_made_81 ?_
            refine lv_ladd hx hb dX4_made_82 ?_
            refine lv_lload_n hx hb dX4_made_83 rfl (lv_at hl 3 rfl) ?_
            refine lv_lconst (v := 0) hx hb dX4_made_84 (by decide +kernel) ?_
            refine xc_ge (tgt := 96) hx hb dX4_made_85 dX4_made_86 (by decide +kernel) (fun c_11 => ?_) (fun c_11 => ?_)
            · skip
              refine lv_lconst (v := 0) hx hb dX4_made_96 (by decide +kernel) ?_
              refine lv_lor hx hb dX4_made_97 ?_
              have he : o_X4_made w p0 = (((jLshl v2 (mFr w)) + (v - (jLshl 1 (mFr w)))) ||| 0) := hsp_made.trans (by (rw [L_made, if_pos c_10, if_pos c_11]) <;> rfl)
              refine W.widen (k := 0) (n := 0) (by omega) (by omega) ?_
              exact W.lret (v := (((jLshl v2 (mFr w)) + (v - (jLshl 1 (mFr w)))) ||| 0)) hx hb hr (fun t ht hW => ⟨⟨_, (), rfl, (by (rw [he]) <;> rfl), trivial⟩, hS.F ht⟩) hS.2.2 dX4_made_98
            · skip
              refine lv_aload_n hx hb dX4_made_89 rfl (lv_at hl 2 rfl) ?_
              have hPc := hP.sub (ws' := [(h0, eMR w hc a), (hc, eA cy f)]) [0, 1] rfl
              have hKc := hK.sub (tys' := [(cy, .long)]) [0] rfl
              refine va_calll (va_runV (As := []) (rest := [.long ((jLshl v2 (mFr w)) + (v - (jLshl 1 (mFr w))))]) ⟨hx, hb, hml, hown, hts⟩ (k_X4_sign l dC dI cy h0 hc w a f H.size) (cwV 0 hts gX4_made_X4_sign rfl rfl rfl (by decide +kernel) ⟨Nat.le_of_ble_eq_true rfl, Nat.le_of_ble_eq_true rfl⟩) (xB.preV hKc hPc (ci := 6) (q0 := 0) rfl rfl) rfl rfl hl.1 rfl (lv_room (Nat.le_of_ble_eq_true rfl)) dX4_made_90 ⟨Nat.le_of_ble_eq_true rfl, Nat.le_of_ble_eq_true rfl⟩) hS xA_old (fun q h => hA q (Nat.le_trans hS.1 h)) (fun r_12 u t H locs ht hvm hw hB hz hk hS => ?_)
              replace hw : r_12 = (o_X4_sign w) := hw
              subst r_12
              have hP := xP_keep hP hk
              refine lv_goto (tgt := 97) hx hb dX4_made_93 (by decide +kernel) ?_
              refine lv_lor hx hb dX4_made_97 ?_
              have he : o_X4_made w p0 = (((jLshl v2 (mFr w)) + (v - (jLshl 1 (mFr w)))) ||| (o_X4_sign w)) := hsp_made.trans (by (rw [L_made, if_pos c_10, if_neg c_11]) <;> rfl)
              refine W.widen (k := 0) (n := 0) (by omega) (by omega) ?_
              exact W.lret (v := (((jLshl v2 (mFr w)) + (v - (jLshl 1 (mFr w)))) ||| (o_X4_sign w))) hx hb hr (fun t ht hW => ⟨⟨_, (), rfl, (by (rw [he]) <;> rfl), trivial⟩, hS.F ht⟩) hS.2.2 dX4_made_98
          · skip
            refine lv_lload_n hx hb dX4_made_52 rfl (lv_at hl 1 rfl) ?_
            refine lv_ldc2 (own := RX4) (index := 48) (v := 2) hx hb hown (hts (.constantLong RX4 48 (2)) (by decide +kernel)) dX4_made_53 ?_
            refine lv_lmul hx hb dX4_made_56 ?_
            refine lv_lstore_n (lv' := [(3, .long (v * 2)), (5, .long v2), (0, .ref h0), (1, .long p0)]) hx hb dX4_made_57 rfl hl (by decide +kernel) rfl (fun ls hl => ?_)
            refine lv_lload hx hb dX4_made_58 (lv_at hl 1 rfl) ?_
            refine lv_lconst (v := 1) hx hb dX4_made_60 (by decide +kernel) ?_
            refine lv_lsub hx hb dX4_made_61 ?_
            refine lv_lstore (lv' := [(5, .long (v2 - 1)), (3, .long (v * 2)), (0, .ref h0), (1, .long p0)]) hx hb dX4_made_62 hl (by decide +kernel) rfl (fun ls hl => ?_)
            refine lv_goto (tgt := 41) hx hb dX4_made_64 (by decide +kernel) ?_
            refine W.widen (k := 0) (n := 0) (Nat.le_refl _) (Nat.le_refl _) ?_
            exact ih_made (v * 2) (v2 - 1) _ _ _ (xm_madeS w _ v hT_made.1 hT_made.2 (Int64.not_le.mp c_10)) (hsp_made.trans (by (rw [L_made, if_neg c_10]) <;> rfl)) hP hS (lv_sub hl [0, 1, 2, 3] rfl)
      exact loop_made 53 (-p0) (((jLshl 1 ((mEx w) - 1)) - 3) + ((mFr w).toInt64)) _ _ _ (xm_made1 w _ (by first | exact (xm_abs (by assumption) hq).1 (by assumption) | exact (xm_abs (by assumption) hq).2 (by assumption))) (by (rw [o_X4_made, if_neg c_1, if_neg c_2]) <;> rfl) hP hS (lv_sub hl [0, 1, 2, 3] rfl)
  · skip
    refine lv_lconst (v := 0) hx hb dX4_made_6 (by decide +kernel) ?_
    have he : o_X4_made w p0 = 0 := by (rw [o_X4_made, if_pos c_1]) <;> rfl
    refine W.widen (k := 0) (n := 0) (by omega) (by omega) ?_
    exact W.lret (v := 0) hx hb hr (fun t ht hW => ⟨⟨_, (), rfl, (by (rw [he]) <;> rfl), trivial⟩, hS.F ht⟩) hS.2.2 dX4_made_7

/-- a narrow cell's long holds 32 digits -/
noncomputable def okN (w : Bool) (d : Int64) : Prop := w = false → 0 ≤ d.toInt ∧ d.toInt < 4294967296
theorem xm_shr {x : Int64} {y : Int32} (h : 0 ≤ x.toInt) : 0 ≤ (jLshr x y).toInt := by
  have e : (jLshr x y).toInt = x.toInt >>> ((y.toInt64 &&& 63).toBitVec.smod 64).toNat := by
    show (x >>> (y.toInt64 &&& 63)).toInt = _
    exact BitVec.toInt_sshiftRight ..
  rw [e]
  rw [Int.shiftRight_eq_div_pow]
  refine Int.ediv_nonneg h ?_
  first | exact_mod_cast Nat.zero_le _ | exact Int.pow_nonneg (by decide +kernel) | exact Int.le_of_lt (Int.pow_pos (by decide +kernel))
theorem xm_and {x y : Int64} (h : 0 ≤ x.toInt ∨ 0 ≤ y.toInt) : 0 ≤ (x &&& y).toInt := by
  have hx : ∀ z : Int64, 0 ≤ z.toInt ↔ z.toBitVec.msb = false := by
    intro z
    show 0 ≤ z.toBitVec.toInt ↔ _
    rw [BitVec.msb_eq_toInt]
    simp
  rw [hx] at h ⊢
  rw [hx] at h
  show (x.toBitVec &&& y.toBitVec).msb = false
  rw [BitVec.msb_and]
  rcases h with h | h <;> rw [h] <;> simp
theorem xm_size {w : Bool} {d : Int64} (h : okN w d) : 0 ≤ (o_X4_size w d).toInt := by
  rw [o_X4_size]
  cases w with
  | true => exact xm_and (Or.inr (by decide +kernel))
  | false => exact xm_and (Or.inl (h rfl).1)
theorem xm_cntI {w : Bool} {d : Int64} (h : okN w d) : (((jLshl 1 ((mEx w) - 1)) - 3) + ((mFr w).toInt64)).toInt ≤ (o_X4_exponent w d).toInt + (1100 : Nat) := by
  have h1 : (((jLshl 1 ((mEx w) - 1)) - 3) + ((mFr w).toInt64)).toInt ≤ 1073 := by cases w <;> decide
  have h2 : 0 ≤ (o_X4_exponent w d).toInt := by
    rw [o_X4_exponent]
    exact xm_shr (xm_size h)
  omega
theorem xm_sumr (x y : Int32) : -8589934592 ≤ (x.toInt64 + y.toInt64).toInt ∧ (x.toInt64 + y.toInt64).toInt ≤ 8589934592 := by
  have hx := x.toInt_lt
  have hx2 := x.le_toInt
  have hy := y.toInt_lt
  have hy2 := y.le_toInt
  have e : (x.toInt64 + y.toInt64).toInt = x.toInt + y.toInt := by
    rw [Int64.toInt_add, Int32.toInt_toInt64, Int32.toInt_toInt64]
    exact Int.bmod_eq_of_le (by omega) (by omega)
  omega
theorem xm_i64r (x : Int32) : -8589934592 ≤ x.toInt64.toInt ∧ x.toInt64.toInt ≤ 8589934592 := by
  have hx := x.toInt_lt
  have hx2 := x.le_toInt
  rw [Int32.toInt_toInt64]
  omega

theorem cl_X4_count_1 : ∀ w ∈ wsX4_count_r1, w ∈ wsX4_count := fun _ h => (List.mem_cons_of_mem _ (List.mem_append_left _ (List.mem_append_left _ h)))
theorem cl_X4_count_2 : ∀ w ∈ wsX4_count_r2, w ∈ wsX4_count := fun _ h => (List.mem_cons_of_mem _ (List.mem_append_left _ (List.mem_append_right _ h)))
theorem cl_X4_count_3 : ∀ w ∈ wsX40, w ∈ wsX4_count := fun _ h => (List.mem_cons_of_mem _ (List.mem_append_right _ h))
set_option maxRecDepth 20000 in
theorem ggX4_count_X4_size : GoodIn wsX4_count wsX4_size := goodIn_sub (List.forall_mem_cons.mpr ⟨(cl_X4_count_1 _ (List.mem_of_getElem? (i := 10) rfl)), fun w h => (List.mem_append.mp h).elim ((List.forall_mem_cons.mpr ⟨(cl_X4_count_1 _ (List.mem_of_getElem? (i := 11) rfl)), List.forall_mem_cons.mpr ⟨(cl_X4_count_1 _ (List.mem_of_getElem? (i := 12) rfl)), List.forall_mem_cons.mpr ⟨(cl_X4_count_1 _ (List.mem_of_getElem? (i := 13) rfl)), List.forall_mem_cons.mpr ⟨(cl_X4_count_1 _ (List.mem_of_getElem? (i := 14) rfl)), List.forall_mem_cons.mpr ⟨(cl_X4_count_1 _ (List.mem_of_getElem? (i := 9) rfl)), List.forall_mem_cons.mpr ⟨(cl_X4_count_1 _ (List.mem_of_getElem? (i := 15) rfl)), List.forall_mem_cons.mpr ⟨(cl_X4_count_1 _ (List.mem_of_getElem? (i := 2) rfl)), List.forall_mem_cons.mpr ⟨(cl_X4_count_1 _ (List.mem_of_getElem? (i := 1) rfl)), fun _ h => absurd h List.not_mem_nil⟩⟩⟩⟩⟩⟩⟩⟩) w) ((cl_X4_count_3) w)⟩) (by decide +kernel)
set_option maxRecDepth 20000 in
theorem gX4_count_X4_size : GoodIn wsX4_count (wsV RX4 32 RX4 yX4_size wsX4_size) := goodIn_app (goodIn_sub (List.forall_mem_cons.mpr ⟨(cl_X4_count_1 _ (List.mem_of_getElem? (i := 6) rfl)), List.forall_mem_cons.mpr ⟨(cl_X4_count_1 _ (List.mem_of_getElem? (i := 7) rfl)), List.forall_mem_cons.mpr ⟨(cl_X4_count_1 _ (List.mem_of_getElem? (i := 8) rfl)), List.forall_mem_cons.mpr ⟨(cl_X4_count_1 _ (List.mem_of_getElem? (i := 9) rfl)), fun _ h => absurd h List.not_mem_nil⟩⟩⟩⟩) (by decide +kernel)) ggX4_count_X4_size
set_option maxRecDepth 20000 in
theorem ggX4_count_X4_exponent : GoodIn wsX4_count wsX4_exponent := goodIn_sub (List.forall_mem_cons.mpr ⟨(cl_X4_count_1 _ (List.mem_of_getElem? (i := 19) rfl)), fun w h => (List.mem_append.mp h).elim ((List.forall_mem_cons.mpr ⟨(cl_X4_count_1 _ (List.mem_of_getElem? (i := 1) rfl)), List.forall_mem_cons.mpr ⟨(cl_X4_count_1 _ (List.mem_of_getElem? (i := 6) rfl)), List.forall_mem_cons.mpr ⟨(cl_X4_count_1 _ (List.mem_of_getElem? (i := 7) rfl)), List.forall_mem_cons.mpr ⟨(cl_X4_count_1 _ (List.mem_of_getElem? (i := 8) rfl)), List.forall_mem_cons.mpr ⟨(cl_X4_count_1 _ (List.mem_of_getElem? (i := 9) rfl)), List.forall_mem_cons.mpr ⟨(cl_X4_count_1 _ (List.mem_of_getElem? (i := 10) rfl)), List.forall_mem_cons.mpr ⟨(cl_X4_count_1 _ (List.mem_of_getElem? (i := 11) rfl)), List.forall_mem_cons.mpr ⟨(cl_X4_count_1 _ (List.mem_of_getElem? (i := 12) rfl)), List.forall_mem_cons.mpr ⟨(cl_X4_count_1 _ (List.mem_of_getElem? (i := 13) rfl)), List.forall_mem_cons.mpr ⟨(cl_X4_count_1 _ (List.mem_of_getElem? (i := 14) rfl)), List.forall_mem_cons.mpr ⟨(cl_X4_count_1 _ (List.mem_of_getElem? (i := 15) rfl)), List.forall_mem_cons.mpr ⟨(cl_X4_count_1 _ (List.mem_of_getElem? (i := 2) rfl)), fun _ h => absurd h List.not_mem_nil⟩⟩⟩⟩⟩⟩⟩⟩⟩⟩⟩⟩) w) ((cl_X4_count_3) w)⟩) (by decide +kernel)
set_option maxRecDepth 20000 in
theorem gX4_count_X4_exponent : GoodIn wsX4_count (wsV RX4 50 RX4 yX4_exponent wsX4_exponent) := goodIn_app (goodIn_sub (List.forall_mem_cons.mpr ⟨(cl_X4_count_1 _ (List.mem_of_getElem? (i := 16) rfl)), List.forall_mem_cons.mpr ⟨(cl_X4_count_1 _ (List.mem_of_getElem? (i := 17) rfl)), List.forall_mem_cons.mpr ⟨(cl_X4_count_1 _ (List.mem_of_getElem? (i := 18) rfl)), List.forall_mem_cons.mpr ⟨(cl_X4_count_1 _ (List.mem_of_getElem? (i := 9) rfl)), fun _ h => absurd h List.not_mem_nil⟩⟩⟩⟩) (by decide +kernel)) ggX4_count_X4_exponent
set_option maxRecDepth 20000 in
theorem ggX4_count_X4_isEndless : GoodIn wsX4_count wsX4_isEndless := goodIn_sub (List.forall_mem_cons.mpr ⟨(cl_X4_count_1 _ (List.mem_of_getElem? (i := 23) rfl)), fun w h => (List.mem_append.mp h).elim ((List.forall_mem_cons.mpr ⟨(cl_X4_count_1 _ (List.mem_of_getElem? (i := 6) rfl)), List.forall_mem_cons.mpr ⟨(cl_X4_count_1 _ (List.mem_of_getElem? (i := 7) rfl)), List.forall_mem_cons.mpr ⟨(cl_X4_count_1 _ (List.mem_of_getElem? (i := 8) rfl)), List.forall_mem_cons.mpr ⟨(cl_X4_count_1 _ (List.mem_of_getElem? (i := 9) rfl)), List.forall_mem_cons.mpr ⟨(cl_X4_count_1 _ (List.mem_of_getElem? (i := 10) rfl)), List.forall_mem_cons.mpr ⟨(cl_X4_count_1 _ (List.mem_of_getElem? (i := 11) rfl)), List.forall_mem_cons.mpr ⟨(cl_X4_count_1 _ (List.mem_of_getElem? (i := 12) rfl)), List.forall_mem_cons.mpr ⟨(cl_X4_count_1 _ (List.mem_of_getElem? (i := 13) rfl)), List.forall_mem_cons.mpr ⟨(cl_X4_count_1 _ (List.mem_of_getElem? (i := 14) rfl)), List.forall_mem_cons.mpr ⟨(cl_X4_count_1 _ (List.mem_of_getElem? (i := 15) rfl)), List.forall_mem_cons.mpr ⟨(cl_X4_count_1 _ (List.mem_of_getElem? (i := 2) rfl)), List.forall_mem_cons.mpr ⟨(cl_X4_count_1 _ (List.mem_of_getElem? (i := 1) rfl)), List.forall_mem_cons.mpr ⟨(cl_X4_count_2 _ (List.mem_of_getElem? (i := 0) rfl)), List.forall_mem_cons.mpr ⟨(cl_X4_count_2 _ (List.mem_of_getElem? (i := 1) rfl)), List.forall_mem_cons.mpr ⟨(cl_X4_count_2 _ (List.mem_of_getElem? (i := 2) rfl)), List.forall_mem_cons.mpr ⟨(cl_X4_count_2 _ (List.mem_of_getElem? (i := 3) rfl)), fun _ h => absurd h List.not_mem_nil⟩⟩⟩⟩⟩⟩⟩⟩⟩⟩⟩⟩⟩⟩⟩⟩) w) ((cl_X4_count_3) w)⟩) (by decide +kernel)
set_option maxRecDepth 20000 in
theorem gX4_count_X4_isEndless : GoodIn wsX4_count (wsV RX4 53 RX4 yX4_isEndless wsX4_isEndless) := goodIn_app (goodIn_sub (List.forall_mem_cons.mpr ⟨(cl_X4_count_1 _ (List.mem_of_getElem? (i := 20) rfl)), List.forall_mem_cons.mpr ⟨(cl_X4_count_1 _ (List.mem_of_getElem? (i := 21) rfl)), List.forall_mem_cons.mpr ⟨(cl_X4_count_1 _ (List.mem_of_getElem? (i := 22) rfl)), List.forall_mem_cons.mpr ⟨(cl_X4_count_1 _ (List.mem_of_getElem? (i := 9) rfl)), fun _ h => absurd h List.not_mem_nil⟩⟩⟩⟩) (by decide +kernel)) ggX4_count_X4_isEndless
set_option maxRecDepth 20000 in
theorem ggX4_count_X4_fraction : GoodIn wsX4_count wsX4_fraction := goodIn_sub (List.forall_mem_cons.mpr ⟨(cl_X4_count_2 _ (List.mem_of_getElem? (i := 7) rfl)), fun w h => (List.mem_append.mp h).elim ((List.forall_mem_cons.mpr ⟨(cl_X4_count_1 _ (List.mem_of_getElem? (i := 1) rfl)), fun _ h => absurd h List.not_mem_nil⟩) w) ((cl_X4_count_3) w)⟩) (by decide +kernel)
set_option maxRecDepth 20000 in
theorem gX4_count_X4_fraction : GoodIn wsX4_count (wsV RX4 57 RX4 yX4_fraction wsX4_fraction) := goodIn_app (goodIn_sub (List.forall_mem_cons.mpr ⟨(cl_X4_count_2 _ (List.mem_of_getElem? (i := 4) rfl)), List.forall_mem_cons.mpr ⟨(cl_X4_count_2 _ (List.mem_of_getElem? (i := 5) rfl)), List.forall_mem_cons.mpr ⟨(cl_X4_count_2 _ (List.mem_of_getElem? (i := 6) rfl)), List.forall_mem_cons.mpr ⟨(cl_X4_count_1 _ (List.mem_of_getElem? (i := 9) rfl)), fun _ h => absurd h List.not_mem_nil⟩⟩⟩⟩) (by decide +kernel)) ggX4_count_X4_fraction
set_option maxRecDepth 20000 in
theorem ggX4_count_X4_isBelowZero : GoodIn wsX4_count wsX4_isBelowZero := goodIn_sub (List.forall_mem_cons.mpr ⟨(cl_X4_count_2 _ (List.mem_of_getElem? (i := 11) rfl)), fun w h => (List.mem_append.mp h).elim ((List.forall_mem_cons.mpr ⟨(cl_X4_count_1 _ (List.mem_of_getElem? (i := 12) rfl)), List.forall_mem_cons.mpr ⟨(cl_X4_count_1 _ (List.mem_of_getElem? (i := 13) rfl)), List.forall_mem_cons.mpr ⟨(cl_X4_count_1 _ (List.mem_of_getElem? (i := 14) rfl)), List.forall_mem_cons.mpr ⟨(cl_X4_count_1 _ (List.mem_of_getElem? (i := 9) rfl)), List.forall_mem_cons.mpr ⟨(cl_X4_count_1 _ (List.mem_of_getElem? (i := 15) rfl)), List.forall_mem_cons.mpr ⟨(cl_X4_count_1 _ (List.mem_of_getElem? (i := 2) rfl)), List.forall_mem_cons.mpr ⟨(cl_X4_count_1 _ (List.mem_of_getElem? (i := 1) rfl)), fun _ h => absurd h List.not_mem_nil⟩⟩⟩⟩⟩⟩⟩) w) ((cl_X4_count_3) w)⟩) (by decide +kernel)
set_option maxRecDepth 20000 in
theorem gX4_count_X4_isBelowZero : GoodIn wsX4_count (wsV RX4 39 RX4 yX4_isBelowZero wsX4_isBelowZero) := goodIn_app (goodIn_sub (List.forall_mem_cons.mpr ⟨(cl_X4_count_2 _ (List.mem_of_getElem? (i := 8) rfl)), List.forall_mem_cons.mpr ⟨(cl_X4_count_2 _ (List.mem_of_getElem? (i := 9) rfl)), List.forall_mem_cons.mpr ⟨(cl_X4_count_2 _ (List.mem_of_getElem? (i := 10) rfl)), List.forall_mem_cons.mpr ⟨(cl_X4_count_1 _ (List.mem_of_getElem? (i := 9) rfl)), fun _ h => absurd h List.not_mem_nil⟩⟩⟩⟩) (by decide +kernel)) ggX4_count_X4_isBelowZero
noncomputable def dz_p08_6 : List (Nat × Instr × Nat) := [(0, (.aload_n 0, 1)), (1, (.lload_n 1, 1)), (2, (.invokevirtual 32, 3)), (5, (.lconst 0, 1)), (6, (.lcmp, 1)), (7, (.ifCond .ne 5, 3)), (10, (.iconst 0, 1)), (11, (.ireturn, 1)), (12, (.aload_n 0, 1)), (13, (.lload_n 1, 1)), (14, (.invokevirtual 50, 3)), (17, (.lconst 0, 1)), (18, (.lcmp, 1)), (19, (.ifCond .eq 11, 3)), (22, (.aload_n 0, 1)), (23, (.lload_n 1, 1)), (24, (.invokevirtual 53, 3)), (27, (.ifCond .eq 6, 3)), (30, (.ldc 56, 2)), (32, (.ireturn, 1)), (33, (.lconst 1, 1)), (34, (.aload_n 0, 1)), (35, (.getfield 19, 3)), (38, (.lshl, 1)), (39, (.aload_n 0, 1)), (40, (.lload_n 1, 1)), (41, (.invokevirtual 57, 3)), (44, (.ladd, 1)), (45, (.lstore_n 3, 1)), (46, (.aload_n 0, 1)), (47, (.lload_n 1, 1)), (48, (.invokevirtual 50, 3)), (51, (.lstore 5, 2)), (53, (.lconst 1, 1)), (54, (.aload_n 0, 1)), (55, (.getfield 15, 3)), (58, (.iconst 1, 1)), (59, (.isub, 1)), (60, (.lshl, 1)), (61, (.ldc2_w 46, 3))]
theorem dy_p08_6 : dz_ok cX4_count dz_p08_6 = true := by decide +kernel
theorem dX4_count_0 : decode cX4_count 0 = .ok (.aload_n 0, 1) := dz_at (i := 0) dy_p08_6 rfl
theorem dX4_count_1 : decode cX4_count 1 = .ok (.lload_n 1, 1) := dz_at (i := 1) dy_p08_6 rfl
theorem dX4_count_2 : decode cX4_count 2 = .ok (.invokevirtual 32, 3) := dz_at (i := 2) dy_p08_6 rfl
theorem dX4_count_5 : decode cX4_count 5 = .ok (.lconst 0, 1) := dz_at (i := 3) dy_p08_6 rfl
theorem dX4_count_6 : decode cX4_count 6 = .ok (.lcmp, 1) := dz_at (i := 4) dy_p08_6 rfl
theorem dX4_count_7 : decode cX4_count 7 = .ok (.ifCond .ne 5, 3) := dz_at (i := 5) dy_p08_6 rfl
theorem dX4_count_10 : decode cX4_count 10 = .ok (.iconst 0, 1) := dz_at (i := 6) dy_p08_6 rfl
theorem dX4_count_11 : decode cX4_count 11 = .ok (.ireturn, 1) := dz_at (i := 7) dy_p08_6 rfl
theorem dX4_count_12 : decode cX4_count 12 = .ok (.aload_n 0, 1) := dz_at (i := 8) dy_p08_6 rfl
theorem dX4_count_13 : decode cX4_count 13 = .ok (.lload_n 1, 1) := dz_at (i := 9) dy_p08_6 rfl
theorem dX4_count_14 : decode cX4_count 14 = .ok (.invokevirtual 50, 3) := dz_at (i := 10) dy_p08_6 rfl
theorem dX4_count_17 : decode cX4_count 17 = .ok (.lconst 0, 1) := dz_at (i := 11) dy_p08_6 rfl
theorem dX4_count_18 : decode cX4_count 18 = .ok (.lcmp, 1) := dz_at (i := 12) dy_p08_6 rfl
theorem dX4_count_19 : decode cX4_count 19 = .ok (.ifCond .eq 11, 3) := dz_at (i := 13) dy_p08_6 rfl
theorem dX4_count_22 : decode cX4_count 22 = .ok (.aload_n 0, 1) := dz_at (i := 14) dy_p08_6 rfl
theorem dX4_count_23 : decode cX4_count 23 = .ok (.lload_n 1, 1) := dz_at (i := 15) dy_p08_6 rfl
theorem dX4_count_24 : decode cX4_count 24 = .ok (.invokevirtual 53, 3) := dz_at (i := 16) dy_p08_6 rfl
theorem dX4_count_27 : decode cX4_count 27 = .ok (.ifCond .eq 6, 3) := dz_at (i := 17) dy_p08_6 rfl
theorem dX4_count_30 : decode cX4_count 30 = .ok (.ldc 56, 2) := dz_at (i := 18) dy_p08_6 rfl
theorem dX4_count_32 : decode cX4_count 32 = .ok (.ireturn, 1) := dz_at (i := 19) dy_p08_6 rfl
theorem dX4_count_33 : decode cX4_count 33 = .ok (.lconst 1, 1) := dz_at (i := 20) dy_p08_6 rfl
theorem dX4_count_34 : decode cX4_count 34 = .ok (.aload_n 0, 1) := dz_at (i := 21) dy_p08_6 rfl
theorem dX4_count_35 : decode cX4_count 35 = .ok (.getfield 19, 3) := dz_at (i := 22) dy_p08_6 rfl
theorem dX4_count_38 : decode cX4_count 38 = .ok (.lshl, 1) := dz_at (i := 23) dy_p08_6 rfl
theorem dX4_count_39 : decode cX4_count 39 = .ok (.aload_n 0, 1) := dz_at (i := 24) dy_p08_6 rfl
theorem dX4_count_40 : decode cX4_count 40 = .ok (.lload_n 1, 1) := dz_at (i := 25) dy_p08_6 rfl
theorem dX4_count_41 : decode cX4_count 41 = .ok (.invokevirtual 57, 3) := dz_at (i := 26) dy_p08_6 rfl
theorem dX4_count_44 : decode cX4_count 44 = .ok (.ladd, 1) := dz_at (i := 27) dy_p08_6 rfl
theorem dX4_count_45 : decode cX4_count 45 = .ok (.lstore_n 3, 1) := dz_at (i := 28) dy_p08_6 rfl
theorem dX4_count_46 : decode cX4_count 46 = .ok (.aload_n 0, 1) := dz_at (i := 29) dy_p08_6 rfl
theorem dX4_count_47 : decode cX4_count 47 = .ok (.lload_n 1, 1) := dz_at (i := 30) dy_p08_6 rfl
theorem dX4_count_48 : decode cX4_count 48 = .ok (.invokevirtual 50, 3) := dz_at (i := 31) dy_p08_6 rfl
theorem dX4_count_51 : decode cX4_count 51 = .ok (.lstore 5, 2) := dz_at (i := 32) dy_p08_6 rfl
theorem dX4_count_53 : decode cX4_count 53 = .ok (.lconst 1, 1) := dz_at (i := 33) dy_p08_6 rfl
theorem dX4_count_54 : decode cX4_count 54 = .ok (.aload_n 0, 1) := dz_at (i := 34) dy_p08_6 rfl
theorem dX4_count_55 : decode cX4_count 55 = .ok (.getfield 15, 3) := dz_at (i := 35) dy_p08_6 rfl
theorem dX4_count_58 : decode cX4_count 58 = .ok (.iconst 1, 1) := dz_at (i := 36) dy_p08_6 rfl
theorem dX4_count_59 : decode cX4_count 59 = .ok (.isub, 1) := dz_at (i := 37) dy_p08_6 rfl
theorem dX4_count_60 : decode cX4_count 60 = .ok (.lshl, 1) := dz_at (i := 38) dy_p08_6 rfl
theorem dX4_count_61 : decode cX4_count 61 = .ok (.ldc2_w 46, 3) := dz_at (i := 39) dy_p08_6 rfl
noncomputable def dz_p08_7 : List (Nat × Instr × Nat) := [(64, (.lsub, 1)), (65, (.aload_n 0, 1)), (66, (.getfield 19, 3)), (69, (.i2l, 1)), (70, (.ladd, 1)), (71, (.lstore 7, 2)), (73, (.lload 5, 2)), (75, (.lload 7, 2)), (77, (.lcmp, 1)), (78, (.ifCond .le 6, 3)), (81, (.ldc 56, 2)), (83, (.ireturn, 1)), (84, (.lload 5, 2)), (86, (.lload 7, 2)), (88, (.lcmp, 1)), (89, (.ifCond .ge 31, 3)), (92, (.lload_n 3, 1)), (93, (.ldc2_w 48, 3)), (96, (.lrem, 1)), (97, (.lconst 0, 1)), (98, (.lcmp, 1)), (99, (.ifCond .eq 6, 3)), (102, (.ldc 56, 2)), (104, (.ireturn, 1)), (105, (.lload_n 3, 1)), (106, (.ldc2_w 48, 3)), (109, (.ldiv, 1)), (110, (.lstore_n 3, 1)), (111, (.lload 5, 2)), (113, (.lconst 1, 1)), (114, (.ladd, 1)), (115, (.lstore 5, 2)), (117, (.goto (-33), 3)), (120, (.lload_n 3, 1)), (121, (.aload_n 0, 1)), (122, (.getfield 22, 3)), (125, (.lcmp, 1)), (126, (.ifCond .le 8, 3)), (129, (.ldc 56, 2)), (131, (.goto 18, 3))]
theorem dy_p08_7 : dz_ok cX4_count dz_p08_7 = true := by decide +kernel
theorem dX4_count_64 : decode cX4_count 64 = .ok (.lsub, 1) := dz_at (i := 0) dy_p08_7 rfl
theorem dX4_count_65 : decode cX4_count 65 = .ok (.aload_n 0, 1) := dz_at (i := 1) dy_p08_7 rfl
theorem dX4_count_66 : decode cX4_count 66 = .ok (.getfield 19, 3) := dz_at (i := 2) dy_p08_7 rfl
theorem dX4_count_69 : decode cX4_count 69 = .ok (.i2l, 1) := dz_at (i := 3) dy_p08_7 rfl
theorem dX4_count_70 : decode cX4_count 70 = .ok (.ladd, 1) := dz_at (i := 4) dy_p08_7 rfl
theorem dX4_count_71 : decode cX4_count 71 = .ok (.lstore 7, 2) := dz_at (i := 5) dy_p08_7 rfl
theorem dX4_count_73 : decode cX4_count 73 = .ok (.lload 5, 2) := dz_at (i := 6) dy_p08_7 rfl
theorem dX4_count_75 : decode cX4_count 75 = .ok (.lload 7, 2) := dz_at (i := 7) dy_p08_7 rfl
theorem dX4_count_77 : decode cX4_count 77 = .ok (.lcmp, 1) := dz_at (i := 8) dy_p08_7 rfl
theorem dX4_count_78 : decode cX4_count 78 = .ok (.ifCond .le 6, 3) := dz_at (i := 9) dy_p08_7 rfl
theorem dX4_count_81 : decode cX4_count 81 = .ok (.ldc 56, 2) := dz_at (i := 10) dy_p08_7 rfl
theorem dX4_count_83 : decode cX4_count 83 = .ok (.ireturn, 1) := dz_at (i := 11) dy_p08_7 rfl
theorem dX4_count_84 : decode cX4_count 84 = .ok (.lload 5, 2) := dz_at (i := 12) dy_p08_7 rfl
theorem dX4_count_86 : decode cX4_count 86 = .ok (.lload 7, 2) := dz_at (i := 13) dy_p08_7 rfl
theorem dX4_count_88 : decode cX4_count 88 = .ok (.lcmp, 1) := dz_at (i := 14) dy_p08_7 rfl
theorem dX4_count_89 : decode cX4_count 89 = .ok (.ifCond .ge 31, 3) := dz_at (i := 15) dy_p08_7 rfl
theorem dX4_count_92 : decode cX4_count 92 = .ok (.lload_n 3, 1) := dz_at (i := 16) dy_p08_7 rfl
theorem dX4_count_93 : decode cX4_count 93 = .ok (.ldc2_w 48, 3) := dz_at (i := 17) dy_p08_7 rfl
theorem dX4_count_96 : decode cX4_count 96 = .ok (.lrem, 1) := dz_at (i := 18) dy_p08_7 rfl
theorem dX4_count_97 : decode cX4_count 97 = .ok (.lconst 0, 1) := dz_at (i := 19) dy_p08_7 rfl
theorem dX4_count_98 : decode cX4_count 98 = .ok (.lcmp, 1) := dz_at (i := 20) dy_p08_7 rfl
theorem dX4_count_99 : decode cX4_count 99 = .ok (.ifCond .eq 6, 3) := dz_at (i := 21) dy_p08_7 rfl
theorem dX4_count_102 : decode cX4_count 102 = .ok (.ldc 56, 2) := dz_at (i := 22) dy_p08_7 rfl
theorem dX4_count_104 : decode cX4_count 104 = .ok (.ireturn, 1) := dz_at (i := 23) dy_p08_7 rfl
theorem dX4_count_105 : decode cX4_count 105 = .ok (.lload_n 3, 1) := dz_at (i := 24) dy_p08_7 rfl
theorem dX4_count_106 : decode cX4_count 106 = .ok (.ldc2_w 48, 3) := dz_at (i := 25) dy_p08_7 rfl
theorem dX4_count_109 : decode cX4_count 109 = .ok (.ldiv, 1) := dz_at (i := 26) dy_p08_7 rfl
theorem dX4_count_110 : decode cX4_count 110 = .ok (.lstore_n 3, 1) := dz_at (i := 27) dy_p08_7 rfl
theorem dX4_count_111 : decode cX4_count 111 = .ok (.lload 5, 2) := dz_at (i := 28) dy_p08_7 rfl
theorem dX4_count_113 : decode cX4_count 113 = .ok (.lconst 1, 1) := dz_at (i := 29) dy_p08_7 rfl
theorem dX4_count_114 : decode cX4_count 114 = .ok (.ladd, 1) := dz_at (i := 30) dy_p08_7 rfl
theorem dX4_count_115 : decode cX4_count 115 = .ok (.lstore 5, 2) := dz_at (i := 31) dy_p08_7 rfl
theorem dX4_count_117 : decode cX4_count 117 = .ok (.goto (-33), 3) := dz_at (i := 32) dy_p08_7 rfl
theorem dX4_count_120 : decode cX4_count 120 = .ok (.lload_n 3, 1) := dz_at (i := 33) dy_p08_7 rfl
theorem dX4_count_121 : decode cX4_count 121 = .ok (.aload_n 0, 1) := dz_at (i := 34) dy_p08_7 rfl
theorem dX4_count_122 : decode cX4_count 122 = .ok (.getfield 22, 3) := dz_at (i := 35) dy_p08_7 rfl
theorem dX4_count_125 : decode cX4_count 125 = .ok (.lcmp, 1) := dz_at (i := 36) dy_p08_7 rfl
theorem dX4_count_126 : decode cX4_count 126 = .ok (.ifCond .le 8, 3) := dz_at (i := 37) dy_p08_7 rfl
theorem dX4_count_129 : decode cX4_count 129 = .ok (.ldc 56, 2) := dz_at (i := 38) dy_p08_7 rfl
theorem dX4_count_131 : decode cX4_count 131 = .ok (.goto 18, 3) := dz_at (i := 39) dy_p08_7 rfl
noncomputable def dz_p08_8 : List (Nat × Instr × Nat) := [(134, (.aload_n 0, 1)), (135, (.lload_n 1, 1)), (136, (.invokevirtual 39, 3)), (139, (.ifCond .eq 8, 3)), (142, (.lload_n 3, 1)), (143, (.lneg, 1)), (144, (.goto 4, 3)), (147, (.lload_n 3, 1)), (148, (.l2i, 1)), (149, (.ireturn, 1))]
theorem dy_p08_8 : dz_ok cX4_count dz_p08_8 = true := by decide +kernel
theorem dX4_count_134 : decode cX4_count 134 = .ok (.aload_n 0, 1) := dz_at (i := 0) dy_p08_8 rfl
theorem dX4_count_135 : decode cX4_count 135 = .ok (.lload_n 1, 1) := dz_at (i := 1) dy_p08_8 rfl
theorem dX4_count_136 : decode cX4_count 136 = .ok (.invokevirtual 39, 3) := dz_at (i := 2) dy_p08_8 rfl
theorem dX4_count_139 : decode cX4_count 139 = .ok (.ifCond .eq 8, 3) := dz_at (i := 3) dy_p08_8 rfl
theorem dX4_count_142 : decode cX4_count 142 = .ok (.lload_n 3, 1) := dz_at (i := 4) dy_p08_8 rfl
theorem dX4_count_143 : decode cX4_count 143 = .ok (.lneg, 1) := dz_at (i := 5) dy_p08_8 rfl
theorem dX4_count_144 : decode cX4_count 144 = .ok (.goto 4, 3) := dz_at (i := 6) dy_p08_8 rfl
theorem dX4_count_147 : decode cX4_count 147 = .ok (.lload_n 3, 1) := dz_at (i := 7) dy_p08_8 rfl
theorem dX4_count_148 : decode cX4_count 148 = .ok (.l2i, 1) := dz_at (i := 8) dy_p08_8 rfl
theorem dX4_count_149 : decode cX4_count 149 = .ok (.ireturn, 1) := dz_at (i := 9) dy_p08_8 rfl
noncomputable def L_count (w : Bool) (p0 : Int64) : Nat → Int64 → Int64 → Int32
  | 0, v, v2 => if v ≤ (mMo w) then (if (o_X4_isBelowZero w p0) = true then ((-v).toInt32)
      else v.toInt32)
    else (-2147483648)
  | ncount + 1, v, v2 => if (((jLshl 1 ((mEx w) - 1)) - 3) + ((mFr w).toInt64)) ≤ v2 then (if v ≤ (mMo w) then (if (o_X4_isBelowZero w p0) = true then ((-v).toInt32)
        else v.toInt32)
      else (-2147483648))
    else if (v - v / 2 * 2) = 0 then L_count w p0 ncount (v / 2) (v2 + 1)
    else (-2147483648)
noncomputable def o_X4_count (w : Bool) (p0 : Int64) : Int32 :=
  if (o_X4_size w p0) = 0 then 0
  else if (o_X4_exponent w p0) = 0 then (-2147483648)
  else if (o_X4_isEndless w p0) = true then (-2147483648)
  else if (o_X4_exponent w p0) ≤ (((jLshl 1 ((mEx w) - 1)) - 3) + ((mFr w).toInt64)) then L_count w p0 1100 ((jLshl 1 (mFr w)) + (o_X4_fraction w p0)) (o_X4_exponent w p0)
  else (-2147483648)
set_option maxHeartbeats 4000000 in
set_option maxRecDepth 100000 in
theorem k_X4_count (l : Launch) (dC : Nat → ClassId) (dI : Nat → Nat → Nat) (cy : ClassId) (h0 : Nat) (hc : Nat) (w : Bool) (a : Int32) (f : Nat → Int64) (sz : Nat) (p0 : Int64) (hok : okN w p0) : Met l yX4_count wsX4_count ({ frames := 3, cells := 0, slots := 0, locals := 64 }) (va_Pc [.ref h0, .long p0] (xB (dC, dI) xCl [(h0, eMR w hc a), (hc, eA cy f)] [(cy, .long)] sz)) (va_Qi (fun (r : Int32) (_ : Unit) => r = (o_X4_count w p0)) (fun _ _ => True) (aN sz)) 0 0 (aN sz) := by
  refine Met.ofW (cc := cX4_count) (maxL := 9) (ret := (some .int)) (by decide +kernel) rfl ?_
  intro p e s m args below meth c s₁ B hml hv
  obtain ⟨rfl, hsz, hP, hK⟩ := hv
  have hx := B.exec
  have hb := B.bytes
  have hr := B.returns
  have hts := atoms_spec (ws := wsX4_count) B.pre
  have hown : s.vm.findClass RX4 = some m.cls := findClass_of_methodNamed B.named
  have hlocks := B.notSynchronized
  subst hsz
  have hA : ∀ q : Nat, s.heap.size ≤ q → aN s.heap.size q := fun _ h => h
  have hS : va_S (aN s.heap.size) s.heap s.heap [] := va_S.rf
  have hP : va_P (dC, dI) xCl [(h0, eMR w hc a), (hc, eA cy f)] s.heap := hP
  have hl := lv_entry ([.ref h0, .long p0]) (n := 9) (Nat.le_of_ble_eq_true rfl)
  rw [lg_entry_eq]
  generalize (lg_sl ([.ref h0, .long p0]) ++ List.replicate (9 - (lg_sl ([.ref h0, .long p0])).length) Slot.unset).toArray = ls at hl ⊢
  have hl : lv_has ls 9 [(0, .ref h0), (1, .long p0)] := hl
  refine lv_aload_n hx hb dX4_count_0 rfl (lv_at hl 0 rfl) ?_
  refine lv_lload_n hx hb dX4_count_1 rfl (lv_at hl 1 rfl) ?_
  have hPc := hP.sub (ws' := [(h0, eMR w hc a), (hc, eA cy f)]) [0, 1] rfl
  have hKc := hK.sub (tys' := [(cy, .long)]) [0] rfl
  refine va_calll (va_runV (As := [.long p0]) (rest := []) ⟨hx, hb, hml, hown, hts⟩ (k_X4_size l dC dI cy h0 hc w a f s.heap.size p0) (cwV 1 hts gX4_count_X4_size rfl rfl rfl (by decide +kernel) ⟨Nat.le_of_ble_eq_true rfl, Nat.le_of_ble_eq_true rfl⟩) (xB.preV hKc hPc (ci := 6) (q0 := 0) rfl rfl) rfl rfl hl.1 rfl (lv_room (Nat.le_of_ble_eq_true rfl)) dX4_count_2 ⟨Nat.le_of_ble_eq_true rfl, Nat.le_of_ble_eq_true rfl⟩) hS xA_old (fun q h => hA q (Nat.le_trans hS.1 h)) (fun r_1 u t H locs ht hvm hw hB hz hk hS => ?_)
  replace hw : r_1 = (o_X4_size w p0) := hw
  subst r_1
  have hP := xP_keep hP hk
  refine lv_lconst (v := 0) hx hb dX4_count_5 (by decide +kernel) ?_
  refine xc_ne (tgt := 12) hx hb dX4_count_6 dX4_count_7 (by decide +kernel) (fun c_2 => ?_) (fun c_2 => ?_)
  · skip
    refine lv_aload_n hx hb dX4_count_12 rfl (lv_at hl 0 rfl) ?_
    refine lv_lload_n hx hb dX4_count_13 rfl (lv_at hl 1 rfl) ?_
    have hPc := hP.sub (ws' := [(h0, eMR w hc a), (hc, eA cy f)]) [0, 1] rfl
    have hKc := hK.sub (tys' := [(cy, .long)]) [0] rfl
    refine va_calll (va_runV (As := [.long p0]) (rest := []) ⟨hx, hb, hml, hown, hts⟩ (k_X4_exponent l dC dI cy h0 hc w a f H.size p0) (cwV 1 hts gX4_count_X4_exponent rfl rfl rfl (by decide +kernel) ⟨Nat.le_of_ble_eq_true rfl, Nat.le_of_ble_eq_true rfl⟩) (xB.preV hKc hPc (ci := 6) (q0 := 0) rfl rfl) rfl rfl hl.1 rfl (lv_room (Nat.le_of_ble_eq_true rfl)) dX4_count_14 ⟨Nat.le_of_ble_eq_true rfl, Nat.le_of_ble_eq_true rfl⟩) hS xA_old (fun q h => hA q (Nat.le_trans hS.1 h)) (fun r_3 u t H locs ht hvm hw hB hz hk hS => ?_)
    replace hw : r_3 = (o_X4_exponent w p0) := hw
    subst r_3
    have hP := xP_keep hP hk
    refine lv_lconst (v := 0) hx hb dX4_count_17 (by decide +kernel) ?_
    refine xc_eq (tgt := 30) hx hb dX4_count_18 dX4_count_19 (by decide +kernel) (fun c_4 => ?_) (fun c_4 => ?_)
    · skip
      refine lv_ldc (own := RX4) (index := 56) (v := (-2147483648)) hx hb hown (hts (.constant RX4 56 (-2147483648)) (by decide +kernel)) dX4_count_30 ?_
      have he : o_X4_count w p0 = (-2147483648) := by (rw [o_X4_count, if_neg c_2, if_pos c_4]) <;> rfl
      refine W.widen (k := 0) (n := 0) (by omega) (by omega) ?_
      exact W.iret (v := (-2147483648)) hx hb hr (fun t ht hW => ⟨⟨_, (), rfl, (by (rw [he]) <;> rfl), trivial⟩, hS.F ht⟩) hS.2.2 dX4_count_32
    · skip
      refine lv_aload_n hx hb dX4_count_22 rfl (lv_at hl 0 rfl) ?_
      refine lv_lload_n hx hb dX4_count_23 rfl (lv_at hl 1 rfl) ?_
      have hPc := hP.sub (ws' := [(h0, eMR w hc a), (hc, eA cy f)]) [0, 1] rfl
      have hKc := hK.sub (tys' := [(cy, .long)]) [0] rfl
      refine va_calli (va_runV (As := [.long p0]) (rest := []) ⟨hx, hb, hml, hown, hts⟩ (k_X4_isEndless l dC dI cy h0 hc w a f H.size p0) (cwV 1 hts gX4_count_X4_isEndless rfl rfl rfl (by decide +kernel) ⟨Nat.le_of_ble_eq_true rfl, Nat.le_of_ble_eq_true rfl⟩) (xB.preV hKc hPc (ci := 6) (q0 := 0) rfl rfl) rfl rfl hl.1 rfl (lv_room (Nat.le_of_ble_eq_true rfl)) dX4_count_24 ⟨Nat.le_of_ble_eq_true rfl, Nat.le_of_ble_eq_true rfl⟩) hS xA_old (fun q h => hA q (Nat.le_trans hS.1 h)) (fun r_5 u t H locs ht hvm hw hB hz hk hS => ?_)
      replace hw : r_5 = b2i (o_X4_isEndless w p0) := hw
      subst r_5
      have hP := xP_keep hP hk
      refine xz_eq (tgt := 33) hx hb dX4_count_27 (by decide +kernel) (fun c_6 => ?_) (fun c_6 => ?_)
      · skip
        refine lv_lconst (v := 1) hx hb dX4_count_33 (by decide +kernel) ?_
        refine lv_aload_n hx hb dX4_count_34 rfl (lv_at hl 0 rfl) ?_
        refine va_get (D := (dC, dI)) (ci := 6) (v := .int (mFr w)) (C := RX4) (T := TX4) (N := 5) hx hb hts (by decide +kernel) hown hK hP 0 rfl rfl 1 (by decide +kernel) (hts (.fieldLink RX4 19 "EdgefloatsModel$Row" "fractions" "I") (by decide +kernel)) (fun _ h9 => h9) rfl dX4_count_35 ?_
        refine lv_lshl (v := (jLshl 1 (mFr w))) hx hb dX4_count_38 rfl ?_
        refine lv_aload_n hx hb dX4_count_39 rfl (lv_at hl 0 rfl) ?_
        refine lv_lload_n hx hb dX4_count_40 rfl (lv_at hl 1 rfl) ?_
        have hPc := hP.sub (ws' := [(h0, eMR w hc a), (hc, eA cy f)]) [0, 1] rfl
        have hKc := hK.sub (tys' := [(cy, .long)]) [0] rfl
        refine va_calll (va_runV (As := [.long p0]) (rest := [.long (jLshl 1 (mFr w))]) ⟨hx, hb, hml, hown, hts⟩ (k_X4_fraction l dC dI cy h0 hc w a f H.size p0) (cwV 1 hts gX4_count_X4_fraction rfl rfl rfl (by decide +kernel) ⟨Nat.le_of_ble_eq_true rfl, Nat.le_of_ble_eq_true rfl⟩) (xB.preV hKc hPc (ci := 6) (q0 := 0) rfl rfl) rfl rfl hl.1 rfl (lv_room (Nat.le_of_ble_eq_true rfl)) dX4_count_41 ⟨Nat.le_of_ble_eq_true rfl, Nat.le_of_ble_eq_true rfl⟩) hS xA_old (fun q h => hA q (Nat.le_trans hS.1 h)) (fun r_7 u t H locs ht hvm hw hB hz hk hS => ?_)
        replace hw : r_7 = (o_X4_fraction w p0) := hw
        subst r_7
        have hP := xP_keep hP hk
        refine lv_ladd hx hb dX4_count_44 ?_
        refine lv_lstore_n (lv' := [(3, .long ((jLshl 1 (mFr w)) + (o_X4_fraction w p0))), (0, .ref h0), (1, .long p0)]) hx hb dX4_count_45 rfl hl (by decide +kernel) rfl (fun ls hl => ?_)
        refine lv_aload_n hx hb dX4_count_46 rfl (lv_at hl 1 rfl) ?_
        refine lv_lload_n hx hb dX4_count_47 rfl (lv_at hl 2 rfl) ?_
        have hPc := hP.sub (ws' := [(h0, eMR w hc a), (hc, eA cy f)]) [0, 1] rfl
        have hKc := hK.sub (tys' := [(cy, .long)]) [0] rfl
        refine va_calll (va_runV (As := [.long p0]) (rest := []) ⟨hx, hb, hml, hown, hts⟩ (k_X4_exponent l dC dI cy h0 hc w a f H.size p0) (cwV 1 hts gX4_count_X4_exponent rfl rfl rfl (by decide +kernel) ⟨Nat.le_of_ble_eq_true rfl, Nat.le_of_ble_eq_true rfl⟩) (xB.preV hKc hPc (ci := 6) (q0 := 0) rfl rfl) rfl rfl hl.1 rfl (lv_room (Nat.le_of_ble_eq_true rfl)) dX4_count_48 ⟨Nat.le_of_ble_eq_true rfl, Nat.le_of_ble_eq_true rfl⟩) hS xA_old (fun q h => hA q (Nat.le_trans hS.1 h)) (fun r_8 u t H locs ht hvm hw hB hz hk hS => ?_)
        replace hw : r_8 = (o_X4_exponent w p0) := hw
        subst r_8
        have hP := xP_keep hP hk
        refine lv_lstore (lv' := [(5, .long (o_X4_exponent w p0)), (3, .long ((jLshl 1 (mFr w)) + (o_X4_fraction w p0))), (0, .ref h0), (1, .long p0)]) hx hb dX4_count_51 hl (by decide +kernel) rfl (fun ls hl => ?_)
        refine lv_lconst (v := 1) hx hb dX4_count_53 (by decide +kernel) ?_
        refine lv_aload_n hx hb dX4_count_54 rfl (lv_at hl 2 rfl) ?_
        refine va_get (D := (dC, dI)) (ci := 6) (v := .int (mEx w)) (C := RX4) (T := TX4) (N := 5) hx hb hts (by decide +kernel) hown hK hP 0 rfl rfl 0 (by decide +kernel) (hts (.fieldLink RX4 15 "EdgefloatsModel$Row" "exponents" "I") (by decide +kernel)) (fun _ h9 => h9) rfl dX4_count_55 ?_
        refine lv_iconst (v := 1) hx hb dX4_count_58 (by decide +kernel) ?_
        refine lv_isub hx hb dX4_count_59 ?_
        refine lv_lshl (v := (jLshl 1 ((mEx w) - 1))) hx hb dX4_count_60 rfl ?_
        refine lv_ldc2 (own := RX4) (index := 46) (v := 3) hx hb hown (hts (.constantLong RX4 46 (3)) (by decide +kernel)) dX4_count_61 ?_
        refine lv_lsub hx hb dX4_count_64 ?_
        refine lv_aload_n hx hb dX4_count_65 rfl (lv_at hl 2 rfl) ?_
        refine va_get (D := (dC, dI)) (ci := 6) (v := .int (mFr w)) (C := RX4) (T := TX4) (N := 5) hx hb hts (by decide +kernel) hown hK hP 0 rfl rfl 1 (by decide +kernel) (hts (.fieldLink RX4 19 "EdgefloatsModel$Row" "fractions" "I") (by decide +kernel)) (fun _ h9 => h9) rfl dX4_count_66 ?_
        refine lv_i2l (v := ((mFr w).toInt64)) hx hb dX4_count_69 rfl ?_
        refine lv_ladd hx hb dX4_count_70 ?_
        refine lv_lstore (lv' := [(7, .long (((jLshl 1 ((mEx w) - 1)) - 3) + ((mFr w).toInt64))), (5, .long (o_X4_exponent w p0)), (3, .long ((jLshl 1 (mFr w)) + (o_X4_fraction w p0))), (0, .ref h0), (1, .long p0)]) hx hb dX4_count_71 hl (by decide +kernel) rfl (fun ls hl => ?_)
        refine lv_lload hx hb dX4_count_73 (lv_at hl 1 rfl) ?_
        refine lv_lload hx hb dX4_count_75 (lv_at hl 0 rfl) ?_
        refine xc_le (tgt := 84) hx hb dX4_count_77 dX4_count_78 (by decide +kernel) (fun c_9 => ?_) (fun c_9 => ?_)
        · skip
          have loop_count : ∀ (ncount : Nat) (v : Int64) (v2 : Int64) (H : Heap) (locs : List Loc) (ls : Array Slot), (((jLshl 1 ((mEx w) - 1)) - 3) + ((mFr w).toInt64)).toInt ≤ v2.toInt + (ncount : Nat) → o_X4_count w p0 = L_count w p0 ncount v v2 → va_P (dC, dI) xCl [(h0, eMR w hc a), (hc, eA cy f)] H → va_S (aN s.heap.size) s.heap H locs → lv_has ls 9 [(7, .long (((jLshl 1 ((mEx w) - 1)) - 3) + ((mFr w).toInt64))), (5, .long v2), (3, .long v), (0, .ref h0), (1, .long p0)] → W p l e (headSpec wsX4_count ({ frames := 3, cells := 0, slots := 0, locals := 64 } : Room)).room s m ([.ref h0, .long p0]).toArray below meth c H locs 0 0 (MQ below (va_Qi (fun (r : Int32) (_ : Unit) => r = (o_X4_count w p0)) (fun _ _ => True) (aN s.heap.size)) ([.ref h0, .long p0]).toArray s 0 0 (aN s.heap.size)) (F0 m 84 ls []) := by
            intro ncount
            induction ncount with
            | zero =>
              intro v v2 H locs ls hT_count hsp_count hP hS hl
              refine lv_lload hx hb dX4_count_84 (lv_at hl 1 rfl) ?_
              refine lv_lload hx hb dX4_count_86 (lv_at hl 0 rfl) ?_
              refine xc_ge (tgt := 120) hx hb dX4_count_88 dX4_count_89 (by decide +kernel) (fun c9 => ?_) (fun c9 => absurd (xm_cnt0 hT_count) c9)
              refine lv_lload_n hx hb dX4_count_120 rfl (lv_at hl 2 rfl) ?_
              refine lv_aload_n hx hb dX4_count_121 rfl (lv_at hl 3 rfl) ?_
              refine va_get (D := (dC, dI)) (ci := 6) (v := .long (mMo w)) (C := RX4) (T := TX4) (N := 5) hx hb hts (by decide +kernel) hown hK hP 0 rfl rfl 2 (by decide +kernel) (hts (.fieldLink RX4 22 "EdgefloatsModel$Row" "most" "J") (by decide +kernel)) (fun _ h9 => h9) rfl dX4_count_122 ?_
              refine xc_le (tgt := 134) hx hb dX4_count_125 dX4_count_126 (by decide +kernel) (fun c_10 => ?_) (fun c_10 => ?_)
              · skip
                refine lv_aload_n hx hb dX4_count_134 rfl (lv_at hl 3 rfl) ?_
                refine lv_lload_n hx hb dX4_count_135 rfl (lv_at hl 4 rfl) ?_
                have hPc := hP.sub (ws' := [(h0, eMR w hc a), (hc, eA cy f)]) [0, 1] rfl
                have hKc := hK.sub (tys' := [(cy, .long)]) [0] rfl
                refine va_calli (va_runV (As := [.long p0]) (rest := []) ⟨hx, hb, hml, hown, hts⟩ (k_X4_isBelowZero l dC dI cy h0 hc w a f H.size p0) (cwV 1 hts gX4_count_X4_isBelowZero rfl rfl rfl (by decide +kernel) ⟨Nat.le_of_ble_eq_true rfl, Nat.le_of_ble_eq_true rfl⟩) (xB.preV hKc hPc (ci := 6) (q0 := 0) rfl rfl) rfl rfl hl.1 rfl (lv_room (Nat.le_of_ble_eq_true rfl)) dX4_count_136 ⟨Nat.le_of_ble_eq_true rfl, Nat.le_of_ble_eq_true rfl⟩) hS xA_old (fun q h => hA q (Nat.le_trans hS.1 h)) (fun r_11 u t H locs ht hvm hw hB hz hk hS => ?_)
                replace hw : r_11 = b2i (o_X4_isBelowZero w p0) := hw
                subst r_11
                have hP := xP_keep hP hk
                refine xz_eq (tgt := 147) hx hb dX4_count_139 (by decide +kernel) (fun c_12 => ?_) (fun c_12 => ?_)
                · skip
                  refine lv_lload_n hx hb dX4_count_147 rfl (lv_at hl 2 rfl) ?_
                  refine lv_l2i (v := v.toInt32) hx hb dX4_count_148 rfl ?_
                  have he : o_X4_count w p0 = v.toInt32 := hsp_count.trans (by (rw [L_count, if_pos c_10, if_neg c_12]) <;> rfl)
                  refine W.widen (k := 0) (n := 0) (by omega) (by omega) ?_
                  exact W.iret (v := v.toInt32) hx hb hr (fun t ht hW => ⟨⟨_, (), rfl, (by (rw [he]) <;> rfl), trivial⟩, hS.F ht⟩) hS.2.2 dX4_count_149
                · skip
                  refine lv_lload_n hx hb dX4_count_142 rfl (lv_at hl 2 rfl) ?_
                  refine lv_lneg hx hb dX4_count_143 ?_
                  refine lv_goto (tgt := 148) hx hb dX4_count_144 (by decide +kernel) ?_
                  refine lv_l2i (v := ((-v).toInt32)) hx hb dX4_count_148 rfl ?_
                  have he : o_X4_count w p0 = ((-v).toInt32) := hsp_count.trans (by (rw [L_count, if_pos c_10, if_pos c_12]) <;> rfl)
                  refine W.widen (k := 0) (n := 0) (by omega) (by omega) ?_
                  exact W.iret (v := ((-v).toInt32)) hx hb hr (fun t ht hW => ⟨⟨_, (), rfl, (by (rw [he]) <;> rfl), trivial⟩, hS.F ht⟩) hS.2.2 dX4_count_149
              · skip
                refine lv_ldc (own := RX4) (index := 56) (v := (-2147483648)) hx hb hown (hts (.constant RX4 56 (-2147483648)) (by decide +kernel)) dX4_count_129 ?_
                refine lv_goto (tgt := 149) hx hb dX4_count_131 (by decide +kernel) ?_
                have he : o_X4_count w p0 = (-2147483648) := hsp_count.trans (by (rw [L_count, if_neg c_10]) <;> rfl)
                refine W.widen (k := 0) (n := 0) (by omega) (by omega) ?_
                exact W.iret (v := (-2147483648)) hx hb hr (fun t ht hW => ⟨⟨_, (), rfl, (by (rw [he]) <;> rfl), trivial⟩, hS.F ht⟩) hS.2.2 dX4_count_149
            | succ ncount ih_count =>
              intro v v2 H locs ls hT_count hsp_count hP hS hl
              refine lv_lload hx hb dX4_count_84 (lv_at hl 1 rfl) ?_
              refine lv_lload hx hb dX4_count_86 (lv_at hl 0 rfl) ?_
              refine xc_ge (tgt := 120) hx hb dX4_count_88 dX4_count_89 (by decide +kernel) (fun c_13 => ?_) (fun c_13 => ?_)
              · skip
                refine lv_lload_n hx hb dX4_count_120 rfl (lv_at hl 2 rfl) ?_
                refine lv_aload_n hx hb dX4_count_121 rfl (lv_at hl 3 rfl) ?_
                refine va_get (D := (dC, dI)) (ci := 6) (v := .long (mMo w)) (C := RX4) (T := TX4) (N := 5) hx hb hts (by decide +kernel) hown hK hP 0 rfl rfl 2 (by decide +kernel) (hts (.fieldLink RX4 22 "EdgefloatsModel$Row" "most" "J") (by decide +kernel)) (fun _ h9 => h9) rfl dX4_count_122 ?_
                refine xc_le (tgt := 134) hx hb dX4_count_125 dX4_count_126 (by decide +kernel) (fun c_14 => ?_) (fun c_14 => ?_)
                · skip
                  refine lv_aload_n hx hb dX4_count_134 rfl (lv_at hl 3 rfl) ?_
                  refine lv_lload_n hx hb dX4_count_135 rfl (lv_at hl 4 rfl) ?_
                  have hPc := hP.sub (ws' := [(h0, eMR w hc a), (hc, eA cy f)]) [0, 1] rfl
                  have hKc := hK.sub (tys' := [(cy, .long)]) [0] rfl
                  refine va_calli (va_runV (As := [.long p0]) (rest := []) ⟨hx, hb, hml, hown, hts⟩ (k_X4_isBelowZero l dC dI cy h0 hc w a f H.size p0) (cwV 1 hts gX4_count_X4_isBelowZero rfl rfl rfl (by decide +kernel) ⟨Nat.le_of_ble_eq_true rfl, Nat.le_of_ble_eq_true rfl⟩) (xB.preV hKc hPc (ci := 6) (q0 := 0) rfl rfl) rfl rfl hl.1 rfl (lv_room (Nat.le_of_ble_eq_true rfl)) dX4_count_136 ⟨Nat.le_of_ble_eq_true rfl, Nat.le_of_ble_eq_true rfl⟩) hS xA_old (fun q h => hA q (Nat.le_trans hS.1 h)) (fun r_15 u t H locs ht hvm hw hB hz hk hS => ?_)
                  replace hw : r_15 = b2i (o_X4_isBelowZero w p0) := hw
                  subst r_15
                  have hP := xP_keep hP hk
                  refine xz_eq (tgt := 147) hx hb dX4_count_139 (by decide +kernel) (fun c_16 => ?_) (fun c_16 => ?_)
                  · skip
                    refine lv_lload_n hx hb dX4_count_147 rfl (lv_at hl 2 rfl) ?_
                    refine lv_l2i (v := v.toInt32) hx hb dX4_count_148 rfl ?_
                    have he : o_X4_count w p0 = v.toInt32 := hsp_count.trans (by (rw [L_count, if_pos c_13, if_pos c_14, if_neg c_16]) <;> rfl)
                    refine W.widen (k := 0) (n := 0) (by omega) (by omega) ?_
                    exact W.iret (v := v.toInt32) hx hb hr (fun t ht hW => ⟨⟨_, (), rfl, (by (rw [he]) <;> rfl), trivial⟩, hS.F ht⟩) hS.2.2 dX4_count_149
                  · skip
                    refine lv_lload_n hx hb dX4_count_142 rfl (lv_at hl 2 rfl) ?_
                    refine lv_lneg hx hb dX4_count_143 ?_
                    refine lv_goto (tgt := 148) hx hb dX4_count_144 (by decide +kernel) ?_
                    refine lv_l2i (v := ((-v).toInt32)) hx hb dX4_count_148 rfl ?_
                    have he : o_X4_count w p0 = ((-v).toInt32) := hsp_count.trans (by (rw [L_count, if_pos c_13, if_pos c_14, if_pos c_16]) <;> rfl)
                    refine W.widen (k := 0) (n := 0) (by omega) (by omega) ?_
                    exact W.iret (v := ((-v).toInt32)) hx hb hr (fun t ht hW => ⟨⟨_, (), rfl, (by (rw [he]) <;> rfl), trivial⟩, hS.F ht⟩) hS.2.2 dX4_count_149
                · skip
                  refine lv_ldc (own := RX4) (index := 56) (v := (-2147483648)) hx hb hown (hts (.constant RX4 56 (-2147483648)) (by decide +kernel)) dX4_count_129 ?_
                  refine lv_goto (tgt := 149) hx hb dX4_count_131 (by decide +kernel) ?_
                  have he : o_X4_count w p0 = (-2147483648) := hsp_count.trans (by (rw [L_count, if_pos c_13, if_neg c_14]) <;> rfl)
                  refine W.widen (k := 0) (n := 0) (by omega) (by omega) ?_
                  exact W.iret (v := (-2147483648)) hx hb hr (fun t ht hW => ⟨⟨_, (), rfl, (by (rw [he]) <;> rfl), trivial⟩, hS.F ht⟩) hS.2.2 dX4_count_149
              · skip
                refine lv_lload_n hx hb dX4_count_92 rfl (lv_at hl 2 rfl) ?_
                refine lv_ldc2 (own := RX4) (index := 48) (v := 2) hx hb hown (hts (.constantLong RX4 48 (2)) (by decide +kernel)) dX4_count_93 ?_
                refine lv_lrem hx hb dX4_count_96 (by decide +kernel) ?_
                refine lv_lconst (v := 0) hx hb dX4_count_97 (by decide +kernel) ?_
                refine xc_eq (tgt := 105) hx hb dX4_count_98 dX4_count_99 (by decide +kernel) (fun c_17 => ?_) (fun c_17 => ?_)
                · skip
                  refine lv_lload_n hx hb dX4_count_105 rfl (lv_at hl 2 rfl) ?_
                  refine lv_ldc2 (own := RX4) (index := 48) (v := 2) hx hb hown (hts (.constantLong RX4 48 (2)) (by decide +kernel)) dX4_count_106 ?_
                  refine lv_ldiv hx hb dX4_count_109 (by decide +kernel) ?_
                  refine lv_lstore_n (lv' := [(3, .long (v / 2)), (7, .long (((jLshl 1 ((mEx w) - 1)) - 3) + ((mFr w).toInt64))), (5, .long v2), (0, .ref h0), (1, .long p0)]) hx hb dX4_count_110 rfl hl (by decide +kernel) rfl (fun ls hl => ?_)
                  refine lv_lload hx hb dX4_count_111 (lv_at hl 2 rfl) ?_
                  refine lv_lconst (v := 1) hx hb dX4_count_113 (by decide +kernel) ?_
                  refine lv_ladd hx hb dX4_count_114 ?_
                  refine lv_lstore (lv' := [(5, .long (v2 + 1)), (3, .long (v / 2)), (7, .long (((jLshl 1 ((mEx w) - 1)) - 3) + ((mFr w).toInt64))), (0, .ref h0), (1, .long p0)]) hx hb dX4_count_115 hl (by decide +kernel) rfl (fun ls hl => ?_)
                  refine lv_goto (tgt := 84) hx hb dX4_count_117 (by decide +kernel) ?_
                  refine W.widen (k := 0) (n := 0) (Nat.le_refl _) (Nat.le_refl _) ?_
                  exact ih_count (v / 2) (v2 + 1) _ _ _ (xm_cntS hT_count c_13) (hsp_count.trans (by (rw [L_count, if_neg c_13, if_pos c_17]) <;> rfl)) hP hS (lv_sub hl [2, 0, 1, 3, 4] rfl)
                · skip
                  refine lv_ldc (own := RX4) (index := 56) (v := (-2147483648)) hx hb hown (hts (.constant RX4 56 (-2147483648)) (by decide +kernel)) dX4_count_102 ?_
                  have he : o_X4_count w p0 = (-2147483648) := hsp_count.trans (by (rw [L_count, if_neg c_13, if_neg c_17]) <;> rfl)
                  refine W.widen (k := 0) (n := 0) (by omega) (by omega) ?_
                  exact W.iret (v := (-2147483648)) hx hb hr (fun t ht hW => ⟨⟨_, (), rfl, (by (rw [he]) <;> rfl), trivial⟩, hS.F ht⟩) hS.2.2 dX4_count_104
          exact loop_count 1100 ((jLshl 1 (mFr w)) + (o_X4_fraction w p0)) (o_X4_exponent w p0) _ _ _ (xm_cntI hok) (by (rw [o_X4_count, if_neg c_2, if_neg c_4, if_neg c_6, if_pos c_9]) <;> rfl) hP hS (lv_sub hl [0, 1, 2, 3, 4] rfl)
        · skip
          refine lv_ldc (own := RX4) (index := 56) (v := (-2147483648)) hx hb hown (hts (.constant RX4 56 (-2147483648)) (by decide +kernel)) dX4_count_81 ?_
          have he : o_X4_count w p0 = (-2147483648) := by (rw [o_X4_count, if_neg c_2, if_neg c_4, if_neg c_6, if_neg c_9]) <;> rfl
          refine W.widen (k := 0) (n := 0) (by omega) (by omega) ?_
          exact W.iret (v := (-2147483648)) hx hb hr (fun t ht hW => ⟨⟨_, (), rfl, (by (rw [he]) <;> rfl), trivial⟩, hS.F ht⟩) hS.2.2 dX4_count_83
      · skip
        refine lv_ldc (own := RX4) (index := 56) (v := (-2147483648)) hx hb hown (hts (.constant RX4 56 (-2147483648)) (by decide +kernel)) dX4_count_30 ?_
        have he : o_X4_count w p0 = (-2147483648) := by (rw [o_X4_count, if_neg c_2, if_neg c_4, if_pos c_6]) <;> rfl
        refine W.widen (k := 0) (n := 0) (by omega) (by omega) ?_
        exact W.iret (v := (-2147483648)) hx hb hr (fun t ht hW => ⟨⟨_, (), rfl, (by (rw [he]) <;> rfl), trivial⟩, hS.F ht⟩) hS.2.2 dX4_count_32
  · skip
    refine lv_iconst (v := 0) hx hb dX4_count_10 (by decide +kernel) ?_
    have he : o_X4_count w p0 = 0 := by (rw [o_X4_count, if_pos c_2]) <;> rfl
    refine W.widen (k := 0) (n := 0) (by omega) (by omega) ?_
    exact W.iret (v := 0) hx hb hr (fun t ht hW => ⟨⟨_, (), rfl, (by (rw [he]) <;> rfl), trivial⟩, hS.F ht⟩) hS.2.2 dX4_count_11
theorem cl_X4_isQuarter_1 : ∀ w ∈ wsX4_isQuarter_r1, w ∈ wsX4_isQuarter := fun _ h => (List.mem_cons_of_mem _ (List.mem_append_left _ (List.mem_append_left _ h)))
theorem cl_X4_isQuarter_2 : ∀ w ∈ wsX4_isQuarter_r2, w ∈ wsX4_isQuarter := fun _ h => (List.mem_cons_of_mem _ (List.mem_append_left _ (List.mem_append_right _ h)))
theorem cl_X4_isQuarter_3 : ∀ w ∈ wsX40, w ∈ wsX4_isQuarter := fun _ h => (List.mem_cons_of_mem _ (List.mem_append_right _ h))
set_option maxRecDepth 20000 in
theorem ggX4_isQuarter_X4_count : GoodIn wsX4_isQuarter wsX4_count := goodIn_sub (List.forall_mem_cons.mpr ⟨(cl_X4_isQuarter_1 _ (List.mem_of_getElem? (i := 5) rfl)), fun w h => (List.mem_append.mp h).elim ((fun w h => (List.mem_append.mp h).elim ((List.forall_mem_cons.mpr ⟨(cl_X4_isQuarter_1 _ (List.mem_of_getElem? (i := 0) rfl)), List.forall_mem_cons.mpr ⟨(cl_X4_isQuarter_1 _ (List.mem_of_getElem? (i := 6) rfl)), List.forall_mem_cons.mpr ⟨(cl_X4_isQuarter_1 _ (List.mem_of_getElem? (i := 7) rfl)), List.forall_mem_cons.mpr ⟨(cl_X4_isQuarter_1 _ (List.mem_of_getElem? (i := 8) rfl)), List.forall_mem_cons.mpr ⟨(cl_X4_isQuarter_1 _ (List.mem_of_getElem? (i := 9) rfl)), List.forall_mem_cons.mpr ⟨(cl_X4_isQuarter_1 _ (List.mem_of_getElem? (i := 10) rfl)), List.forall_mem_cons.mpr ⟨(cl_X4_isQuarter_1 _ (List.mem_of_getElem? (i := 11) rfl)), List.forall_mem_cons.mpr ⟨(cl_X4_isQuarter_1 _ (List.mem_of_getElem? (i := 12) rfl)), List.forall_mem_cons.mpr ⟨(cl_X4_isQuarter_1 _ (List.mem_of_getElem? (i := 13) rfl)), List.forall_mem_cons.mpr ⟨(cl_X4_isQuarter_1 _ (List.mem_of_getElem? (i := 4) rfl)), List.forall_mem_cons.mpr ⟨(cl_X4_isQuarter_1 _ (List.mem_of_getElem? (i := 14) rfl)), List.forall_mem_cons.mpr ⟨(cl_X4_isQuarter_1 _ (List.mem_of_getElem? (i := 15) rfl)), List.forall_mem_cons.mpr ⟨(cl_X4_isQuarter_1 _ (List.mem_of_getElem? (i := 16) rfl)), List.forall_mem_cons.mpr ⟨(cl_X4_isQuarter_1 _ (List.mem_of_getElem? (i := 17) rfl)), List.forall_mem_cons.mpr ⟨(cl_X4_isQuarter_1 _ (List.mem_of_getElem? (i := 18) rfl)), List.forall_mem_cons.mpr ⟨(cl_X4_isQuarter_1 _ (List.mem_of_getElem? (i := 19) rfl)), List.forall_mem_cons.mpr ⟨(cl_X4_isQuarter_1 _ (List.mem_of_getElem? (i := 20) rfl)), List.forall_mem_cons.mpr ⟨(cl_X4_isQuarter_1 _ (List.mem_of_getElem? (i := 21) rfl)), List.forall_mem_cons.mpr ⟨(cl_X4_isQuarter_1 _ (List.mem_of_getElem? (i := 22) rfl)), List.forall_mem_cons.mpr ⟨(cl_X4_isQuarter_1 _ (List.mem_of_getElem? (i := 23) rfl)), List.forall_mem_cons.mpr ⟨(cl_X4_isQuarter_2 _ (List.mem_of_getElem? (i := 0) rfl)), List.forall_mem_cons.mpr ⟨(cl_X4_isQuarter_2 _ (List.mem_of_getElem? (i := 1) rfl)), List.forall_mem_cons.mpr ⟨(cl_X4_isQuarter_2 _ (List.mem_of_getElem? (i := 2) rfl)), List.forall_mem_cons.mpr ⟨(cl_X4_isQuarter_2 _ (List.mem_of_getElem? (i := 3) rfl)), fun _ h => absurd h List.not_mem_nil⟩⟩⟩⟩⟩⟩⟩⟩⟩⟩⟩⟩⟩⟩⟩⟩⟩⟩⟩⟩⟩⟩⟩⟩) w) ((List.forall_mem_cons.mpr ⟨(cl_X4_isQuarter_2 _ (List.mem_of_getElem? (i := 4) rfl)), List.forall_mem_cons.mpr ⟨(cl_X4_isQuarter_2 _ (List.mem_of_getElem? (i := 5) rfl)), List.forall_mem_cons.mpr ⟨(cl_X4_isQuarter_2 _ (List.mem_of_getElem? (i := 6) rfl)), List.forall_mem_cons.mpr ⟨(cl_X4_isQuarter_2 _ (List.mem_of_getElem? (i := 7) rfl)), List.forall_mem_cons.mpr ⟨(cl_X4_isQuarter_2 _ (List.mem_of_getElem? (i := 8) rfl)), List.forall_mem_cons.mpr ⟨(cl_X4_isQuarter_2 _ (List.mem_of_getElem? (i := 9) rfl)), List.forall_mem_cons.mpr ⟨(cl_X4_isQuarter_2 _ (List.mem_of_getElem? (i := 10) rfl)), List.forall_mem_cons.mpr ⟨(cl_X4_isQuarter_2 _ (List.mem_of_getElem? (i := 11) rfl)), List.forall_mem_cons.mpr ⟨(cl_X4_isQuarter_2 _ (List.mem_of_getElem? (i := 12) rfl)), List.forall_mem_cons.mpr ⟨(cl_X4_isQuarter_2 _ (List.mem_of_getElem? (i := 13) rfl)), List.forall_mem_cons.mpr ⟨(cl_X4_isQuarter_2 _ (List.mem_of_getElem? (i := 14) rfl)), List.forall_mem_cons.mpr ⟨(cl_X4_isQuarter_2 _ (List.mem_of_getElem? (i := 15) rfl)), fun _ h => absurd h List.not_mem_nil⟩⟩⟩⟩⟩⟩⟩⟩⟩⟩⟩⟩) w)) w) ((cl_X4_isQuarter_3) w)⟩) (by decide +kernel)
set_option maxRecDepth 20000 in
theorem gX4_isQuarter_X4_count : GoodIn wsX4_isQuarter (wsV RX4 60 RX4 yX4_count wsX4_count) := goodIn_app (goodIn_sub (List.forall_mem_cons.mpr ⟨(cl_X4_isQuarter_1 _ (List.mem_of_getElem? (i := 1) rfl)), List.forall_mem_cons.mpr ⟨(cl_X4_isQuarter_1 _ (List.mem_of_getElem? (i := 2) rfl)), List.forall_mem_cons.mpr ⟨(cl_X4_isQuarter_1 _ (List.mem_of_getElem? (i := 3) rfl)), List.forall_mem_cons.mpr ⟨(cl_X4_isQuarter_1 _ (List.mem_of_getElem? (i := 4) rfl)), fun _ h => absurd h List.not_mem_nil⟩⟩⟩⟩) (by decide +kernel)) ggX4_isQuarter_X4_count
noncomputable def dz_p08_9 : List (Nat × Instr × Nat) := [(0, (.aload_n 0, 1)), (1, (.lload_n 1, 1)), (2, (.invokevirtual 60, 3)), (5, (.ldc 56, 2)), (7, (.if_icmp .eq 7, 3)), (10, (.iconst 1, 1)), (11, (.goto 4, 3)), (14, (.iconst 0, 1)), (15, (.ireturn, 1))]
theorem dy_p08_9 : dz_ok cX4_isQuarter dz_p08_9 = true := by decide +kernel
theorem dX4_isQuarter_0 : decode cX4_isQuarter 0 = .ok (.aload_n 0, 1) := dz_at (i := 0) dy_p08_9 rfl
theorem dX4_isQuarter_1 : decode cX4_isQuarter 1 = .ok (.lload_n 1, 1) := dz_at (i := 1) dy_p08_9 rfl
theorem dX4_isQuarter_2 : decode cX4_isQuarter 2 = .ok (.invokevirtual 60, 3) := dz_at (i := 2) dy_p08_9 rfl
theorem dX4_isQuarter_5 : decode cX4_isQuarter 5 = .ok (.ldc 56, 2) := dz_at (i := 3) dy_p08_9 rfl
theorem dX4_isQuarter_7 : decode cX4_isQuarter 7 = .ok (.if_icmp .eq 7, 3) := dz_at (i := 4) dy_p08_9 rfl
theorem dX4_isQuarter_10 : decode cX4_isQuarter 10 = .ok (.iconst 1, 1) := dz_at (i := 5) dy_p08_9 rfl
theorem dX4_isQuarter_11 : decode cX4_isQuarter 11 = .ok (.goto 4, 3) := dz_at (i := 6) dy_p08_9 rfl
theorem dX4_isQuarter_14 : decode cX4_isQuarter 14 = .ok (.iconst 0, 1) := dz_at (i := 7) dy_p08_9 rfl
theorem dX4_isQuarter_15 : decode cX4_isQuarter 15 = .ok (.ireturn, 1) := dz_at (i := 8) dy_p08_9 rfl
noncomputable def o_X4_isQuarter (w : Bool) (p0 : Int64) : Bool :=
  if (o_X4_count w p0) = (-2147483648) then false
  else true
set_option maxHeartbeats 4000000 in
set_option maxRecDepth 100000 in
theorem k_X4_isQuarter (l : Launch) (dC : Nat → ClassId) (dI : Nat → Nat → Nat) (cy : ClassId) (h0 : Nat) (hc : Nat) (w : Bool) (a : Int32) (f : Nat → Int64) (sz : Nat) (p0 : Int64) (hok : okN w p0) : Met l yX4_isQuarter wsX4_isQuarter ({ frames := 4, cells := 0, slots := 0, locals := 92 }) (va_Pc [.ref h0, .long p0] (xB (dC, dI) xCl [(h0, eMR w hc a), (hc, eA cy f)] [(cy, .long)] sz)) (va_Qi (fun (r : Int32) (_ : Unit) => r = b2i (o_X4_isQuarter w p0)) (fun _ _ => True) (aN sz)) 0 0 (aN sz) := by
  refine Met.ofW (cc := cX4_isQuarter) (maxL := 3) (ret := (some .boolean)) (by decide +kernel) rfl ?_
  intro p e s m args below meth c s₁ B hml hv
  obtain ⟨rfl, hsz, hP, hK⟩ := hv
  have hx := B.exec
  have hb := B.bytes
  have hr := B.returns
  have hts := atoms_spec (ws := wsX4_isQuarter) B.pre
  have hown : s.vm.findClass RX4 = some m.cls := findClass_of_methodNamed B.named
  have hlocks := B.notSynchronized
  subst hsz
  have hA : ∀ q : Nat, s.heap.size ≤ q → aN s.heap.size q := fun _ h => h
  have hS : va_S (aN s.heap.size) s.heap s.heap [] := va_S.rf
  have hP : va_P (dC, dI) xCl [(h0, eMR w hc a), (hc, eA cy f)] s.heap := hP
  have hl := lv_entry ([.ref h0, .long p0]) (n := 3) (Nat.le_of_ble_eq_true rfl)
  rw [lg_entry_eq]
  generalize (lg_sl ([.ref h0, .long p0]) ++ List.replicate (3 - (lg_sl ([.ref h0, .long p0])).length) Slot.unset).toArray = ls at hl ⊢
  have hl : lv_has ls 3 [(0, .ref h0), (1, .long p0)] := hl
  refine lv_aload_n hx hb dX4_isQuarter_0 rfl (lv_at hl 0 rfl) ?_
  refine lv_lload_n hx hb dX4_isQuarter_1 rfl (lv_at hl 1 rfl) ?_
  have hPc := hP.sub (ws' := [(h0, eMR w hc a), (hc, eA cy f)]) [0, 1] rfl
  have hKc := hK.sub (tys' := [(cy, .long)]) [0] rfl
  refine va_calli (va_runV (As := [.long p0]) (rest := []) ⟨hx, hb, hml, hown, hts⟩ (k_X4_count l dC dI cy h0 hc w a f s.heap.size p0 hok) (cwV 1 hts gX4_isQuarter_X4_count rfl rfl rfl (by decide +kernel) ⟨Nat.le_of_ble_eq_true rfl, Nat.le_of_ble_eq_true rfl⟩) (xB.preV hKc hPc (ci := 6) (q0 := 0) rfl rfl) rfl rfl hl.1 rfl (lv_room (Nat.le_of_ble_eq_true rfl)) dX4_isQuarter_2 ⟨Nat.le_of_ble_eq_true rfl, Nat.le_of_ble_eq_true rfl⟩) hS xA_old (fun q h => hA q (Nat.le_trans hS.1 h)) (fun r_1 u t H locs ht hvm hw hB hz hk hS => ?_)
  replace hw : r_1 = (o_X4_count w p0) := hw
  subst r_1
  have hP := xP_keep hP hk
  refine lv_ldc (own := RX4) (index := 56) (v := (-2147483648)) hx hb hown (hts (.constant RX4 56 (-2147483648)) (by decide +kernel)) dX4_isQuarter_5 ?_
  refine lv_icmp_eq (tgt := 14) hx hb dX4_isQuarter_7 (by decide +kernel) (fun c_2 => ?_) (fun c_2 => ?_)
  · skip
    refine lv_iconst (v := 0) hx hb dX4_isQuarter_14 (by decide +kernel) ?_
    have he : o_X4_isQuarter w p0 = false := by (rw [o_X4_isQuarter, if_pos c_2]) <;> rfl
    refine W.widen (k := 0) (n := 0) (by omega) (by omega) ?_
    exact W.zret (v := 0) (ty := .boolean) hx hb hr rfl (fun t ht hW => ⟨⟨_, (), rfl, (by (rw [he]) <;> rfl), trivial⟩, hS.F ht⟩) hS.2.2 dX4_isQuarter_15
  · skip
    refine lv_iconst (v := 1) hx hb dX4_isQuarter_10 (by decide +kernel) ?_
    refine lv_goto (tgt := 15) hx hb dX4_isQuarter_11 (by decide +kernel) ?_
    have he : o_X4_isQuarter w p0 = true := by (rw [o_X4_isQuarter, if_neg c_2]) <;> rfl
    refine W.widen (k := 0) (n := 0) (by omega) (by omega) ?_
    exact W.zret (v := 1) (ty := .boolean) hx hb hr rfl (fun t ht hW => ⟨⟨_, (), rfl, (by (rw [he]) <;> rfl), trivial⟩, hS.F ht⟩) hS.2.2 dX4_isQuarter_15
theorem cl_X4_haveSum_1 : ∀ w ∈ wsX4_haveSum_r1, w ∈ wsX4_haveSum := fun _ h => (List.mem_cons_of_mem _ (List.mem_append_left _ (List.mem_append_left _ h)))
theorem cl_X4_haveSum_2 : ∀ w ∈ wsX4_haveSum_r2, w ∈ wsX4_haveSum := fun _ h => (List.mem_cons_of_mem _ (List.mem_append_left _ (List.mem_append_right _ h)))
theorem cl_X4_haveSum_3 : ∀ w ∈ wsX40, w ∈ wsX4_haveSum := fun _ h => (List.mem_cons_of_mem _ (List.mem_append_right _ h))
set_option maxRecDepth 20000 in
theorem ggX4_haveSum_X4_isEndless : GoodIn wsX4_haveSum wsX4_isEndless := goodIn_sub (List.forall_mem_cons.mpr ⟨(cl_X4_haveSum_1 _ (List.mem_of_getElem? (i := 5) rfl)), fun w h => (List.mem_append.mp h).elim ((List.forall_mem_cons.mpr ⟨(cl_X4_haveSum_1 _ (List.mem_of_getElem? (i := 6) rfl)), List.forall_mem_cons.mpr ⟨(cl_X4_haveSum_1 _ (List.mem_of_getElem? (i := 7) rfl)), List.forall_mem_cons.mpr ⟨(cl_X4_haveSum_1 _ (List.mem_of_getElem? (i := 8) rfl)), List.forall_mem_cons.mpr ⟨(cl_X4_haveSum_1 _ (List.mem_of_getElem? (i := 4) rfl)), List.forall_mem_cons.mpr ⟨(cl_X4_haveSum_1 _ (List.mem_of_getElem? (i := 9) rfl)), List.forall_mem_cons.mpr ⟨(cl_X4_haveSum_1 _ (List.mem_of_getElem? (i := 10) rfl)), List.forall_mem_cons.mpr ⟨(cl_X4_haveSum_1 _ (List.mem_of_getElem? (i := 11) rfl)), List.forall_mem_cons.mpr ⟨(cl_X4_haveSum_1 _ (List.mem_of_getElem? (i := 12) rfl)), List.forall_mem_cons.mpr ⟨(cl_X4_haveSum_1 _ (List.mem_of_getElem? (i := 13) rfl)), List.forall_mem_cons.mpr ⟨(cl_X4_haveSum_1 _ (List.mem_of_getElem? (i := 14) rfl)), List.forall_mem_cons.mpr ⟨(cl_X4_haveSum_1 _ (List.mem_of_getElem? (i := 15) rfl)), List.forall_mem_cons.mpr ⟨(cl_X4_haveSum_1 _ (List.mem_of_getElem? (i := 16) rfl)), List.forall_mem_cons.mpr ⟨(cl_X4_haveSum_1 _ (List.mem_of_getElem? (i := 17) rfl)), List.forall_mem_cons.mpr ⟨(cl_X4_haveSum_1 _ (List.mem_of_getElem? (i := 18) rfl)), List.forall_mem_cons.mpr ⟨(cl_X4_haveSum_1 _ (List.mem_of_getElem? (i := 19) rfl)), List.forall_mem_cons.mpr ⟨(cl_X4_haveSum_1 _ (List.mem_of_getElem? (i := 20) rfl)), fun _ h => absurd h List.not_mem_nil⟩⟩⟩⟩⟩⟩⟩⟩⟩⟩⟩⟩⟩⟩⟩⟩) w) ((cl_X4_haveSum_3) w)⟩) (by decide +kernel)
set_option maxRecDepth 20000 in
theorem gX4_haveSum_X4_isEndless : GoodIn wsX4_haveSum (wsV RX4 53 RX4 yX4_isEndless wsX4_isEndless) := goodIn_app (goodIn_sub (List.forall_mem_cons.mpr ⟨(cl_X4_haveSum_1 _ (List.mem_of_getElem? (i := 1) rfl)), List.forall_mem_cons.mpr ⟨(cl_X4_haveSum_1 _ (List.mem_of_getElem? (i := 2) rfl)), List.forall_mem_cons.mpr ⟨(cl_X4_haveSum_1 _ (List.mem_of_getElem? (i := 3) rfl)), List.forall_mem_cons.mpr ⟨(cl_X4_haveSum_1 _ (List.mem_of_getElem? (i := 4) rfl)), fun _ h => absurd h List.not_mem_nil⟩⟩⟩⟩) (by decide +kernel)) ggX4_haveSum_X4_isEndless
set_option maxRecDepth 20000 in
theorem ggX4_haveSum_X4_isQuarter : GoodIn wsX4_haveSum wsX4_isQuarter := goodIn_sub (List.forall_mem_cons.mpr ⟨(cl_X4_haveSum_2 _ (List.mem_of_getElem? (i := 0) rfl)), fun w h => (List.mem_append.mp h).elim ((fun w h => (List.mem_append.mp h).elim ((List.forall_mem_cons.mpr ⟨(cl_X4_haveSum_2 _ (List.mem_of_getElem? (i := 1) rfl)), List.forall_mem_cons.mpr ⟨(cl_X4_haveSum_2 _ (List.mem_of_getElem? (i := 2) rfl)), List.forall_mem_cons.mpr ⟨(cl_X4_haveSum_2 _ (List.mem_of_getElem? (i := 3) rfl)), List.forall_mem_cons.mpr ⟨(cl_X4_haveSum_2 _ (List.mem_of_getElem? (i := 4) rfl)), List.forall_mem_cons.mpr ⟨(cl_X4_haveSum_1 _ (List.mem_of_getElem? (i := 4) rfl)), List.forall_mem_cons.mpr ⟨(cl_X4_haveSum_2 _ (List.mem_of_getElem? (i := 5) rfl)), List.forall_mem_cons.mpr ⟨(cl_X4_haveSum_1 _ (List.mem_of_getElem? (i := 16) rfl)), List.forall_mem_cons.mpr ⟨(cl_X4_haveSum_1 _ (List.mem_of_getElem? (i := 15) rfl)), List.forall_mem_cons.mpr ⟨(cl_X4_haveSum_2 _ (List.mem_of_getElem? (i := 6) rfl)), List.forall_mem_cons.mpr ⟨(cl_X4_haveSum_2 _ (List.mem_of_getElem? (i := 7) rfl)), List.forall_mem_cons.mpr ⟨(cl_X4_haveSum_1 _ (List.mem_of_getElem? (i := 0) rfl)), List.forall_mem_cons.mpr ⟨(cl_X4_haveSum_1 _ (List.mem_of_getElem? (i := 6) rfl)), List.forall_mem_cons.mpr ⟨(cl_X4_haveSum_1 _ (List.mem_of_getElem? (i := 7) rfl)), List.forall_mem_cons.mpr ⟨(cl_X4_haveSum_1 _ (List.mem_of_getElem? (i := 8) rfl)), List.forall_mem_cons.mpr ⟨(cl_X4_haveSum_1 _ (List.mem_of_getElem? (i := 9) rfl)), List.forall_mem_cons.mpr ⟨(cl_X4_haveSum_1 _ (List.mem_of_getElem? (i := 10) rfl)), List.forall_mem_cons.mpr ⟨(cl_X4_haveSum_1 _ (List.mem_of_getElem? (i := 11) rfl)), List.forall_mem_cons.mpr ⟨(cl_X4_haveSum_1 _ (List.mem_of_getElem? (i := 12) rfl)), List.forall_mem_cons.mpr ⟨(cl_X4_haveSum_1 _ (List.mem_of_getElem? (i := 13) rfl)), List.forall_mem_cons.mpr ⟨(cl_X4_haveSum_1 _ (List.mem_of_getElem? (i := 14) rfl)), List.forall_mem_cons.mpr ⟨(cl_X4_haveSum_2 _ (List.mem_of_getElem? (i := 8) rfl)), List.forall_mem_cons.mpr ⟨(cl_X4_haveSum_2 _ (List.mem_of_getElem? (i := 9) rfl)), List.forall_mem_cons.mpr ⟨(cl_X4_haveSum_2 _ (List.mem_of_getElem? (i := 10) rfl)), List.forall_mem_cons.mpr ⟨(cl_X4_haveSum_2 _ (List.mem_of_getElem? (i := 11) rfl)), fun _ h => absurd h List.not_mem_nil⟩⟩⟩⟩⟩⟩⟩⟩⟩⟩⟩⟩⟩⟩⟩⟩⟩⟩⟩⟩⟩⟩⟩⟩) w) ((List.forall_mem_cons.mpr ⟨(cl_X4_haveSum_1 _ (List.mem_of_getElem? (i := 1) rfl)), List.forall_mem_cons.mpr ⟨(cl_X4_haveSum_1 _ (List.mem_of_getElem? (i := 2) rfl)), List.forall_mem_cons.mpr ⟨(cl_X4_haveSum_1 _ (List.mem_of_getElem? (i := 3) rfl)), List.forall_mem_cons.mpr ⟨(cl_X4_haveSum_1 _ (List.mem_of_getElem? (i := 5) rfl)), List.forall_mem_cons.mpr ⟨(cl_X4_haveSum_1 _ (List.mem_of_getElem? (i := 17) rfl)), List.forall_mem_cons.mpr ⟨(cl_X4_haveSum_1 _ (List.mem_of_getElem? (i := 18) rfl)), List.forall_mem_cons.mpr ⟨(cl_X4_haveSum_1 _ (List.mem_of_getElem? (i := 19) rfl)), List.forall_mem_cons.mpr ⟨(cl_X4_haveSum_1 _ (List.mem_of_getElem? (i := 20) rfl)), List.forall_mem_cons.mpr ⟨(cl_X4_haveSum_2 _ (List.mem_of_getElem? (i := 12) rfl)), List.forall_mem_cons.mpr ⟨(cl_X4_haveSum_2 _ (List.mem_of_getElem? (i := 13) rfl)), List.forall_mem_cons.mpr ⟨(cl_X4_haveSum_2 _ (List.mem_of_getElem? (i := 14) rfl)), List.forall_mem_cons.mpr ⟨(cl_X4_haveSum_2 _ (List.mem_of_getElem? (i := 15) rfl)), List.forall_mem_cons.mpr ⟨(cl_X4_haveSum_2 _ (List.mem_of_getElem? (i := 16) rfl)), List.forall_mem_cons.mpr ⟨(cl_X4_haveSum_2 _ (List.mem_of_getElem? (i := 17) rfl)), List.forall_mem_cons.mpr ⟨(cl_X4_haveSum_2 _ (List.mem_of_getElem? (i := 18) rfl)), List.forall_mem_cons.mpr ⟨(cl_X4_haveSum_2 _ (List.mem_of_getElem? (i := 19) rfl)), fun _ h => absurd h List.not_mem_nil⟩⟩⟩⟩⟩⟩⟩⟩⟩⟩⟩⟩⟩⟩⟩⟩) w)) w) ((cl_X4_haveSum_3) w)⟩) (by decide +kernel)
set_option maxRecDepth 20000 in
theorem gX4_haveSum_X4_isQuarter : GoodIn wsX4_haveSum (wsV RX4 64 RX4 yX4_isQuarter wsX4_isQuarter) := goodIn_app (goodIn_sub (List.forall_mem_cons.mpr ⟨(cl_X4_haveSum_1 _ (List.mem_of_getElem? (i := 21) rfl)), List.forall_mem_cons.mpr ⟨(cl_X4_haveSum_1 _ (List.mem_of_getElem? (i := 22) rfl)), List.forall_mem_cons.mpr ⟨(cl_X4_haveSum_1 _ (List.mem_of_getElem? (i := 23) rfl)), List.forall_mem_cons.mpr ⟨(cl_X4_haveSum_1 _ (List.mem_of_getElem? (i := 4) rfl)), fun _ h => absurd h List.not_mem_nil⟩⟩⟩⟩) (by decide +kernel)) ggX4_haveSum_X4_isQuarter
set_option maxRecDepth 20000 in
theorem ggX4_haveSum_X4_count : GoodIn wsX4_haveSum wsX4_count := goodIn_sub (List.forall_mem_cons.mpr ⟨(cl_X4_haveSum_2 _ (List.mem_of_getElem? (i := 5) rfl)), fun w h => (List.mem_append.mp h).elim ((fun w h => (List.mem_append.mp h).elim ((List.forall_mem_cons.mpr ⟨(cl_X4_haveSum_2 _ (List.mem_of_getElem? (i := 1) rfl)), List.forall_mem_cons.mpr ⟨(cl_X4_haveSum_1 _ (List.mem_of_getElem? (i := 16) rfl)), List.forall_mem_cons.mpr ⟨(cl_X4_haveSum_1 _ (List.mem_of_getElem? (i := 15) rfl)), List.forall_mem_cons.mpr ⟨(cl_X4_haveSum_2 _ (List.mem_of_getElem? (i := 6) rfl)), List.forall_mem_cons.mpr ⟨(cl_X4_haveSum_2 _ (List.mem_of_getElem? (i := 7) rfl)), List.forall_mem_cons.mpr ⟨(cl_X4_haveSum_1 _ (List.mem_of_getElem? (i := 0) rfl)), List.forall_mem_cons.mpr ⟨(cl_X4_haveSum_1 _ (List.mem_of_getElem? (i := 6) rfl)), List.forall_mem_cons.mpr ⟨(cl_X4_haveSum_1 _ (List.mem_of_getElem? (i := 7) rfl)), List.forall_mem_cons.mpr ⟨(cl_X4_haveSum_1 _ (List.mem_of_getElem? (i := 8) rfl)), List.forall_mem_cons.mpr ⟨(cl_X4_haveSum_1 _ (List.mem_of_getElem? (i := 4) rfl)), List.forall_mem_cons.mpr ⟨(cl_X4_haveSum_1 _ (List.mem_of_getElem? (i := 9) rfl)), List.forall_mem_cons.mpr ⟨(cl_X4_haveSum_1 _ (List.mem_of_getElem? (i := 10) rfl)), List.forall_mem_cons.mpr ⟨(cl_X4_haveSum_1 _ (List.mem_of_getElem? (i := 11) rfl)), List.forall_mem_cons.mpr ⟨(cl_X4_haveSum_1 _ (List.mem_of_getElem? (i := 12) rfl)), List.forall_mem_cons.mpr ⟨(cl_X4_haveSum_1 _ (List.mem_of_getElem? (i := 13) rfl)), List.forall_mem_cons.mpr ⟨(cl_X4_haveSum_1 _ (List.mem_of_getElem? (i := 14) rfl)), List.forall_mem_cons.mpr ⟨(cl_X4_haveSum_2 _ (List.mem_of_getElem? (i := 8) rfl)), List.forall_mem_cons.mpr ⟨(cl_X4_haveSum_2 _ (List.mem_of_getElem? (i := 9) rfl)), List.forall_mem_cons.mpr ⟨(cl_X4_haveSum_2 _ (List.mem_of_getElem? (i := 10) rfl)), List.forall_mem_cons.mpr ⟨(cl_X4_haveSum_2 _ (List.mem_of_getElem? (i := 11) rfl)), List.forall_mem_cons.mpr ⟨(cl_X4_haveSum_1 _ (List.mem_of_getElem? (i := 1) rfl)), List.forall_mem_cons.mpr ⟨(cl_X4_haveSum_1 _ (List.mem_of_getElem? (i := 2) rfl)), List.forall_mem_cons.mpr ⟨(cl_X4_haveSum_1 _ (List.mem_of_getElem? (i := 3) rfl)), List.forall_mem_cons.mpr ⟨(cl_X4_haveSum_1 _ (List.mem_of_getElem? (i := 5) rfl)), fun _ h => absurd h List.not_mem_nil⟩⟩⟩⟩⟩⟩⟩⟩⟩⟩⟩⟩⟩⟩⟩⟩⟩⟩⟩⟩⟩⟩⟩⟩) w) ((List.forall_mem_cons.mpr ⟨(cl_X4_haveSum_1 _ (List.mem_of_getElem? (i := 17) rfl)), List.forall_mem_cons.mpr ⟨(cl_X4_haveSum_1 _ (List.mem_of_getElem? (i := 18) rfl)), List.forall_mem_cons.mpr ⟨(cl_X4_haveSum_1 _ (List.mem_of_getElem? (i := 19) rfl)), List.forall_mem_cons.mpr ⟨(cl_X4_haveSum_1 _ (List.mem_of_getElem? (i := 20) rfl)), List.forall_mem_cons.mpr ⟨(cl_X4_haveSum_2 _ (List.mem_of_getElem? (i := 12) rfl)), List.forall_mem_cons.mpr ⟨(cl_X4_haveSum_2 _ (List.mem_of_getElem? (i := 13) rfl)), List.forall_mem_cons.mpr ⟨(cl_X4_haveSum_2 _ (List.mem_of_getElem? (i := 14) rfl)), List.forall_mem_cons.mpr ⟨(cl_X4_haveSum_2 _ (List.mem_of_getElem? (i := 15) rfl)), List.forall_mem_cons.mpr ⟨(cl_X4_haveSum_2 _ (List.mem_of_getElem? (i := 16) rfl)), List.forall_mem_cons.mpr ⟨(cl_X4_haveSum_2 _ (List.mem_of_getElem? (i := 17) rfl)), List.forall_mem_cons.mpr ⟨(cl_X4_haveSum_2 _ (List.mem_of_getElem? (i := 18) rfl)), List.forall_mem_cons.mpr ⟨(cl_X4_haveSum_2 _ (List.mem_of_getElem? (i := 19) rfl)), fun _ h => absurd h List.not_mem_nil⟩⟩⟩⟩⟩⟩⟩⟩⟩⟩⟩⟩) w)) w) ((cl_X4_haveSum_3) w)⟩) (by decide +kernel)
set_option maxRecDepth 20000 in
theorem gX4_haveSum_X4_count : GoodIn wsX4_haveSum (wsV RX4 60 RX4 yX4_count wsX4_count) := goodIn_app (goodIn_sub (List.forall_mem_cons.mpr ⟨(cl_X4_haveSum_2 _ (List.mem_of_getElem? (i := 2) rfl)), List.forall_mem_cons.mpr ⟨(cl_X4_haveSum_2 _ (List.mem_of_getElem? (i := 3) rfl)), List.forall_mem_cons.mpr ⟨(cl_X4_haveSum_2 _ (List.mem_of_getElem? (i := 4) rfl)), List.forall_mem_cons.mpr ⟨(cl_X4_haveSum_1 _ (List.mem_of_getElem? (i := 4) rfl)), fun _ h => absurd h List.not_mem_nil⟩⟩⟩⟩) (by decide +kernel)) ggX4_haveSum_X4_count
noncomputable def dz_p08_10 : List (Nat × Instr × Nat) := [(0, (.aload_n 0, 1)), (1, (.lload_n 1, 1)), (2, (.invokevirtual 53, 3)), (5, (.ifCond .eq 23, 3)), (8, (.aload_n 0, 1)), (9, (.lload_n 3, 1)), (10, (.invokevirtual 53, 3)), (13, (.ifCond .eq 15, 3)), (16, (.lload_n 1, 1)), (17, (.lload_n 3, 1)), (18, (.lcmp, 1)), (19, (.ifCond .ne 7, 3)), (22, (.iconst 1, 1)), (23, (.goto 4, 3)), (26, (.iconst 0, 1)), (27, (.ireturn, 1)), (28, (.aload_n 0, 1)), (29, (.lload_n 1, 1)), (30, (.invokevirtual 53, 3)), (33, (.ifCond .eq 9, 3)), (36, (.aload_n 0, 1)), (37, (.lload_n 3, 1)), (38, (.invokevirtual 64, 3)), (41, (.ireturn, 1)), (42, (.aload_n 0, 1)), (43, (.lload_n 3, 1)), (44, (.invokevirtual 53, 3)), (47, (.ifCond .eq 9, 3)), (50, (.aload_n 0, 1)), (51, (.lload_n 1, 1)), (52, (.invokevirtual 64, 3)), (55, (.ireturn, 1)), (56, (.aload_n 0, 1)), (57, (.lload_n 1, 1)), (58, (.invokevirtual 64, 3)), (61, (.ifCond .eq 11, 3)), (64, (.aload_n 0, 1)), (65, (.lload_n 3, 1)), (66, (.invokevirtual 64, 3)), (69, (.ifCond .ne 5, 3))]
theorem dy_p08_10 : dz_ok cX4_haveSum dz_p08_10 = true := by decide +kernel
theorem dX4_haveSum_0 : decode cX4_haveSum 0 = .ok (.aload_n 0, 1) := dz_at (i := 0) dy_p08_10 rfl
theorem dX4_haveSum_1 : decode cX4_haveSum 1 = .ok (.lload_n 1, 1) := dz_at (i := 1) dy_p08_10 rfl
theorem dX4_haveSum_2 : decode cX4_haveSum 2 = .ok (.invokevirtual 53, 3) := dz_at (i := 2) dy_p08_10 rfl
theorem dX4_haveSum_5 : decode cX4_haveSum 5 = .ok (.ifCond .eq 23, 3) := dz_at (i := 3) dy_p08_10 rfl
theorem dX4_haveSum_8 : decode cX4_haveSum 8 = .ok (.aload_n 0, 1) := dz_at (i := 4) dy_p08_10 rfl
theorem dX4_haveSum_9 : decode cX4_haveSum 9 = .ok (.lload_n 3, 1) := dz_at (i := 5) dy_p08_10 rfl
theorem dX4_haveSum_10 : decode cX4_haveSum 10 = .ok (.invokevirtual 53, 3) := dz_at (i := 6) dy_p08_10 rfl
theorem dX4_haveSum_13 : decode cX4_haveSum 13 = .ok (.ifCond .eq 15, 3) := dz_at (i := 7) dy_p08_10 rfl
theorem dX4_haveSum_16 : decode cX4_haveSum 16 = .ok (.lload_n 1, 1) := dz_at (i := 8) dy_p08_10 rfl
theorem dX4_haveSum_17 : decode cX4_haveSum 17 = .ok (.lload_n 3, 1) := dz_at (i := 9) dy_p08_10 rfl
theorem dX4_haveSum_18 : decode cX4_haveSum 18 = .ok (.lcmp, 1) := dz_at (i := 10) dy_p08_10 rfl
theorem dX4_haveSum_19 : decode cX4_haveSum 19 = .ok (.ifCond .ne 7, 3) := dz_at (i := 11) dy_p08_10 rfl
theorem dX4_haveSum_22 : decode cX4_haveSum 22 = .ok (.iconst 1, 1) := dz_at (i := 12) dy_p08_10 rfl
theorem dX4_haveSum_23 : decode cX4_haveSum 23 = .ok (.goto 4, 3) := dz_at (i := 13) dy_p08_10 rfl
theorem dX4_haveSum_26 : decode cX4_haveSum 26 = .ok (.iconst 0, 1) := dz_at (i := 14) dy_p08_10 rfl
theorem dX4_haveSum_27 : decode cX4_haveSum 27 = .ok (.ireturn, 1) := dz_at (i := 15) dy_p08_10 rfl
theorem dX4_haveSum_28 : decode cX4_haveSum 28 = .ok (.aload_n 0, 1) := dz_at (i := 16) dy_p08_10 rfl
theorem dX4_haveSum_29 : decode cX4_haveSum 29 = .ok (.lload_n 1, 1) := dz_at (i := 17) dy_p08_10 rfl
theorem dX4_haveSum_30 : decode cX4_haveSum 30 = .ok (.invokevirtual 53, 3) := dz_at (i := 18) dy_p08_10 rfl
theorem dX4_haveSum_33 : decode cX4_haveSum 33 = .ok (.ifCond .eq 9, 3) := dz_at (i := 19) dy_p08_10 rfl
theorem dX4_haveSum_36 : decode cX4_haveSum 36 = .ok (.aload_n 0, 1) := dz_at (i := 20) dy_p08_10 rfl
theorem dX4_haveSum_37 : decode cX4_haveSum 37 = .ok (.lload_n 3, 1) := dz_at (i := 21) dy_p08_10 rfl
theorem dX4_haveSum_38 : decode cX4_haveSum 38 = .ok (.invokevirtual 64, 3) := dz_at (i := 22) dy_p08_10 rfl
theorem dX4_haveSum_41 : decode cX4_haveSum 41 = .ok (.ireturn, 1) := dz_at (i := 23) dy_p08_10 rfl
theorem dX4_haveSum_42 : decode cX4_haveSum 42 = .ok (.aload_n 0, 1) := dz_at (i := 24) dy_p08_10 rfl
theorem dX4_haveSum_43 : decode cX4_haveSum 43 = .ok (.lload_n 3, 1) := dz_at (i := 25) dy_p08_10 rfl
theorem dX4_haveSum_44 : decode cX4_haveSum 44 = .ok (.invokevirtual 53, 3) := dz_at (i := 26) dy_p08_10 rfl
theorem dX4_haveSum_47 : decode cX4_haveSum 47 = .ok (.ifCond .eq 9, 3) := dz_at (i := 27) dy_p08_10 rfl
theorem dX4_haveSum_50 : decode cX4_haveSum 50 = .ok (.aload_n 0, 1) := dz_at (i := 28) dy_p08_10 rfl
theorem dX4_haveSum_51 : decode cX4_haveSum 51 = .ok (.lload_n 1, 1) := dz_at (i := 29) dy_p08_10 rfl
theorem dX4_haveSum_52 : decode cX4_haveSum 52 = .ok (.invokevirtual 64, 3) := dz_at (i := 30) dy_p08_10 rfl
theorem dX4_haveSum_55 : decode cX4_haveSum 55 = .ok (.ireturn, 1) := dz_at (i := 31) dy_p08_10 rfl
theorem dX4_haveSum_56 : decode cX4_haveSum 56 = .ok (.aload_n 0, 1) := dz_at (i := 32) dy_p08_10 rfl
theorem dX4_haveSum_57 : decode cX4_haveSum 57 = .ok (.lload_n 1, 1) := dz_at (i := 33) dy_p08_10 rfl
theorem dX4_haveSum_58 : decode cX4_haveSum 58 = .ok (.invokevirtual 64, 3) := dz_at (i := 34) dy_p08_10 rfl
theorem dX4_haveSum_61 : decode cX4_haveSum 61 = .ok (.ifCond .eq 11, 3) := dz_at (i := 35) dy_p08_10 rfl
theorem dX4_haveSum_64 : decode cX4_haveSum 64 = .ok (.aload_n 0, 1) := dz_at (i := 36) dy_p08_10 rfl
theorem dX4_haveSum_65 : decode cX4_haveSum 65 = .ok (.lload_n 3, 1) := dz_at (i := 37) dy_p08_10 rfl
theorem dX4_haveSum_66 : decode cX4_haveSum 66 = .ok (.invokevirtual 64, 3) := dz_at (i := 38) dy_p08_10 rfl
theorem dX4_haveSum_69 : decode cX4_haveSum 69 = .ok (.ifCond .ne 5, 3) := dz_at (i := 39) dy_p08_10 rfl
noncomputable def dz_p08_11 : List (Nat × Instr × Nat) := [(72, (.iconst 0, 1)), (73, (.ireturn, 1)), (74, (.aload_n 0, 1)), (75, (.lload_n 1, 1)), (76, (.invokevirtual 60, 3)), (79, (.i2l, 1)), (80, (.aload_n 0, 1)), (81, (.lload_n 3, 1)), (82, (.invokevirtual 60, 3)), (85, (.i2l, 1)), (86, (.ladd, 1)), (87, (.lstore 5, 2)), (89, (.lload 5, 2)), (91, (.aload_n 0, 1)), (92, (.getfield 22, 3)), (95, (.lcmp, 1)), (96, (.ifCond .gt 18, 3)), (99, (.lload 5, 2)), (101, (.aload_n 0, 1)), (102, (.getfield 22, 3)), (105, (.lneg, 1)), (106, (.lcmp, 1)), (107, (.ifCond .lt 7, 3)), (110, (.iconst 1, 1)), (111, (.goto 4, 3)), (114, (.iconst 0, 1)), (115, (.ireturn, 1))]
theorem dy_p08_11 : dz_ok cX4_haveSum dz_p08_11 = true := by decide +kernel
theorem dX4_haveSum_72 : decode cX4_haveSum 72 = .ok (.iconst 0, 1) := dz_at (i := 0) dy_p08_11 rfl
theorem dX4_haveSum_73 : decode cX4_haveSum 73 = .ok (.ireturn, 1) := dz_at (i := 1) dy_p08_11 rfl
theorem dX4_haveSum_74 : decode cX4_haveSum 74 = .ok (.aload_n 0, 1) := dz_at (i := 2) dy_p08_11 rfl
theorem dX4_haveSum_75 : decode cX4_haveSum 75 = .ok (.lload_n 1, 1) := dz_at (i := 3) dy_p08_11 rfl
theorem dX4_haveSum_76 : decode cX4_haveSum 76 = .ok (.invokevirtual 60, 3) := dz_at (i := 4) dy_p08_11 rfl
theorem dX4_haveSum_79 : decode cX4_haveSum 79 = .ok (.i2l, 1) := dz_at (i := 5) dy_p08_11 rfl
theorem dX4_haveSum_80 : decode cX4_haveSum 80 = .ok (.aload_n 0, 1) := dz_at (i := 6) dy_p08_11 rfl
theorem dX4_haveSum_81 : decode cX4_haveSum 81 = .ok (.lload_n 3, 1) := dz_at (i := 7) dy_p08_11 rfl
theorem dX4_haveSum_82 : decode cX4_haveSum 82 = .ok (.invokevirtual 60, 3) := dz_at (i := 8) dy_p08_11 rfl
theorem dX4_haveSum_85 : decode cX4_haveSum 85 = .ok (.i2l, 1) := dz_at (i := 9) dy_p08_11 rfl
theorem dX4_haveSum_86 : decode cX4_haveSum 86 = .ok (.ladd, 1) := dz_at (i := 10) dy_p08_11 rfl
theorem dX4_haveSum_87 : decode cX4_haveSum 87 = .ok (.lstore 5, 2) := dz_at (i := 11) dy_p08_11 rfl
theorem dX4_haveSum_89 : decode cX4_haveSum 89 = .ok (.lload 5, 2) := dz_at (i := 12) dy_p08_11 rfl
theorem dX4_haveSum_91 : decode cX4_haveSum 91 = .ok (.aload_n 0, 1) := dz_at (i := 13) dy_p08_11 rfl
theorem dX4_haveSum_92 : decode cX4_haveSum 92 = .ok (.getfield 22, 3) := dz_at (i := 14) dy_p08_11 rfl
theorem dX4_haveSum_95 : decode cX4_haveSum 95 = .ok (.lcmp, 1) := dz_at (i := 15) dy_p08_11 rfl
theorem dX4_haveSum_96 : decode cX4_haveSum 96 = .ok (.ifCond .gt 18, 3) := dz_at (i := 16) dy_p08_11 rfl
theorem dX4_haveSum_99 : decode cX4_haveSum 99 = .ok (.lload 5, 2) := dz_at (i := 17) dy_p08_11 rfl
theorem dX4_haveSum_101 : decode cX4_haveSum 101 = .ok (.aload_n 0, 1) := dz_at (i := 18) dy_p08_11 rfl
theorem dX4_haveSum_102 : decode cX4_haveSum 102 = .ok (.getfield 22, 3) := dz_at (i := 19) dy_p08_11 rfl
theorem dX4_haveSum_105 : decode cX4_haveSum 105 = .ok (.lneg, 1) := dz_at (i := 20) dy_p08_11 rfl
theorem dX4_haveSum_106 : decode cX4_haveSum 106 = .ok (.lcmp, 1) := dz_at (i := 21) dy_p08_11 rfl
theorem dX4_haveSum_107 : decode cX4_haveSum 107 = .ok (.ifCond .lt 7, 3) := dz_at (i := 22) dy_p08_11 rfl
theorem dX4_haveSum_110 : decode cX4_haveSum 110 = .ok (.iconst 1, 1) := dz_at (i := 23) dy_p08_11 rfl
theorem dX4_haveSum_111 : decode cX4_haveSum 111 = .ok (.goto 4, 3) := dz_at (i := 24) dy_p08_11 rfl
theorem dX4_haveSum_114 : decode cX4_haveSum 114 = .ok (.iconst 0, 1) := dz_at (i := 25) dy_p08_11 rfl
theorem dX4_haveSum_115 : decode cX4_haveSum 115 = .ok (.ireturn, 1) := dz_at (i := 26) dy_p08_11 rfl
noncomputable def o_X4_haveSum (w : Bool) (p0 : Int64) (p1 : Int64) : Bool :=
  if (o_X4_isEndless w p0) = true then (if (o_X4_isEndless w p1) = true then (if p0 = p1 then true
      else false)
    else (o_X4_isQuarter w p1))
  else if (o_X4_isEndless w p1) = true then (o_X4_isQuarter w p0)
  else if (o_X4_isQuarter w p0) = true then (if (o_X4_isQuarter w p1) = true then (if (mMo w) < (((o_X4_count w p0).toInt64) + ((o_X4_count w p1).toInt64)) then false
      else if (((o_X4_count w p0).toInt64) + ((o_X4_count w p1).toInt64)) < (-(mMo w)) then false
      else true)
    else false)
  else false
set_option maxHeartbeats 4000000 in
set_option maxRecDepth 100000 in
theorem k_X4_haveSum (l : Launch) (dC : Nat → ClassId) (dI : Nat → Nat → Nat) (cy : ClassId) (h0 : Nat) (hc : Nat) (w : Bool) (a : Int32) (f : Nat → Int64) (sz : Nat) (p0 : Int64) (p1 : Int64) (hok0 : okN w p0) (hok1 : okN w p1) : Met l yX4_haveSum wsX4_haveSum ({ frames := 5, cells := 0, slots := 0, locals := 114 }) (va_Pc [.ref h0, .long p0, .long p1] (xB (dC, dI) xCl [(h0, eMR w hc a), (hc, eA cy f)] [(cy, .long)] sz)) (va_Qi (fun (r : Int32) (_ : Unit) => r = b2i (o_X4_haveSum w p0 p1)) (fun _ _ => True) (aN sz)) 0 0 (aN sz) := by
  refine Met.ofW (cc := cX4_haveSum) (maxL := 7) (ret := (some .boolean)) (by decide +kernel) rfl ?_
  intro p e s m args below meth c s₁ B hml hv
  obtain ⟨rfl, hsz, hP, hK⟩ := hv
  have hx := B.exec
  have hb := B.bytes
  have hr := B.returns
  have hts := atoms_spec (ws := wsX4_haveSum) B.pre
  have hown : s.vm.findClass RX4 = some m.cls := findClass_of_methodNamed B.named
  have hlocks := B.notSynchronized
  subst hsz
  have hA : ∀ q : Nat, s.heap.size ≤ q → aN s.heap.size q := fun _ h => h
  have hS : va_S (aN s.heap.size) s.heap s.heap [] := va_S.rf
  have hP : va_P (dC, dI) xCl [(h0, eMR w hc a), (hc, eA cy f)] s.heap := hP
  have hl := lv_entry ([.ref h0, .long p0, .long p1]) (n := 7) (Nat.le_of_ble_eq_true rfl)
  rw [lg_entry_eq]
  generalize (lg_sl ([.ref h0, .long p0, .long p1]) ++ List.replicate (7 - (lg_sl ([.ref h0, .long p0, .long p1])).length) Slot.unset).toArray = ls at hl ⊢
  have hl : lv_has ls 7 [(0, .ref h0), (1, .long p0), (3, .long p1)] := hl
  refine lv_aload_n hx hb dX4_haveSum_0 rfl (lv_at hl 0 rfl) ?_
  refine lv_lload_n hx hb dX4_haveSum_1 rfl (lv_at hl 1 rfl) ?_
  have hPc := hP.sub (ws' := [(h0, eMR w hc a), (hc, eA cy f)]) [0, 1] rfl
  have hKc := hK.sub (tys' := [(cy, .long)]) [0] rfl
  refine va_calli (va_runV (As := [.long p0]) (rest := []) ⟨hx, hb, hml, hown, hts⟩ (k_X4_isEndless l dC dI cy h0 hc w a f s.heap.size p0) (cwV 1 hts gX4_haveSum_X4_isEndless rfl rfl rfl (by decide +kernel) ⟨Nat.le_of_ble_eq_true rfl, Nat.le_of_ble_eq_true rfl⟩) (xB.preV hKc hPc (ci := 6) (q0 := 0) rfl rfl) rfl rfl hl.1 rfl (lv_room (Nat.le_of_ble_eq_true rfl)) dX4_haveSum_2 ⟨Nat.le_of_ble_eq_true rfl, Nat.le_of_ble_eq_true rfl⟩) hS xA_old (fun q h => hA q (Nat.le_trans hS.1 h)) (fun r_1 u t H locs ht hvm hw hB hz hk hS => ?_)
  replace hw : r_1 = b2i (o_X4_isEndless w p0) := hw
  subst r_1
  have hP := xP_keep hP hk
  refine xz_eq (tgt := 28) hx hb dX4_haveSum_5 (by decide +kernel) (fun c_2 => ?_) (fun c_2 => ?_)
  · skip
    refine lv_aload_n hx hb dX4_haveSum_28 rfl (lv_at hl 0 rfl) ?_
    refine lv_lload_n hx hb dX4_haveSum_29 rfl (lv_at hl 1 rfl) ?_
    have hPc := hP.sub (ws' := [(h0, eMR w hc a), (hc, eA cy f)]) [0, 1] rfl
    have hKc := hK.sub (tys' := [(cy, .long)]) [0] rfl
    refine va_calli (va_runV (As := [.long p0]) (rest := []) ⟨hx, hb, hml, hown, hts⟩ (k_X4_isEndless l dC dI cy h0 hc w a f H.size p0) (cwV 1 hts gX4_haveSum_X4_isEndless rfl rfl rfl (by decide +kernel) ⟨Nat.le_of_ble_eq_true rfl, Nat.le_of_ble_eq_true rfl⟩) (xB.preV hKc hPc (ci := 6) (q0 := 0) rfl rfl) rfl rfl hl.1 rfl (lv_room (Nat.le_of_ble_eq_true rfl)) dX4_haveSum_30 ⟨Nat.le_of_ble_eq_true rfl, Nat.le_of_ble_eq_true rfl⟩) hS xA_old (fun q h => hA q (Nat.le_trans hS.1 h)) (fun r_3 u t H locs ht hvm hw hB hz hk hS => ?_)
    replace hw : r_3 = b2i (o_X4_isEndless w p0) := hw
    subst r_3
    have hP := xP_keep hP hk
    refine xz_eq (tgt := 42) hx hb dX4_haveSum_33 (by decide +kernel) (fun c9 => ?_) (fun c9 => absurd c9 c_2)
    refine lv_aload_n hx hb dX4_haveSum_42 rfl (lv_at hl 0 rfl) ?_
    refine lv_lload_n hx hb dX4_haveSum_43 rfl (lv_at hl 2 rfl) ?_
    have hPc := hP.sub (ws' := [(h0, eMR w hc a), (hc, eA cy f)]) [0, 1] rfl
    have hKc := hK.sub (tys' := [(cy, .long)]) [0] rfl
    refine va_calli (va_runV (As := [.long p1]) (rest := []) ⟨hx, hb, hml, hown, hts⟩ (k_X4_isEndless l dC dI cy h0 hc w a f H.size p1) (cwV 1 hts gX4_haveSum_X4_isEndless rfl rfl rfl (by decide +kernel) ⟨Nat.le_of_ble_eq_true rfl, Nat.le_of_ble_eq_true rfl⟩) (xB.preV hKc hPc (ci := 6) (q0 := 0) rfl rfl) rfl rfl hl.1 rfl (lv_room (Nat.le_of_ble_eq_true rfl)) dX4_haveSum_44 ⟨Nat.le_of_ble_eq_true rfl, Nat.le_of_ble_eq_true rfl⟩) hS xA_old (fun q h => hA q (Nat.le_trans hS.1 h)) (fun r_4 u t H locs ht hvm hw hB hz hk hS => ?_)
    replace hw : r_4 = b2i (o_X4_isEndless w p1) := hw
    subst r_4
    have hP := xP_keep hP hk
    refine xz_eq (tgt := 56) hx hb dX4_haveSum_47 (by decide +kernel) (fun c_5 => ?_) (fun c_5 => ?_)
    · skip
      refine lv_aload_n hx hb dX4_haveSum_56 rfl (lv_at hl 0 rfl) ?_
      refine lv_lload_n hx hb dX4_haveSum_57 rfl (lv_at hl 1 rfl) ?_
      have hPc := hP.sub (ws' := [(h0, eMR w hc a), (hc, eA cy f)]) [0, 1] rfl
      have hKc := hK.sub (tys' := [(cy, .long)]) [0] rfl
      refine va_calli (va_runV (As := [.long p0]) (rest := []) ⟨hx, hb, hml, hown, hts⟩ (k_X4_isQuarter l dC dI cy h0 hc w a f H.size p0 hok0) (cwV 1 hts gX4_haveSum_X4_isQuarter rfl rfl rfl (by decide +kernel) ⟨Nat.le_of_ble_eq_true rfl, Nat.le_of_ble_eq_true rfl⟩) (xB.preV hKc hPc (ci := 6) (q0 := 0) rfl rfl) rfl rfl hl.1 rfl (lv_room (Nat.le_of_ble_eq_true rfl)) dX4_haveSum_58 ⟨Nat.le_of_ble_eq_true rfl, Nat.le_of_ble_eq_true rfl⟩) hS xA_old (fun q h => hA q (Nat.le_trans hS.1 h)) (fun r_6 u t H locs ht hvm hw hB hz hk hS => ?_)
      replace hw : r_6 = b2i (o_X4_isQuarter w p0) := hw
      subst r_6
      have hP := xP_keep hP hk
      refine xz_eq (tgt := 72) hx hb dX4_haveSum_61 (by decide +kernel) (fun c_7 => ?_) (fun c_7 => ?_)
      · skip
        refine lv_iconst (v := 0) hx hb dX4_haveSum_72 (by decide +kernel) ?_
        have he : o_X4_haveSum w p0 p1 = false := by (rw [o_X4_haveSum, if_neg c_2, if_neg c_5, if_neg c_7]) <;> rfl
        refine W.widen (k := 0) (n := 0) (by omega) (by omega) ?_
        exact W.zret (v := 0) (ty := .boolean) hx hb hr rfl (fun t ht hW => ⟨⟨_, (), rfl, (by (rw [he]) <;> rfl), trivial⟩, hS.F ht⟩) hS.2.2 dX4_haveSum_73
      · skip
        refine lv_aload_n hx hb dX4_haveSum_64 rfl (lv_at hl 0 rfl) ?_
        refine lv_lload_n hx hb dX4_haveSum_65 rfl (lv_at hl 2 rfl) ?_
        have hPc := hP.sub (ws' := [(h0, eMR w hc a), (hc, eA cy f)]) [0, 1] rfl
        have hKc := hK.sub (tys' := [(cy, .long)]) [0] rfl
        refine va_calli (va_runV (As := [.long p1]) (rest := []) ⟨hx, hb, hml, hown, hts⟩ (k_X4_isQuarter l dC dI cy h0 hc w a f H.size p1 hok1) (cwV 1 hts gX4_haveSum_X4_isQuarter rfl rfl rfl (by decide +kernel) ⟨Nat.le_of_ble_eq_true rfl, Nat.le_of_ble_eq_true rfl⟩) (xB.preV hKc hPc (ci := 6) (q0 := 0) rfl rfl) rfl rfl hl.1 rfl (lv_room (Nat.le_of_ble_eq_true rfl)) dX4_haveSum_66 ⟨Nat.le_of_ble_eq_true rfl, Nat.le_of_ble_eq_true rfl⟩) hS xA_old (fun q h => hA q (Nat.le_trans hS.1 h)) (fun r_8 u t H locs ht hvm hw hB hz hk hS => ?_)
        replace hw : r_8 = b2i (o_X4_isQuarter w p1) := hw
        subst r_8
        have hP := xP_keep hP hk
        refine xz_ne (tgt := 74) hx hb dX4_haveSum_69 (by decide +kernel) (fun c_9 => ?_) (fun c_9 => ?_)
        · skip
          refine lv_aload_n hx hb dX4_haveSum_74 rfl (lv_at hl 0 rfl) ?_
          refine lv_lload_n hx hb dX4_haveSum_75 rfl (lv_at hl 1 rfl) ?_
          have hPc := hP.sub (ws' := [(h0, eMR w hc a), (hc, eA cy f)]) [0, 1] rfl
          have hKc := hK.sub (tys' := [(cy, .long)]) [0] rfl
          refine va_calli (va_runV (As := [.long p0]) (rest := []) ⟨hx, hb, hml, hown, hts⟩ (k_X4_count l dC dI cy h0 hc w a f H.size p0 hok0) (cwV 1 hts gX4_haveSum_X4_count rfl rfl rfl (by decide +kernel) ⟨Nat.le_of_ble_eq_true rfl, Nat.le_of_ble_eq_true rfl⟩) (xB.preV hKc hPc (ci := 6) (q0 := 0) rfl rfl) rfl rfl hl.1 rfl (lv_room (Nat.le_of_ble_eq_true rfl)) dX4_haveSum_76 ⟨Nat.le_of_ble_eq_true rfl, Nat.le_of_ble_eq_true rfl⟩) hS xA_old (fun q h => hA q (Nat.le_trans hS.1 h)) (fun r_10 u t H locs ht hvm hw hB hz hk hS => ?_)
          replace hw : r_10 = (o_X4_count w p0) := hw
          subst r_10
          have hP := xP_keep hP hk
          refine lv_i2l (v := ((o_X4_count w p0).toInt64)) hx hb dX4_haveSum_79 rfl ?_
          refine lv_aload_n hx hb dX4_haveSum_80 rfl (lv_at hl 0 rfl) ?_
          refine lv_lload_n hx hb dX4_haveSum_81 rfl (lv_at hl 2 rfl) ?_
          have hPc := hP.sub (ws' := [(h0, eMR w hc a), (hc, eA cy f)]) [0, 1] rfl
          have hKc := hK.sub (tys' := [(cy, .long)]) [0] rfl
          refine va_calli (va_runV (As := [.long p1]) (rest := [.long ((o_X4_count w p0).toInt64)]) ⟨hx, hb, hml, hown, hts⟩ (k_X4_count l dC dI cy h0 hc w a f H.size p1 hok1) (cwV 1 hts gX4_haveSum_X4_count rfl rfl rfl (by decide +kernel) ⟨Nat.le_of_ble_eq_true rfl, Nat.le_of_ble_eq_true rfl⟩) (xB.preV hKc hPc (ci := 6) (q0 := 0) rfl rfl) rfl rfl hl.1 rfl (lv_room (Nat.le_of_ble_eq_true rfl)) dX4_haveSum_82 ⟨Nat.le_of_ble_eq_true rfl, Nat.le_of_ble_eq_true rfl⟩) hS xA_old (fun q h => hA q (Nat.le_trans hS.1 h)) (fun r_11 u t H locs ht hvm hw hB hz hk hS => ?_)
          replace hw : r_11 = (o_X4_count w p1) := hw
          subst r_11
          have hP := xP_keep hP hk
          refine lv_i2l (v := ((o_X4_count w p1).toInt64)) hx hb dX4_haveSum_85 rfl ?_
          refine lv_ladd hx hb dX4_haveSum_86 ?_
          refine lv_lstore (lv' := [(5, .long (((o_X4_count w p0).toInt64) + ((o_X4_count w p1).toInt64))), (0, .ref h0), (1, .long p0), (3, .long p1)]) hx hb dX4_haveSum_87 hl (by decide +kernel) rfl (fun ls hl => ?_)
          refine lv_lload hx hb dX4_haveSum_89 (lv_at hl 0 rfl) ?_
          refine lv_aload_n hx hb dX4_haveSum_91 rfl (lv_at hl 1 rfl) ?_
          refine va_get (D := (dC, dI)) (ci := 6) (v := .long (mMo w)) (C := RX4) (T := TX4) (N := 5) hx hb hts (by decide +kernel) hown hK hP 0 rfl rfl 2 (by decide +kernel) (hts (.fieldLink RX4 22 "EdgefloatsModel$Row" "most" "J") (by decide +kernel)) (fun _ h9 => h9) rfl dX4_haveSum_92 ?_
          refine xc_gt (tgt := 114) hx hb dX4_haveSum_95 dX4_haveSum_96 (by decide +kernel) (fun c_12 => ?_) (fun c_12 => ?_)
          · skip
            refine lv_iconst (v := 0) hx hb dX4_haveSum_114 (by decide +kernel) ?_
            have he : o_X4_haveSum w p0 p1 = false := by (rw [o_X4_haveSum, if_neg c_2, if_neg c_5, if_pos c_7, if_pos c_9, if_pos c_12]) <;> rfl
            refine W.widen (k := 0) (n := 0) (by omega) (by omega) ?_
            exact W.zret (v := 0) (ty := .boolean) hx hb hr rfl (fun t ht hW => ⟨⟨_, (), rfl, (by (rw [he]) <;> rfl), trivial⟩, hS.F ht⟩) hS.2.2 dX4_haveSum_115
          · skip
            refine lv_lload hx hb dX4_haveSum_99 (lv_at hl 0 rfl) ?_
            refine lv_aload_n hx hb dX4_haveSum_101 rfl (lv_at hl 1 rfl) ?_
            refine va_get (D := (dC, dI)) (ci := 6) (v := .long (mMo w)) (C := RX4) (T := TX4) (N := 5) hx hb hts (by decide +kernel) hown hK hP 0 rfl rfl 2 (by decide +kernel) (hts (.fieldLink RX4 22 "EdgefloatsModel$Row" "most" "J") (by decide +kernel)) (fun _ h9 => h9) rfl dX4_haveSum_102 ?_
            refine lv_lneg hx hb dX4_haveSum_105 ?_
            refine xc_lt (tgt := 114) hx hb dX4_haveSum_106 dX4_haveSum_107 (by decide +kernel) (fun c_13 => ?_) (fun c_13 => ?_)
            · skip
              refine lv_iconst (v := 0) hx hb dX4_haveSum_114 (by decide +kernel) ?_
              have he : o_X4_haveSum w p0 p1 = false := by (rw [o_X4_haveSum, if_neg c_2, if_neg c_5, if_pos c_7, if_pos c_9, if_neg c_12, if_pos c_13]) <;> rfl
              refine W.widen (k := 0) (n := 0) (by omega) (by omega) ?_
              exact W.zret (v := 0) (ty := .boolean) hx hb hr rfl (fun t ht hW => ⟨⟨_, (), rfl, (by (rw [he]) <;> rfl), trivial⟩, hS.F ht⟩) hS.2.2 dX4_haveSum_115
            · skip
              refine lv_iconst (v := 1) hx hb dX4_haveSum_110 (by decide +kernel) ?_
              refine lv_goto (tgt := 115) hx hb dX4_haveSum_111 (by decide +kernel) ?_
              have he : o_X4_haveSum w p0 p1 = true := by (rw [o_X4_haveSum, if_neg c_2, if_neg c_5, if_pos c_7, if_pos c_9, if_neg c_12, if_neg c_13]) <;> rfl
              refine W.widen (k := 0) (n := 0) (by omega) (by omega) ?_
              exact W.zret (v := 1) (ty := .boolean) hx hb hr rfl (fun t ht hW => ⟨⟨_, (), rfl, (by (rw [he]) <;> rfl), trivial⟩, hS.F ht⟩) hS.2.2 dX4_haveSum_115
        · skip
          refine lv_iconst (v := 0) hx hb dX4_haveSum_72 (by decide +kernel) ?_
          have he : o_X4_haveSum w p0 p1 = false := by (rw [o_X4_haveSum, if_neg c_2, if_neg c_5, if_pos c_7, if_neg c_9]) <;> rfl
          refine W.widen (k := 0) (n := 0) (by omega) (by omega) ?_
          exact W.zret (v := 0) (ty := .boolean) hx hb hr rfl (fun t ht hW => ⟨⟨_, (), rfl, (by (rw [he]) <;> rfl), trivial⟩, hS.F ht⟩) hS.2.2 dX4_haveSum_73
    · skip
      refine lv_aload_n hx hb dX4_haveSum_50 rfl (lv_at hl 0 rfl) ?_
      refine lv_lload_n hx hb dX4_haveSum_51 rfl (lv_at hl 1 rfl) ?_
      have hPc := hP.sub (ws' := [(h0, eMR w hc a), (hc, eA cy f)]) [0, 1] rfl
      have hKc := hK.sub (tys' := [(cy, .long)]) [0] rfl
      refine va_calli (va_runV (As := [.long p0]) (rest := []) ⟨hx, hb, hml, hown, hts⟩ (k_X4_isQuarter l dC dI cy h0 hc w a f H.size p0 hok0) (cwV 1 hts gX4_haveSum_X4_isQuarter rfl rfl rfl (by decide +kernel) ⟨Nat.le_of_ble_eq_true rfl, Nat.le_of_ble_eq_true rfl⟩) (xB.preV hKc hPc (ci := 6) (q0 := 0) rfl rfl) rfl rfl hl.1 rfl (lv_room (Nat.le_of_ble_eq_true rfl)) dX4_haveSum_52 ⟨Nat.le_of_ble_eq_true rfl, Nat.le_of_ble_eq_true rfl⟩) hS xA_old (fun q h => hA q (Nat.le_trans hS.1 h)) (fun r_14 u t H locs ht hvm hw hB hz hk hS => ?_)
      replace hw : r_14 = b2i (o_X4_isQuarter w p0) := hw
      subst r_14
      have hP := xP_keep hP hk
      have he : o_X4_haveSum w p0 p1 = (o_X4_isQuarter w p0) := by (rw [o_X4_haveSum, if_neg c_2, if_pos c_5]) <;> rfl
      refine W.widen (k := 0) (n := 0) (by omega) (by omega) ?_
      exact W.zret (v := (b2i (o_X4_isQuarter w p0))) (ty := .boolean) hx hb hr (b2i_nar _) (fun t ht hW => ⟨⟨_, (), rfl, (by (rw [he]) <;> rfl), trivial⟩, hS.F ht⟩) hS.2.2 dX4_haveSum_55
  · skip
    refine lv_aload_n hx hb dX4_haveSum_8 rfl (lv_at hl 0 rfl) ?_
    refine lv_lload_n hx hb dX4_haveSum_9 rfl (lv_at hl 2 rfl) ?_
    have hPc := hP.sub (ws' := [(h0, eMR w hc a), (hc, eA cy f)]) [0, 1] rfl
    have hKc := hK.sub (tys' := [(cy, .long)]) [0] rfl
    refine va_calli (va_runV (As := [.long p1]) (rest := []) ⟨hx, hb, hml, hown, hts⟩ (k_X4_isEndless l dC dI cy h0 hc w a f H.size p1) (cwV 1 hts gX4_haveSum_X4_isEndless rfl rfl rfl (by decide +kernel) ⟨Nat.le_of_ble_eq_true rfl, Nat.le_of_ble_eq_true rfl⟩) (xB.preV hKc hPc (ci := 6) (q0 := 0) rfl rfl) rfl rfl hl.1 rfl (lv_room (Nat.le_of_ble_eq_true rfl)) dX4_haveSum_10 ⟨Nat.le_of_ble_eq_true rfl, Nat.le_of_ble_eq_true rfl⟩) hS xA_old (fun q h => hA q (Nat.le_trans hS.1 h)) (fun r_15 u t H locs ht hvm hw hB hz hk hS => ?_)
    replace hw : r_15 = b2i (o_X4_isEndless w p1) := hw
    subst r_15
    have hP := xP_keep hP hk
    refine xz_eq (tgt := 28) hx hb dX4_haveSum_13 (by decide +kernel) (fun c_16 => ?_) (fun c_16 => ?_)
    · skip
      refine lv_aload_n hx hb dX4_haveSum_28 rfl (lv_at hl 0 rfl) ?_
      refine lv_lload_n hx hb dX4_haveSum_29 rfl (lv_at hl 1 rfl) ?_
      have hPc := hP.sub (ws' := [(h0, eMR w hc a), (hc, eA cy f)]) [0, 1] rfl
      have hKc := hK.sub (tys' := [(cy, .long)]) [0] rfl
      refine va_calli (va_runV (As := [.long p0]) (rest := []) ⟨hx, hb, hml, hown, hts⟩ (k_X4_isEndless l dC dI cy h0 hc w a f H.size p0) (cwV 1 hts gX4_haveSum_X4_isEndless rfl rfl rfl (by decide +kernel) ⟨Nat.le_of_ble_eq_true rfl, Nat.le_of_ble_eq_true rfl⟩) (xB.preV hKc hPc (ci := 6) (q0 := 0) rfl rfl) rfl rfl hl.1 rfl (lv_room (Nat.le_of_ble_eq_true rfl)) dX4_haveSum_30 ⟨Nat.le_of_ble_eq_true rfl, Nat.le_of_ble_eq_true rfl⟩) hS xA_old (fun q h => hA q (Nat.le_trans hS.1 h)) (fun r_17 u t H locs ht hvm hw hB hz hk hS => ?_)
      replace hw : r_17 = b2i (o_X4_isEndless w p0) := hw
      subst r_17
      have hP := xP_keep hP hk
      refine xz_eq (tgt := 42) hx hb dX4_haveSum_33 (by decide +kernel) (fun c9 => absurd c_2 c9) (fun c9 => ?_)
      refine lv_aload_n hx hb dX4_haveSum_36 rfl (lv_at hl 0 rfl) ?_
      refine lv_lload_n hx hb dX4_haveSum_37 rfl (lv_at hl 2 rfl) ?_
      have hPc := hP.sub (ws' := [(h0, eMR w hc a), (hc, eA cy f)]) [0, 1] rfl
      have hKc := hK.sub (tys' := [(cy, .long)]) [0] rfl
      refine va_calli (va_runV (As := [.long p1]) (rest := []) ⟨hx, hb, hml, hown, hts⟩ (k_X4_isQuarter l dC dI cy h0 hc w a f H.size p1 hok1) (cwV 1 hts gX4_haveSum_X4_isQuarter rfl rfl rfl (by decide +kernel) ⟨Nat.le_of_ble_eq_true rfl, Nat.le_of_ble_eq_true rfl⟩) (xB.preV hKc hPc (ci := 6) (q0 := 0) rfl rfl) rfl rfl hl.1 rfl (lv_room (Nat.le_of_ble_eq_true rfl)) dX4_haveSum_38 ⟨Nat.le_of_ble_eq_true rfl, Nat.le_of_ble_eq_true rfl⟩) hS xA_old (fun q h => hA q (Nat.le_trans hS.1 h)) (fun r_18 u t H locs ht hvm hw hB hz hk hS => ?_)
      replace hw : r_18 = b2i (o_X4_isQuarter w p1) := hw
      subst r_18
      have hP := xP_keep hP hk
      have he : o_X4_haveSum w p0 p1 = (o_X4_isQuarter w p1) := by (rw [o_X4_haveSum, if_pos c_2, if_neg c_16]) <;> rfl
      refine W.widen (k := 0) (n := 0) (by omega) (by omega) ?_
      exact W.zret (v := (b2i (o_X4_isQuarter w p1))) (ty := .boolean) hx hb hr (b2i_nar _) (fun t ht hW => ⟨⟨_, (), rfl, (by (rw [he]) <;> rfl), trivial⟩, hS.F ht⟩) hS.2.2 dX4_haveSum_41
    · skip
      refine lv_lload_n hx hb dX4_haveSum_16 rfl (lv_at hl 1 rfl) ?_
      refine lv_lload_n hx hb dX4_haveSum_17 rfl (lv_at hl 2 rfl) ?_
      refine xc_ne (tgt := 26) hx hb dX4_haveSum_18 dX4_haveSum_19 (by decide +kernel) (fun c_19 => ?_) (fun c_19 => ?_)
      · skip
        refine lv_iconst (v := 0) hx hb dX4_haveSum_26 (by decide +kernel) ?_
        have he : o_X4_haveSum w p0 p1 = false := by (rw [o_X4_haveSum, if_pos c_2, if_pos c_16, if_neg c_19]) <;> rfl
        refine W.widen (k := 0) (n := 0) (by omega) (by omega) ?_
        exact W.zret (v := 0) (ty := .boolean) hx hb hr rfl (fun t ht hW => ⟨⟨_, (), rfl, (by (rw [he]) <;> rfl), trivial⟩, hS.F ht⟩) hS.2.2 dX4_haveSum_27
      · skip
        refine lv_iconst (v := 1) hx hb dX4_haveSum_22 (by decide +kernel) ?_
        refine lv_goto (tgt := 27) hx hb dX4_haveSum_23 (by decide +kernel) ?_
        have he : o_X4_haveSum w p0 p1 = true := by (rw [o_X4_haveSum, if_pos c_2, if_pos c_16, if_pos c_19]) <;> rfl
        refine W.widen (k := 0) (n := 0) (by omega) (by omega) ?_
        exact W.zret (v := 1) (ty := .boolean) hx hb hr rfl (fun t ht hW => ⟨⟨_, (), rfl, (by (rw [he]) <;> rfl), trivial⟩, hS.F ht⟩) hS.2.2 dX4_haveSum_27
theorem cl_X4_sum_1 : ∀ w ∈ wsX4_sum_r1, w ∈ wsX4_sum := fun _ h => (List.mem_cons_of_mem _ (List.mem_append_left _ (List.mem_append_left _ h)))
theorem cl_X4_sum_2 : ∀ w ∈ wsX4_sum_r2, w ∈ wsX4_sum := fun _ h => (List.mem_cons_of_mem _ (List.mem_append_left _ (List.mem_append_right _ h)))
theorem cl_X4_sum_3 : ∀ w ∈ wsX40, w ∈ wsX4_sum := fun _ h => (List.mem_cons_of_mem _ (List.mem_append_right _ h))
set_option maxRecDepth 20000 in
theorem ggX4_sum_X4_isEndless : GoodIn wsX4_sum wsX4_isEndless := goodIn_sub (List.forall_mem_cons.mpr ⟨(cl_X4_sum_1 _ (List.mem_of_getElem? (i := 4) rfl)), fun w h => (List.mem_append.mp h).elim ((List.forall_mem_cons.mpr ⟨(cl_X4_sum_1 _ (List.mem_of_getElem? (i := 5) rfl)), List.forall_mem_cons.mpr ⟨(cl_X4_sum_1 _ (List.mem_of_getElem? (i := 6) rfl)), List.forall_mem_cons.mpr ⟨(cl_X4_sum_1 _ (List.mem_of_getElem? (i := 7) rfl)), List.forall_mem_cons.mpr ⟨(cl_X4_sum_1 _ (List.mem_of_getElem? (i := 3) rfl)), List.forall_mem_cons.mpr ⟨(cl_X4_sum_1 _ (List.mem_of_getElem? (i := 8) rfl)), List.forall_mem_cons.mpr ⟨(cl_X4_sum_1 _ (List.mem_of_getElem? (i := 9) rfl)), List.forall_mem_cons.mpr ⟨(cl_X4_sum_1 _ (List.mem_of_getElem? (i := 10) rfl)), List.forall_mem_cons.mpr ⟨(cl_X4_sum_1 _ (List.mem_of_getElem? (i := 11) rfl)), List.forall_mem_cons.mpr ⟨(cl_X4_sum_1 _ (List.mem_of_getElem? (i := 12) rfl)), List.forall_mem_cons.mpr ⟨(cl_X4_sum_1 _ (List.mem_of_getElem? (i := 13) rfl)), List.forall_mem_cons.mpr ⟨(cl_X4_sum_1 _ (List.mem_of_getElem? (i := 14) rfl)), List.forall_mem_cons.mpr ⟨(cl_X4_sum_1 _ (List.mem_of_getElem? (i := 15) rfl)), List.forall_mem_cons.mpr ⟨(cl_X4_sum_1 _ (List.mem_of_getElem? (i := 16) rfl)), List.forall_mem_cons.mpr ⟨(cl_X4_sum_1 _ (List.mem_of_getElem? (i := 17) rfl)), List.forall_mem_cons.mpr ⟨(cl_X4_sum_1 _ (List.mem_of_getElem? (i := 18) rfl)), List.forall_mem_cons.mpr ⟨(cl_X4_sum_1 _ (List.mem_of_getElem? (i := 19) rfl)), fun _ h => absurd h List.not_mem_nil⟩⟩⟩⟩⟩⟩⟩⟩⟩⟩⟩⟩⟩⟩⟩⟩) w) ((cl_X4_sum_3) w)⟩) (by decide +kernel)
set_option maxRecDepth 20000 in
theorem gX4_sum_X4_isEndless : GoodIn wsX4_sum (wsV RX4 53 RX4 yX4_isEndless wsX4_isEndless) := goodIn_app (goodIn_sub (List.forall_mem_cons.mpr ⟨(cl_X4_sum_1 _ (List.mem_of_getElem? (i := 0) rfl)), List.forall_mem_cons.mpr ⟨(cl_X4_sum_1 _ (List.mem_of_getElem? (i := 1) rfl)), List.forall_mem_cons.mpr ⟨(cl_X4_sum_1 _ (List.mem_of_getElem? (i := 2) rfl)), List.forall_mem_cons.mpr ⟨(cl_X4_sum_1 _ (List.mem_of_getElem? (i := 3) rfl)), fun _ h => absurd h List.not_mem_nil⟩⟩⟩⟩) (by decide +kernel)) ggX4_sum_X4_isEndless
set_option maxRecDepth 20000 in
theorem ggX4_sum_X4_sign : GoodIn wsX4_sum wsX4_sign := goodIn_sub (List.forall_mem_cons.mpr ⟨(cl_X4_sum_1 _ (List.mem_of_getElem? (i := 13) rfl)), fun w h => (List.mem_append.mp h).elim ((List.forall_mem_cons.mpr ⟨(cl_X4_sum_1 _ (List.mem_of_getElem? (i := 14) rfl)), List.forall_mem_cons.mpr ⟨(cl_X4_sum_1 _ (List.mem_of_getElem? (i := 15) rfl)), fun _ h => absurd h List.not_mem_nil⟩⟩) w) ((cl_X4_sum_3) w)⟩) (by decide +kernel)
set_option maxRecDepth 20000 in
theorem gX4_sum_X4_sign : GoodIn wsX4_sum (wsV RX4 26 RX4 yX4_sign wsX4_sign) := goodIn_app (goodIn_sub (List.forall_mem_cons.mpr ⟨(cl_X4_sum_1 _ (List.mem_of_getElem? (i := 10) rfl)), List.forall_mem_cons.mpr ⟨(cl_X4_sum_1 _ (List.mem_of_getElem? (i := 11) rfl)), List.forall_mem_cons.mpr ⟨(cl_X4_sum_1 _ (List.mem_of_getElem? (i := 12) rfl)), List.forall_mem_cons.mpr ⟨(cl_X4_sum_1 _ (List.mem_of_getElem? (i := 3) rfl)), fun _ h => absurd h List.not_mem_nil⟩⟩⟩⟩) (by decide +kernel)) ggX4_sum_X4_sign
set_option maxRecDepth 20000 in
theorem ggX4_sum_X4_count : GoodIn wsX4_sum wsX4_count := goodIn_sub (List.forall_mem_cons.mpr ⟨(cl_X4_sum_1 _ (List.mem_of_getElem? (i := 23) rfl)), fun w h => (List.mem_append.mp h).elim ((fun w h => (List.mem_append.mp h).elim ((List.forall_mem_cons.mpr ⟨(cl_X4_sum_2 _ (List.mem_of_getElem? (i := 0) rfl)), List.forall_mem_cons.mpr ⟨(cl_X4_sum_1 _ (List.mem_of_getElem? (i := 15) rfl)), List.forall_mem_cons.mpr ⟨(cl_X4_sum_1 _ (List.mem_of_getElem? (i := 14) rfl)), List.forall_mem_cons.mpr ⟨(cl_X4_sum_2 _ (List.mem_of_getElem? (i := 1) rfl)), List.forall_mem_cons.mpr ⟨(cl_X4_sum_2 _ (List.mem_of_getElem? (i := 2) rfl)), List.forall_mem_cons.mpr ⟨(cl_X4_sum_2 _ (List.mem_of_getElem? (i := 3) rfl)), List.forall_mem_cons.mpr ⟨(cl_X4_sum_1 _ (List.mem_of_getElem? (i := 5) rfl)), List.forall_mem_cons.mpr ⟨(cl_X4_sum_1 _ (List.mem_of_getElem? (i := 6) rfl)), List.forall_mem_cons.mpr ⟨(cl_X4_sum_1 _ (List.mem_of_getElem? (i := 7) rfl)), List.forall_mem_cons.mpr ⟨(cl_X4_sum_1 _ (List.mem_of_getElem? (i := 3) rfl)), List.forall_mem_cons.mpr ⟨(cl_X4_sum_1 _ (List.mem_of_getElem? (i := 8) rfl)), List.forall_mem_cons.mpr ⟨(cl_X4_sum_1 _ (List.mem_of_getElem? (i := 9) rfl)), List.forall_mem_cons.mpr ⟨(cl_X4_sum_1 _ (List.mem_of_getElem? (i := 10) rfl)), List.forall_mem_cons.mpr ⟨(cl_X4_sum_1 _ (List.mem_of_getElem? (i := 11) rfl)), List.forall_mem_cons.mpr ⟨(cl_X4_sum_1 _ (List.mem_of_getElem? (i := 12) rfl)), List.forall_mem_cons.mpr ⟨(cl_X4_sum_1 _ (List.mem_of_getElem? (i := 13) rfl)), List.forall_mem_cons.mpr ⟨(cl_X4_sum_2 _ (List.mem_of_getElem? (i := 4) rfl)), List.forall_mem_cons.mpr ⟨(cl_X4_sum_2 _ (List.mem_of_getElem? (i := 5) rfl)), List.forall_mem_cons.mpr ⟨(cl_X4_sum_2 _ (List.mem_of_getElem? (i := 6) rfl)), List.forall_mem_cons.mpr ⟨(cl_X4_sum_2 _ (List.mem_of_getElem? (i := 7) rfl)), List.forall_mem_cons.mpr ⟨(cl_X4_sum_1 _ (List.mem_of_getElem? (i := 0) rfl)), List.forall_mem_cons.mpr ⟨(cl_X4_sum_1 _ (List.mem_of_getElem? (i := 1) rfl)), List.forall_mem_cons.mpr ⟨(cl_X4_sum_1 _ (List.mem_of_getElem? (i := 2) rfl)), List.forall_mem_cons.mpr ⟨(cl_X4_sum_1 _ (List.mem_of_getElem? (i := 4) rfl)), fun _ h => absurd h List.not_mem_nil⟩⟩⟩⟩⟩⟩⟩⟩⟩⟩⟩⟩⟩⟩⟩⟩⟩⟩⟩⟩⟩⟩⟩⟩) w) ((List.forall_mem_cons.mpr ⟨(cl_X4_sum_1 _ (List.mem_of_getElem? (i := 16) rfl)), List.forall_mem_cons.mpr ⟨(cl_X4_sum_1 _ (List.mem_of_getElem? (i := 17) rfl)), List.forall_mem_cons.mpr ⟨(cl_X4_sum_1 _ (List.mem_of_getElem? (i := 18) rfl)), List.forall_mem_cons.mpr ⟨(cl_X4_sum_1 _ (List.mem_of_getElem? (i := 19) rfl)), List.forall_mem_cons.mpr ⟨(cl_X4_sum_2 _ (List.mem_of_getElem? (i := 8) rfl)), List.forall_mem_cons.mpr ⟨(cl_X4_sum_2 _ (List.mem_of_getElem? (i := 9) rfl)), List.forall_mem_cons.mpr ⟨(cl_X4_sum_2 _ (List.mem_of_getElem? (i := 10) rfl)), List.forall_mem_cons.mpr ⟨(cl_X4_sum_2 _ (List.mem_of_getElem? (i := 11) rfl)), List.forall_mem_cons.mpr ⟨(cl_X4_sum_2 _ (List.mem_of_getElem? (i := 12) rfl)), List.forall_mem_cons.mpr ⟨(cl_X4_sum_2 _ (List.mem_of_getElem? (i := 13) rfl)), List.forall_mem_cons.mpr ⟨(cl_X4_sum_2 _ (List.mem_of_getElem? (i := 14) rfl)), List.forall_mem_cons.mpr ⟨(cl_X4_sum_2 _ (List.mem_of_getElem? (i := 15) rfl)), fun _ h => absurd h List.not_mem_nil⟩⟩⟩⟩⟩⟩⟩⟩⟩⟩⟩⟩) w)) w) ((cl_X4_sum_3) w)⟩) (by decide +kernel)
set_option maxRecDepth 20000 in
theorem gX4_sum_X4_count : GoodIn wsX4_sum (wsV RX4 60 RX4 yX4_count wsX4_count) := goodIn_app (goodIn_sub (List.forall_mem_cons.mpr ⟨(cl_X4_sum_1 _ (List.mem_of_getElem? (i := 20) rfl)), List.forall_mem_cons.mpr ⟨(cl_X4_sum_1 _ (List.mem_of_getElem? (i := 21) rfl)), List.forall_mem_cons.mpr ⟨(cl_X4_sum_1 _ (List.mem_of_getElem? (i := 22) rfl)), List.forall_mem_cons.mpr ⟨(cl_X4_sum_1 _ (List.mem_of_getElem? (i := 3) rfl)), fun _ h => absurd h List.not_mem_nil⟩⟩⟩⟩) (by decide +kernel)) ggX4_sum_X4_count
set_option maxRecDepth 20000 in
theorem ggX4_sum_X4_made : GoodIn wsX4_sum wsX4_made := goodIn_sub (List.forall_mem_cons.mpr ⟨(cl_X4_sum_2 _ (List.mem_of_getElem? (i := 19) rfl)), fun w h => (List.mem_append.mp h).elim ((List.forall_mem_cons.mpr ⟨(cl_X4_sum_1 _ (List.mem_of_getElem? (i := 14) rfl)), List.forall_mem_cons.mpr ⟨(cl_X4_sum_2 _ (List.mem_of_getElem? (i := 1) rfl)), List.forall_mem_cons.mpr ⟨(cl_X4_sum_1 _ (List.mem_of_getElem? (i := 15) rfl)), List.forall_mem_cons.mpr ⟨(cl_X4_sum_2 _ (List.mem_of_getElem? (i := 2) rfl)), List.forall_mem_cons.mpr ⟨(cl_X4_sum_1 _ (List.mem_of_getElem? (i := 10) rfl)), List.forall_mem_cons.mpr ⟨(cl_X4_sum_1 _ (List.mem_of_getElem? (i := 11) rfl)), List.forall_mem_cons.mpr ⟨(cl_X4_sum_1 _ (List.mem_of_getElem? (i := 12) rfl)), List.forall_mem_cons.mpr ⟨(cl_X4_sum_1 _ (List.mem_of_getElem? (i := 3) rfl)), List.forall_mem_cons.mpr ⟨(cl_X4_sum_1 _ (List.mem_of_getElem? (i := 13) rfl)), fun _ h => absurd h List.not_mem_nil⟩⟩⟩⟩⟩⟩⟩⟩⟩) w) ((cl_X4_sum_3) w)⟩) (by decide +kernel)
set_option maxRecDepth 20000 in
theorem gX4_sum_X4_made : GoodIn wsX4_sum (wsV RX4 67 RX4 yX4_made wsX4_made) := goodIn_app (goodIn_sub (List.forall_mem_cons.mpr ⟨(cl_X4_sum_2 _ (List.mem_of_getElem? (i := 16) rfl)), List.forall_mem_cons.mpr ⟨(cl_X4_sum_2 _ (List.mem_of_getElem? (i := 17) rfl)), List.forall_mem_cons.mpr ⟨(cl_X4_sum_2 _ (List.mem_of_getElem? (i := 18) rfl)), List.forall_mem_cons.mpr ⟨(cl_X4_sum_1 _ (List.mem_of_getElem? (i := 3) rfl)), fun _ h => absurd h List.not_mem_nil⟩⟩⟩⟩) (by decide +kernel)) ggX4_sum_X4_made
noncomputable def dz_p08_12 : List (Nat × Instr × Nat) := [(0, (.aload_n 0, 1)), (1, (.lload_n 1, 1)), (2, (.invokevirtual 53, 3)), (5, (.ifCond .eq 5, 3)), (8, (.lload_n 1, 1)), (9, (.lreturn, 1)), (10, (.aload_n 0, 1)), (11, (.lload_n 3, 1)), (12, (.invokevirtual 53, 3)), (15, (.ifCond .eq 5, 3)), (18, (.lload_n 3, 1)), (19, (.lreturn, 1)), (20, (.lload_n 1, 1)), (21, (.aload_n 0, 1)), (22, (.invokevirtual 26, 3)), (25, (.lcmp, 1)), (26, (.ifCond .ne 16, 3)), (29, (.lload_n 3, 1)), (30, (.aload_n 0, 1)), (31, (.invokevirtual 26, 3)), (34, (.lcmp, 1)), (35, (.ifCond .ne 7, 3)), (38, (.lload_n 1, 1)), (39, (.goto 20, 3)), (42, (.aload_n 0, 1)), (43, (.aload_n 0, 1)), (44, (.lload_n 1, 1)), (45, (.invokevirtual 60, 3)), (48, (.i2l, 1)), (49, (.aload_n 0, 1)), (50, (.lload_n 3, 1)), (51, (.invokevirtual 60, 3)), (54, (.i2l, 1)), (55, (.ladd, 1)), (56, (.invokevirtual 67, 3)), (59, (.lreturn, 1))]
theorem dy_p08_12 : dz_ok cX4_sum dz_p08_12 = true := by decide +kernel
theorem dX4_sum_0 : decode cX4_sum 0 = .ok (.aload_n 0, 1) := dz_at (i := 0) dy_p08_12 rfl
theorem dX4_sum_1 : decode cX4_sum 1 = .ok (.lload_n 1, 1) := dz_at (i := 1) dy_p08_12 rfl
theorem dX4_sum_2 : decode cX4_sum 2 = .ok (.invokevirtual 53, 3) := dz_at (i := 2) dy_p08_12 rfl
theorem dX4_sum_5 : decode cX4_sum 5 = .ok (.ifCond .eq 5, 3) := dz_at (i := 3) dy_p08_12 rfl
theorem dX4_sum_8 : decode cX4_sum 8 = .ok (.lload_n 1, 1) := dz_at (i := 4) dy_p08_12 rfl
theorem dX4_sum_9 : decode cX4_sum 9 = .ok (.lreturn, 1) := dz_at (i := 5) dy_p08_12 rfl
theorem dX4_sum_10 : decode cX4_sum 10 = .ok (.aload_n 0, 1) := dz_at (i := 6) dy_p08_12 rfl
theorem dX4_sum_11 : decode cX4_sum 11 = .ok (.lload_n 3, 1) := dz_at (i := 7) dy_p08_12 rfl
theorem dX4_sum_12 : decode cX4_sum 12 = .ok (.invokevirtual 53, 3) := dz_at (i := 8) dy_p08_12 rfl
theorem dX4_sum_15 : decode cX4_sum 15 = .ok (.ifCond .eq 5, 3) := dz_at (i := 9) dy_p08_12 rfl
theorem dX4_sum_18 : decode cX4_sum 18 = .ok (.lload_n 3, 1) := dz_at (i := 10) dy_p08_12 rfl
theorem dX4_sum_19 : decode cX4_sum 19 = .ok (.lreturn, 1) := dz_at (i := 11) dy_p08_12 rfl
theorem dX4_sum_20 : decode cX4_sum 20 = .ok (.lload_n 1, 1) := dz_at (i := 12) dy_p08_12 rfl
theorem dX4_sum_21 : decode cX4_sum 21 = .ok (.aload_n 0, 1) := dz_at (i := 13) dy_p08_12 rfl
theorem dX4_sum_22 : decode cX4_sum 22 = .ok (.invokevirtual 26, 3) := dz_at (i := 14) dy_p08_12 rfl
theorem dX4_sum_25 : decode cX4_sum 25 = .ok (.lcmp, 1) := dz_at (i := 15) dy_p08_12 rfl
theorem dX4_sum_26 : decode cX4_sum 26 = .ok (.ifCond .ne 16, 3) := dz_at (i := 16) dy_p08_12 rfl
theorem dX4_sum_29 : decode cX4_sum 29 = .ok (.lload_n 3, 1) := dz_at (i := 17) dy_p08_12 rfl
theorem dX4_sum_30 : decode cX4_sum 30 = .ok (.aload_n 0, 1) := dz_at (i := 18) dy_p08_12 rfl
theorem dX4_sum_31 : decode cX4_sum 31 = .ok (.invokevirtual 26, 3) := dz_at (i := 19) dy_p08_12 rfl
theorem dX4_sum_34 : decode cX4_sum 34 = .ok (.lcmp, 1) := dz_at (i := 20) dy_p08_12 rfl
theorem dX4_sum_35 : decode cX4_sum 35 = .ok (.ifCond .ne 7, 3) := dz_at (i := 21) dy_p08_12 rfl
theorem dX4_sum_38 : decode cX4_sum 38 = .ok (.lload_n 1, 1) := dz_at (i := 22) dy_p08_12 rfl
theorem dX4_sum_39 : decode cX4_sum 39 = .ok (.goto 20, 3) := dz_at (i := 23) dy_p08_12 rfl
theorem dX4_sum_42 : decode cX4_sum 42 = .ok (.aload_n 0, 1) := dz_at (i := 24) dy_p08_12 rfl
theorem dX4_sum_43 : decode cX4_sum 43 = .ok (.aload_n 0, 1) := dz_at (i := 25) dy_p08_12 rfl
theorem dX4_sum_44 : decode cX4_sum 44 = .ok (.lload_n 1, 1) := dz_at (i := 26) dy_p08_12 rfl
theorem dX4_sum_45 : decode cX4_sum 45 = .ok (.invokevirtual 60, 3) := dz_at (i := 27) dy_p08_12 rfl
theorem dX4_sum_48 : decode cX4_sum 48 = .ok (.i2l, 1) := dz_at (i := 28) dy_p08_12 rfl
theorem dX4_sum_49 : decode cX4_sum 49 = .ok (.aload_n 0, 1) := dz_at (i := 29) dy_p08_12 rfl
theorem dX4_sum_50 : decode cX4_sum 50 = .ok (.lload_n 3, 1) := dz_at (i := 30) dy_p08_12 rfl
theorem dX4_sum_51 : decode cX4_sum 51 = .ok (.invokevirtual 60, 3) := dz_at (i := 31) dy_p08_12 rfl
theorem dX4_sum_54 : decode cX4_sum 54 = .ok (.i2l, 1) := dz_at (i := 32) dy_p08_12 rfl
theorem dX4_sum_55 : decode cX4_sum 55 = .ok (.ladd, 1) := dz_at (i := 33) dy_p08_12 rfl
theorem dX4_sum_56 : decode cX4_sum 56 = .ok (.invokevirtual 67, 3) := dz_at (i := 34) dy_p08_12 rfl
theorem dX4_sum_59 : decode cX4_sum 59 = .ok (.lreturn, 1) := dz_at (i := 35) dy_p08_12 rfl
noncomputable def o_X4_sum (w : Bool) (p0 : Int64) (p1 : Int64) : Int64 :=
  if (o_X4_isEndless w p0) = true then p0
  else if (o_X4_isEndless w p1) = true then p1
  else if p0 = (o_X4_sign w) then (if p1 = (o_X4_sign w) then p0
    else (o_X4_made w (((o_X4_count w p0).toInt64) + ((o_X4_count w p1).toInt64))))
  else (o_X4_made w (((o_X4_count w p0).toInt64) + ((o_X4_count w p1).toInt64)))
set_option maxHeartbeats 4000000 in
set_option maxRecDepth 100000 in
theorem k_X4_sum (l : Launch) (dC : Nat → ClassId) (dI : Nat → Nat → Nat) (cy : ClassId) (h0 : Nat) (hc : Nat) (w : Bool) (a : Int32) (f : Nat → Int64) (sz : Nat) (p0 : Int64) (p1 : Int64) (hok0 : okN w p0) (hok1 : okN w p1) : Met l yX4_sum wsX4_sum ({ frames := 4, cells := 0, slots := 0, locals := 92 }) (va_Pc [.ref h0, .long p0, .long p1] (xB (dC, dI) xCl [(h0, eMR w hc a), (hc, eA cy f)] [(cy, .long)] sz)) (va_Ql (fun (r : Int64) (_ : Unit) => r = (o_X4_sum w p0 p1)) (fun _ _ => True) (aN sz)) 0 0 (aN sz) := by
  refine Met.ofW (cc := cX4_sum) (maxL := 5) (ret := (some .long)) (by decide +kernel) rfl ?_
  intro p e s m args below meth c s₁ B hml hv
  obtain ⟨rfl, hsz, hP, hK⟩ := hv
  have hx := B.exec
  have hb := B.bytes
  have hr := B.returns
  have hts := atoms_spec (ws := wsX4_sum) B.pre
  have hown : s.vm.findClass RX4 = some m.cls := findClass_of_methodNamed B.named
  have hlocks := B.notSynchronized
  subst hsz
  have hA : ∀ q : Nat, s.heap.size ≤ q → aN s.heap.size q := fun _ h => h
  have hS : va_S (aN s.heap.size) s.heap s.heap [] := va_S.rf
  have hP : va_P (dC, dI) xCl [(h0, eMR w hc a), (hc, eA cy f)] s.heap := hP
  have hl := lv_entry ([.ref h0, .long p0, .long p1]) (n := 5) (Nat.le_of_ble_eq_true rfl)
  rw [lg_entry_eq]
  generalize (lg_sl ([.ref h0, .long p0, .long p1]) ++ List.replicate (5 - (lg_sl ([.ref h0, .long p0, .long p1])).length) Slot.unset).toArray = ls at hl ⊢
  have hl : lv_has ls 5 [(0, .ref h0), (1, .long p0), (3, .long p1)] := hl
  refine lv_aload_n hx hb dX4_sum_0 rfl (lv_at hl 0 rfl) ?_
  refine lv_lload_n hx hb dX4_sum_1 rfl (lv_at hl 1 rfl) ?_
  have hPc := hP.sub (ws' := [(h0, eMR w hc a), (hc, eA cy f)]) [0, 1] rfl
  have hKc := hK.sub (tys' := [(cy, .long)]) [0] rfl
  refine va_calli (va_runV (As := [.long p0]) (rest := []) ⟨hx, hb, hml, hown, hts⟩ (k_X4_isEndless l dC dI cy h0 hc w a f s.heap.size p0) (cwV 1 hts gX4_sum_X4_isEndless rfl rfl rfl (by decide +kernel) ⟨Nat.le_of_ble_eq_true rfl, Nat.le_of_ble_eq_true rfl⟩) (xB.preV hKc hPc (ci := 6) (q0 := 0) rfl rfl) rfl rfl hl.1 rfl (lv_room (Nat.le_of_ble_eq_true rfl)) dX4_sum_2 ⟨Nat.le_of_ble_eq_true rfl, Nat.le_of_ble_eq_true rfl⟩) hS xA_old (fun q h => hA q (Nat.le_trans hS.1 h)) (fun r_1 u t H locs ht hvm hw hB hz hk hS => ?_)
  replace hw : r_1 = b2i (o_X4_isEndless w p0) := hw
  subst r_1
  have hP := xP_keep hP hk
  refine xz_eq (tgt := 10) hx hb dX4_sum_5 (by decide +kernel) (fun c_2 => ?_) (fun c_2 => ?_)
  · skip
    refine lv_aload_n hx hb dX4_sum_10 rfl (lv_at hl 0 rfl) ?_
    refine lv_lload_n hx hb dX4_sum_11 rfl (lv_at hl 2 rfl) ?_
    have hPc := hP.sub (ws' := [(h0, eMR w hc a), (hc, eA cy f)]) [0, 1] rfl
    have hKc := hK.sub (tys' := [(cy, .long)]) [0] rfl
    refine va_calli (va_runV (As := [.long p1]) (rest := []) ⟨hx, hb, hml, hown, hts⟩ (k_X4_isEndless l dC dI cy h0 hc w a f H.size p1) (cwV 1 hts gX4_sum_X4_isEndless rfl rfl rfl (by decide +kernel) ⟨Nat.le_of_ble_eq_true rfl, Nat.le_of_ble_eq_true rfl⟩) (xB.preV hKc hPc (ci := 6) (q0 := 0) rfl rfl) rfl rfl hl.1 rfl (lv_room (Nat.le_of_ble_eq_true rfl)) dX4_sum_12 ⟨Nat.le_of_ble_eq_true rfl, Nat.le_of_ble_eq_true rfl⟩) hS xA_old (fun q h => hA q (Nat.le_trans hS.1 h)) (fun r_3 u t H locs ht hvm hw hB hz hk hS => ?_)
    replace hw : r_3 = b2i (o_X4_isEndless w p1) := hw
    subst r_3
    have hP := xP_keep hP hk
    refine xz_eq (tgt := 20) hx hb dX4_sum_15 (by decide +kernel) (fun c_4 => ?_) (fun c_4 => ?_)
    · skip
      refine lv_lload_n hx hb dX4_sum_20 rfl (lv_at hl 1 rfl) ?_
      refine lv_aload_n hx hb dX4_sum_21 rfl (lv_at hl 0 rfl) ?_
      have hPc := hP.sub (ws' := [(h0, eMR w hc a), (hc, eA cy f)]) [0, 1] rfl
      have hKc := hK.sub (tys' := [(cy, .long)]) [0] rfl
      refine va_calll (va_runV (As := []) (rest := [.long p0]) ⟨hx, hb, hml, hown, hts⟩ (k_X4_sign l dC dI cy h0 hc w a f H.size) (cwV 0 hts gX4_sum_X4_sign rfl rfl rfl (by decide +kernel) ⟨Nat.le_of_ble_eq_true rfl, Nat.le_of_ble_eq_true rfl⟩) (xB.preV hKc hPc (ci := 6) (q0 := 0) rfl rfl) rfl rfl hl.1 rfl (lv_room (Nat.le_of_ble_eq_true rfl)) dX4_sum_22 ⟨Nat.le_of_ble_eq_true rfl, Nat.le_of_ble_eq_true rfl⟩) hS xA_old (fun q h => hA q (Nat.le_trans hS.1 h)) (fun r_5 u t H locs ht hvm hw hB hz hk hS => ?_)
      replace hw : r_5 = (o_X4_sign w) := hw
      subst r_5
      have hP := xP_keep hP hk
      refine xc_ne (tgt := 42) hx hb dX4_sum_25 dX4_sum_26 (by decide +kernel) (fun c_6 => ?_) (fun c_6 => ?_)
      · skip
        refine lv_aload_n hx hb dX4_sum_42 rfl (lv_at hl 0 rfl) ?_
        refine lv_aload_n hx hb dX4_sum_43 rfl (lv_at hl 0 rfl) ?_
        refine lv_lload_n hx hb dX4_sum_44 rfl (lv_at hl 1 rfl) ?_
        have hPc := hP.sub (ws' := [(h0, eMR w hc a), (hc, eA cy f)]) [0, 1] rfl
        have hKc := hK.sub (tys' := [(cy, .long)]) [0] rfl
        refine va_calli (va_runV (As := [.long p0]) (rest := [.ref h0]) ⟨hx, hb, hml, hown, hts⟩ (k_X4_count l dC dI cy h0 hc w a f H.size p0 hok0) (cwV 1 hts gX4_sum_X4_count rfl rfl rfl (by decide +kernel) ⟨Nat.le_of_ble_eq_true rfl, Nat.le_of_ble_eq_true rfl⟩) (xB.preV hKc hPc (ci := 6) (q0 := 0) rfl rfl) rfl rfl hl.1 rfl (lv_room (Nat.le_of_ble_eq_true rfl)) dX4_sum_45 ⟨Nat.le_of_ble_eq_true rfl, Nat.le_of_ble_eq_true rfl⟩) hS xA_old (fun q h => hA q (Nat.le_trans hS.1 h)) (fun r_7 u t H locs ht hvm hw hB hz hk hS => ?_)
        replace hw : r_7 = (o_X4_count w p0) := hw
        subst r_7
        have hP := xP_keep hP hk
        refine lv_i2l (v := ((o_X4_count w p0).toInt64)) hx hb dX4_sum_48 rfl ?_
        refine lv_aload_n hx hb dX4_sum_49 rfl (lv_at hl 0 rfl) ?_
        refine lv_lload_n hx hb dX4_sum_50 rfl (lv_at hl 2 rfl) ?_
        have hPc := hP.sub (ws' := [(h0, eMR w hc a), (hc, eA cy f)]) [0, 1] rfl
        have hKc := hK.sub (tys' := [(cy, .long)]) [0] rfl
        refine va_calli (va_runV (As := [.long p1]) (rest := [.long ((o_X4_count w p0).toInt64), .ref h0]) ⟨hx, hb, hml, hown, hts⟩ (k_X4_count l dC dI cy h0 hc w a f H.size p1 hok1) (cwV 1 hts gX4_sum_X4_count rfl rfl rfl (by decide +kernel) ⟨Nat.le_of_ble_eq_true rfl, Nat.le_of_ble_eq_true rfl⟩) (xB.preV hKc hPc (ci := 6) (q0 := 0) rfl rfl) rfl rfl hl.1 rfl (lv_room (Nat.le_of_ble_eq_true rfl)) dX4_sum_51 ⟨Nat.le_of_ble_eq_true rfl, Nat.le_of_ble_eq_true rfl⟩) hS xA_old (fun q h => hA q (Nat.le_trans hS.1 h)) (fun r_8 u t H locs ht hvm hw hB hz hk hS => ?_)
        replace hw : r_8 = (o_X4_count w p1) := hw
        subst r_8
        have hP := xP_keep hP hk
        refine lv_i2l (v := ((o_X4_count w p1).toInt64)) hx hb dX4_sum_54 rfl ?_
        refine lv_ladd hx hb dX4_sum_55 ?_
        have hPc := hP.sub (ws' := [(h0, eMR w hc a), (hc, eA cy f)]) [0, 1] rfl
        have hKc := hK.sub (tys' := [(cy, .long)]) [0] rfl
        refine va_calll (va_runV (As := [.long (((o_X4_count w p0).toInt64) + ((o_X4_count w p1).toInt64))]) (rest := []) ⟨hx, hb, hml, hown, hts⟩ (k_X4_made l dC dI cy h0 hc w a f H.size (((o_X4_count w p0).toInt64) + ((o_X4_count w p1).toInt64)) (xm_sumr _ _)) (cwV 1 hts gX4_sum_X4_made rfl rfl rfl (by decide +kernel) ⟨Nat.le_of_ble_eq_true rfl, Nat.le_of_ble_eq_true rfl⟩) (xB.preV hKc hPc (ci := 6) (q0 := 0) rfl rfl) rfl rfl hl.1 rfl (lv_room (Nat.le_of_ble_eq_true rfl)) dX4_sum_56 ⟨Nat.le_of_ble_eq_true rfl, Nat.le_of_ble_eq_true rfl⟩) hS xA_old (fun q h => hA q (Nat.le_trans hS.1 h)) (fun r_9 u t H locs ht hvm hw hB hz hk hS => ?_)
        replace hw : r_9 = (o_X4_made w (((o_X4_count w p0).toInt64) + ((o_X4_count w p1).toInt64))) := hw
        subst r_9
        have hP := xP_keep hP hk
        have he : o_X4_sum w p0 p1 = (o_X4_made w (((o_X4_count w p0).toInt64) + ((o_X4_count w p1).toInt64))) := by (rw [o_X4_sum, if_neg c_2, if_neg c_4, if_neg c_6]) <;> rfl
        refine W.widen (k := 0) (n := 0) (by omega) (by omega) ?_
        exact W.lret (v := (o_X4_made w (((o_X4_count w p0).toInt64) + ((o_X4_count w p1).toInt64)))) hx hb hr (fun t ht hW => ⟨⟨_, (), rfl, (by (rw [he]) <;> rfl), trivial⟩, hS.F ht⟩) hS.2.2 dX4_sum_59
      · skip
        refine lv_lload_n hx hb dX4_sum_29 rfl (lv_at hl 2 rfl) ?_
        refine lv_aload_n hx hb dX4_sum_30 rfl (lv_at hl 0 rfl) ?_
        have hPc := hP.sub (ws' := [(h0, eMR w hc a), (hc, eA cy f)]) [0, 1] rfl
        have hKc := hK.sub (tys' := [(cy, .long)]) [0] rfl
        refine va_calll (va_runV (As := []) (rest := [.long p1]) ⟨hx, hb, hml, hown, hts⟩ (k_X4_sign l dC dI cy h0 hc w a f H.size) (cwV 0 hts gX4_sum_X4_sign rfl rfl rfl (by decide +kernel) ⟨Nat.le_of_ble_eq_true rfl, Nat.le_of_ble_eq_true rfl⟩) (xB.preV hKc hPc (ci := 6) (q0 := 0) rfl rfl) rfl rfl hl.1 rfl (lv_room (Nat.le_of_ble_eq_true rfl)) dX4_sum_31 ⟨Nat.le_of_ble_eq_true rfl, Nat.le_of_ble_eq_true rfl⟩) hS xA_old (fun q h => hA q (Nat.le_trans hS.1 h)) (fun r_10 u t H locs ht hvm hw hB hz hk hS => ?_)
        replace hw : r_10 = (o_X4_sign w) := hw
        subst r_10
        have hP := xP_keep hP hk
        refine xc_ne (tgt := 42) hx hb dX4_sum_34 dX4_sum_35 (by decide +kernel) (fun c_11 => ?_) (fun c_11 => ?_)
        · skip
          refine lv_aload_n hx hb dX4_sum_42 rfl (lv_at hl 0 rfl) ?_
          refine lv_aload_n hx hb dX4_sum_43 rfl (lv_at hl 0 rfl) ?_
          refine lv_lload_n hx hb dX4_sum_44 rfl (lv_at hl 1 rfl) ?_
          have hPc := hP.sub (ws' := [(h0, eMR w hc a), (hc, eA cy f)]) [0, 1] rfl
          have hKc := hK.sub (tys' := [(cy, .long)]) [0] rfl
          refine va_calli (va_runV (As := [.long p0]) (rest := [.ref h0]) ⟨hx, hb, hml, hown, hts⟩ (k_X4_count l dC dI cy h0 hc w a f H.size p0 hok0) (cwV 1 hts gX4_sum_X4_count rfl rfl rfl (by decide +kernel) ⟨Nat.le_of_ble_eq_true rfl, Nat.le_of_ble_eq_true rfl⟩) (xB.preV hKc hPc (ci := 6) (q0 := 0) rfl rfl) rfl rfl hl.1 rfl (lv_room (Nat.le_of_ble_eq_true rfl)) dX4_sum_45 ⟨Nat.le_of_ble_eq_true rfl, Nat.le_of_ble_eq_true rfl⟩) hS xA_old (fun q h => hA q (Nat.le_trans hS.1 h)) (fun r_12 u t H locs ht hvm hw hB hz hk hS => ?_)
          replace hw : r_12 = (o_X4_count w p0) := hw
          subst r_12
          have hP := xP_keep hP hk
          refine lv_i2l (v := ((o_X4_count w p0).toInt64)) hx hb dX4_sum_48 rfl ?_
          refine lv_aload_n hx hb dX4_sum_49 rfl (lv_at hl 0 rfl) ?_
          refine lv_lload_n hx hb dX4_sum_50 rfl (lv_at hl 2 rfl) ?_
          have hPc := hP.sub (ws' := [(h0, eMR w hc a), (hc, eA cy f)]) [0, 1] rfl
          have hKc := hK.sub (tys' := [(cy, .long)]) [0] rfl
          refine va_calli (va_runV (As := [.long p1]) (rest := [.long ((o_X4_count w p0).toInt64), .ref h0]) ⟨hx, hb, hml, hown, hts⟩ (k_X4_count l dC dI cy h0 hc w a f H.size p1 hok1) (cwV 1 hts gX4_sum_X4_count rfl rfl rfl (by decide +kernel) ⟨Nat.le_of_ble_eq_true rfl, Nat.le_of_ble_eq_true rfl⟩) (xB.preV hKc hPc (ci := 6) (q0 := 0) rfl rfl) rfl rfl hl.1 rfl (lv_room (Nat.le_of_ble_eq_true rfl)) dX4_sum_51 ⟨Nat.le_of_ble_eq_true rfl, Nat.le_of_ble_eq_true rfl⟩) hS xA_old (fun q h => hA q (Nat.le_trans hS.1 h)) (fun r_13 u t H locs ht hvm hw hB hz hk hS => ?_)
          replace hw : r_13 = (o_X4_count w p1) := hw
          subst r_13
          have hP := xP_keep hP hk
          refine lv_i2l (v := ((o_X4_count w p1).toInt64)) hx hb dX4_sum_54 rfl ?_
          refine lv_ladd hx hb dX4_sum_55 ?_
          have hPc := hP.sub (ws' := [(h0, eMR w hc a), (hc, eA cy f)]) [0, 1] rfl
          have hKc := hK.sub (tys' := [(cy, .long)]) [0] rfl
          refine va_calll (va_runV (As := [.long (((o_X4_count w p0).toInt64) + ((o_X4_count w p1).toInt64))]) (rest := []) ⟨hx, hb, hml, hown, hts⟩ (k_X4_made l dC dI cy h0 hc w a f H.size (((o_X4_count w p0).toInt64) + ((o_X4_count w p1).toInt64)) (xm_sumr _ _)) (cwV 1 hts gX4_sum_X4_made rfl rfl rfl (by decide +kernel) ⟨Nat.le_of_ble_eq_true rfl, Nat.le_of_ble_eq_true rfl⟩) (xB.preV hKc hPc (ci := 6) (q0 := 0) rfl rfl) rfl rfl hl.1 rfl (lv_room (Nat.le_of_ble_eq_true rfl)) dX4_sum_56 ⟨Nat.le_of_ble_eq_true rfl, Nat.le_of_ble_eq_true rfl⟩) hS xA_old (fun q h => hA q (Nat.le_trans hS.1 h)) (fun r_14 u t H locs ht hvm hw hB hz hk hS => ?_)
          replace hw : r_14 = (o_X4_made w (((o_X4_count w p0).toInt64) + ((o_X4_count w p1).toInt64))) := hw
          subst r_14
          have hP := xP_keep hP hk
          have he : o_X4_sum w p0 p1 = (o_X4_made w (((o_X4_count w p0).toInt64) + ((o_X4_count w p1).toInt64))) := by (rw [o_X4_sum, if_neg c_2, if_neg c_4, if_pos c_6, if_neg c_11]) <;> rfl
          refine W.widen (k := 0) (n := 0) (by omega) (by omega) ?_
          exact W.lret (v := (o_X4_made w (((o_X4_count w p0).toInt64) + ((o_X4_count w p1).toInt64)))) hx hb hr (fun t ht hW => ⟨⟨_, (), rfl, (by (rw [he]) <;> rfl), trivial⟩, hS.F ht⟩) hS.2.2 dX4_sum_59
        · skip
          refine lv_lload_n hx hb dX4_sum_38 rfl (lv_at hl 1 rfl) ?_
          refine lv_goto (tgt := 59) hx hb dX4_sum_39 (by decide +kernel) ?_
          have he : o_X4_sum w p0 p1 = p0 := by (rw [o_X4_sum, if_neg c_2, if_neg c_4, if_pos c_6, if_pos c_11]) <;> rfl
          refine W.widen (k := 0) (n := 0) (by omega) (by omega) ?_
          exact W.lret (v := p0) hx hb hr (fun t ht hW => ⟨⟨_, (), rfl, (by (rw [he]) <;> rfl), trivial⟩, hS.F ht⟩) hS.2.2 dX4_sum_59
    · skip
      refine lv_lload_n hx hb dX4_sum_18 rfl (lv_at hl 2 rfl) ?_
      have he : o_X4_sum w p0 p1 = p1 := by (rw [o_X4_sum, if_neg c_2, if_pos c_4]) <;> rfl
      refine W.widen (k := 0) (n := 0) (by omega) (by omega) ?_
      exact W.lret (v := p1) hx hb hr (fun t ht hW => ⟨⟨_, (), rfl, (by (rw [he]) <;> rfl), trivial⟩, hS.F ht⟩) hS.2.2 dX4_sum_19
  · skip
    refine lv_lload_n hx hb dX4_sum_8 rfl (lv_at hl 1 rfl) ?_
    have he : o_X4_sum w p0 p1 = p0 := by (rw [o_X4_sum, if_pos c_2]) <;> rfl
    refine W.widen (k := 0) (n := 0) (by omega) (by omega) ?_
    exact W.lret (v := p0) hx hb hr (fun t ht hW => ⟨⟨_, (), rfl, (by (rw [he]) <;> rfl), trivial⟩, hS.F ht⟩) hS.2.2 dX4_sum_9
