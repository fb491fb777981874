theorem dk_29m_1 : (cL_law.data.toList.drop 3654).take 14 = [148, 153, 0, 5, 3, 172, 132, 4, 4, 167, 241, 204, 4, 172] := by decide +kernel
theorem dL_law_3654 : decode cL_law 3654 = .ok (.lcmp, 1) := dq_op148 (dq_at (j := 0) dk_29m_1 rfl rfl)
theorem dL_law_3655 : decode cL_law 3655 = .ok (.ifCond .eq 5, 3) := dq_op153 (dq_at (j := 1) dk_29m_1 rfl rfl) (dq_at (j := 2) dk_29m_1 rfl rfl) (dq_at (j := 3) dk_29m_1 rfl rfl) (by decide +kernel)
theorem dL_law_3658 : decode cL_law 3658 = .ok (.iconst 0, 1) := dq_op3 (dq_at (j := 4) dk_29m_1 rfl rfl)
theorem dL_law_3659 : decode cL_law 3659 = .ok (.ireturn, 1) := dq_op172 (dq_at (j := 5) dk_29m_1 rfl rfl)
theorem dL_law_3660 : decode cL_law 3660 = .ok (.iinc 4 4, 3) := dq_op132 (dq_at (j := 6) dk_29m_1 rfl rfl) (dq_at (j := 7) dk_29m_1 rfl rfl) (dq_at (j := 8) dk_29m_1 rfl rfl) rfl (by decide +kernel)
theorem dL_law_3663 : decode cL_law 3663 = .ok (.goto (-3636), 3) := dq_op167 (dq_at (j := 9) dk_29m_1 rfl rfl) (dq_at (j := 10) dk_29m_1 rfl rfl) (dq_at (j := 11) dk_29m_1 rfl rfl) (by decide +kernel)
theorem dL_law_3666 : decode cL_law 3666 = .ok (.iconst 1, 1) := dq_op4 (dq_at (j := 12) dk_29m_1 rfl rfl)
theorem dL_law_3667 : decode cL_law 3667 = .ok (.ireturn, 1) := dq_op172 (dq_at (j := 13) dk_29m_1 rfl rfl)
noncomputable def dq_end_29m : Nat := 0
