-- count
theorem pu_four {gr re : Nat → Int32} : ∀ {n : Nat}, (∀ j, j < n → 0 ≤ (gr j).toInt ∧ (gr j).toInt ≤ 3) → pu_sum (fun j => if (gr j).toInt = ((0 : Nat) : Int) then (re j).toInt else 0) n + pu_sum (fun j => if (gr j).toInt = ((1 : Nat) : Int) then (re j).toInt else 0) n + pu_sum (fun j => if (gr j).toInt = ((2 : Nat) : Int) then (re j).toInt else 0) n + pu_sum (fun j => if (gr j).toInt = ((3 : Nat) : Int) then (re j).toInt else 0) n = pu_sum (fun j => (re j).toInt) n
  | 0, _ => rfl
  | n + 1, h => by
    have ih := pu_four (gr := gr) (re := re) (n := n) (fun j hj => h j (by omega))
    have hn := h n (by omega)
    rw [pu_sum, pu_sum, pu_sum, pu_sum, pu_sum, ← ih]
    have hc : (gr n).toInt = 0 ∨ (gr n).toInt = 1 ∨ (gr n).toInt = 2 ∨ (gr n).toInt = 3 := by omega
    rcases hc with hc | hc | hc | hc <;> rw [hc] <;> simp <;> omega
theorem c_all {μ : ab_S} {b : ab_B} {Q : ab_Q} (l1 : μ.2 33 = 4) (hQ : Q (some (0 + μ.1 33 0 + μ.1 33 1 + μ.1 33 2 + μ.1 33 3)) μ) : gd_run 73 0 [some (.inr 7), none, none] [] μ b Q := by
  have a1 : (0 : Int32) + 1 = 1 := by decide
  have a2 : (1 : Int32) + 1 = 2 := by decide
  have a3 : (2 : Int32) + 1 = 3 := by decide
  have a4 : (3 : Int32) + 1 = 4 := by decide
  have v0 : vp_in 0 4 = True := q_in (a := 0) (by omega) (by omega)
  have v1 : vp_in 1 4 = True := q_in (a := 1) (by omega) (by omega)
  have v2 : vp_in 2 4 = True := q_in (a := 2) (by omega) (by omega)
  have v3 : vp_in 3 4 = True := q_in (a := 3) (by omega) (by omega)
  have c0 : (0 : Int32).toNatClampNeg = 0 := by decide
  have c1 : (1 : Int32).toNatClampNeg = 1 := by decide
  have c2 : (2 : Int32).toNatClampNeg = 2 := by decide
  have c3 : (3 : Int32).toNatClampNeg = 3 := by decide
  simp +decide only [s_73_0, s_73_1, s_73_2, s_73_3, s_73_5, s_73_6, s_73_9, s_73_10, s_73_11, s_73_14, s_73_15, s_73_16, s_73_17, s_73_18, s_73_21, s_73_24, s_73_25, b_res, b_resN, b_nm0, b_nm1, b_nm2, b_ns0, b_ns1, b_l0, b_l1, b_l2, b_l3, b_l4, b_l5, b_l6, Bool.true_and, Bool.and_true, cond_true, b01_0, b01_1, i10, true_and, and_true, true_or, or_true, u_rd, u_2, u_at, reduceIte, eq_self, not_true_eq_false, not_false_eq_true, false_imp_iff, true_imp_iff, forall_const, b_nm3_0, b_nm3_1, b_nm3_2, b_nm3_3, b_nm3_4, b_nm3_5, b_nm3_6, b_nm3_7, b_nm3_8, b_nm3_9, b_nm3_10, b_nm3_11, b_nm3_100, b_nm3_101, b_nm3_102, b_nm3_200, b_nm3_201, b_nm3_202, b_nm3_203, b_nm3_204, b_nm3_205, b_nm3_206, b_nm3_207, b_nm3_208, b_ns2_0, b_ns2_1, b_ns2_2, b_ns2_3, b_ns2_4, b_ns2_5, b_ns2_6, b_ns2_7, b_ns2_8, b_ns2_9, b_ns2_10, b_ns2_11]
  rw [s_73_4]
  simp +decide only [s_73_0, s_73_1, s_73_2, s_73_3, s_73_5, s_73_6, s_73_9, s_73_10, s_73_11, s_73_14, s_73_15, s_73_16, s_73_17, s_73_18, s_73_21, s_73_24, s_73_25, b_res, b_resN, b_nm0, b_nm1, b_nm2, b_ns0, b_ns1, b_l0, b_l1, b_l2, b_l3, b_l4, b_l5, b_l6, Bool.true_and, Bool.and_true, cond_true, b01_0, b01_1, i10, true_and, and_true, true_or, or_true, u_rd, u_2, u_at, reduceIte, eq_self, not_true_eq_false, not_false_eq_true, false_imp_iff, true_imp_iff, forall_const, b_nm3_0, b_nm3_1, b_nm3_2, b_nm3_3, b_nm3_4, b_nm3_5, b_nm3_6, b_nm3_7, b_nm3_8, b_nm3_9, b_nm3_10, b_nm3_11, b_nm3_100, b_nm3_101, b_nm3_102, b_nm3_200, b_nm3_201, b_nm3_202, b_nm3_203, b_nm3_204, b_nm3_205, b_nm3_206, b_nm3_207, b_nm3_208, b_ns2_0, b_ns2_1, b_ns2_2, b_ns2_3, b_ns2_4, b_ns2_5, b_ns2_6, b_ns2_7, b_ns2_8, b_ns2_9, b_ns2_10, b_ns2_11, l1, a1, v0, c0]
  rw [s_73_4]
  simp +decide only [s_73_0, s_73_1, s_73_2, s_73_3, s_73_5, s_73_6, s_73_9, s_73_10, s_73_11, s_73_14, s_73_15, s_73_16, s_73_17, s_73_18, s_73_21, s_73_24, s_73_25, b_res, b_resN, b_nm0, b_nm1, b_nm2, b_ns0, b_ns1, b_l0, b_l1, b_l2, b_l3, b_l4, b_l5, b_l6, Bool.true_and, Bool.and_true, cond_true, b01_0, b01_1, i10, true_and, and_true, true_or, or_true, u_rd, u_2, u_at, reduceIte, eq_self, not_true_eq_false, not_false_eq_true, false_imp_iff, true_imp_iff, forall_const, b_nm3_0, b_nm3_1, b_nm3_2, b_nm3_3, b_nm3_4, b_nm3_5, b_nm3_6, b_nm3_7, b_nm3_8, b_nm3_9, b_nm3_10, b_nm3_11, b_nm3_100, b_nm3_101, b_nm3_102, b_nm3_200, b_nm3_201, b_nm3_202, b_nm3_203, b_nm3_204, b_nm3_205, b_nm3_206, b_nm3_207, b_nm3_208, b_ns2_0, b_ns2_1, b_ns2_2, b_ns2_3, b_ns2_4, b_ns2_5, b_ns2_6, b_ns2_7, b_ns2_8, b_ns2_9, b_ns2_10, b_ns2_11, l1, a2, v1, c1]
  rw [s_73_4]
  simp +decide only [s_73_0, s_73_1, s_73_2, s_73_3, s_73_5, s_73_6, s_73_9, s_73_10, s_73_11, s_73_14, s_73_15, s_73_16, s_73_17, s_73_18, s_73_21, s_73_24, s_73_25, b_res, b_resN, b_nm0, b_nm1, b_nm2, b_ns0, b_ns1, b_l0, b_l1, b_l2, b_l3, b_l4, b_l5, b_l6, Bool.true_and, Bool.and_true, cond_true, b01_0, b01_1, i10, true_and, and_true, true_or, or_true, u_rd, u_2, u_at, reduceIte, eq_self, not_true_eq_false, not_false_eq_true, false_imp_iff, true_imp_iff, forall_const, b_nm3_0, b_nm3_1, b_nm3_2, b_nm3_3, b_nm3_4, b_nm3_5, b_nm3_6, b_nm3_7, b_nm3_8, b_nm3_9, b_nm3_10, b_nm3_11, b_nm3_100, b_nm3_101, b_nm3_102, b_nm3_200, b_nm3_201, b_nm3_202, b_nm3_203, b_nm3_204, b_nm3_205, b_nm3_206, b_nm3_207, b_nm3_208, b_ns2_0, b_ns2_1, b_ns2_2, b_ns2_3, b_ns2_4, b_ns2_5, b_ns2_6, b_ns2_7, b_ns2_8, b_ns2_9, b_ns2_10, b_ns2_11, l1, a3, v2, c2]
  rw [s_73_4]
  simp +decide only [s_73_0, s_73_1, s_73_2, s_73_3, s_73_5, s_73_6, s_73_9, s_73_10, s_73_11, s_73_14, s_73_15, s_73_16, s_73_17, s_73_18, s_73_21, s_73_24, s_73_25, b_res, b_resN, b_nm0, b_nm1, b_nm2, b_ns0, b_ns1, b_l0, b_l1, b_l2, b_l3, b_l4, b_l5, b_l6, Bool.true_and, Bool.and_true, cond_true, b01_0, b01_1, i10, true_and, and_true, true_or, or_true, u_rd, u_2, u_at, reduceIte, eq_self, not_true_eq_false, not_false_eq_true, false_imp_iff, true_imp_iff, forall_const, b_nm3_0, b_nm3_1, b_nm3_2, b_nm3_3, b_nm3_4, b_nm3_5, b_nm3_6, b_nm3_7, b_nm3_8, b_nm3_9, b_nm3_10, b_nm3_11, b_nm3_100, b_nm3_101, b_nm3_102, b_nm3_200, b_nm3_201, b_nm3_202, b_nm3_203, b_nm3_204, b_nm3_205, b_nm3_206, b_nm3_207, b_nm3_208, b_ns2_0, b_ns2_1, b_ns2_2, b_ns2_3, b_ns2_4, b_ns2_5, b_ns2_6, b_ns2_7, b_ns2_8, b_ns2_9, b_ns2_10, b_ns2_11, l1, a4, v3, c3]
  rw [s_73_4]
  simp +decide only [s_73_0, s_73_1, s_73_2, s_73_3, s_73_5, s_73_6, s_73_9, s_73_10, s_73_11, s_73_14, s_73_15, s_73_16, s_73_17, s_73_18, s_73_21, s_73_24, s_73_25, b_res, b_resN, b_nm0, b_nm1, b_nm2, b_ns0, b_ns1, b_l0, b_l1, b_l2, b_l3, b_l4, b_l5, b_l6, Bool.true_and, Bool.and_true, cond_true, b01_0, b01_1, i10, true_and, and_true, true_or, or_true, u_rd, u_2, u_at, reduceIte, eq_self, not_true_eq_false, not_false_eq_true, false_imp_iff, true_imp_iff, forall_const, b_nm3_0, b_nm3_1, b_nm3_2, b_nm3_3, b_nm3_4, b_nm3_5, b_nm3_6, b_nm3_7, b_nm3_8, b_nm3_9, b_nm3_10, b_nm3_11, b_nm3_100, b_nm3_101, b_nm3_102, b_nm3_200, b_nm3_201, b_nm3_202, b_nm3_203, b_nm3_204, b_nm3_205, b_nm3_206, b_nm3_207, b_nm3_208, b_ns2_0, b_ns2_1, b_ns2_2, b_ns2_3, b_ns2_4, b_ns2_5, b_ns2_6, b_ns2_7, b_ns2_8, b_ns2_9, b_ns2_10, b_ns2_11, l1]
  exact hQ
theorem m_all {μ : ab_S} {b : ab_B} {Q : ab_Q} {n : Nat} (hn : μ.1 11 18 = nI n) (hn2 : n ≤ 100) (l1 : μ.2 68 = 100) (hb : ∀ j, j < n → 0 ≤ (μ.1 68 j).toInt ∧ (μ.1 68 j).toInt ≤ 3000) (hQ : ∀ v : Int32, v.toInt = pu_sum (fun j => (μ.1 68 j).toInt) n → Q (some v) μ) : gd_run 160 0 [some (.inr 11), none, none] [] μ b Q := by
  have key : ∀ i, i ≤ n → ∀ acc : Int32, acc.toInt = pu_sum (fun j => (μ.1 68 j).toInt) i → gd_run 160 4 [some (.inr 11), some (.inl acc), some (.inl (nI i))] [] μ b Q := by
    refine lp_up (fun acc ha => ?_) (fun i hi ih acc ha => ?_)
    · have g4 : (nI n ≤ nI n) = True := eq_true (Int32.le_refl _)
      rw [s_160_4]
      simp +decide only [s_160_0, s_160_1, s_160_2, s_160_3, s_160_5, s_160_6, s_160_9, s_160_12, s_160_13, s_160_14, s_160_17, s_160_18, s_160_19, s_160_20, s_160_21, s_160_24, s_160_27, s_160_28, b_res, b_resN, b_nm0, b_nm1, b_nm2, b_ns0, b_ns1, b_l0, b_l1, b_l2, b_l3, b_l4, b_l5, b_l6, Bool.true_and, Bool.and_true, cond_true, b01_0, b01_1, i10, true_and, and_true, true_or, or_true, u_rd, u_2, u_at, reduceIte, eq_self, not_true_eq_false, not_false_eq_true, false_imp_iff, true_imp_iff, forall_const, b_nm3_0, b_nm3_1, b_nm3_2, b_nm3_3, b_nm3_4, b_nm3_5, b_nm3_6, b_nm3_7, b_nm3_8, b_nm3_9, b_nm3_10, b_nm3_11, b_nm3_100, b_nm3_101, b_nm3_102, b_nm3_200, b_nm3_201, b_nm3_202, b_nm3_203, b_nm3_204, b_nm3_205, b_nm3_206, b_nm3_207, b_nm3_208, b_ns2_0, b_ns2_1, b_ns2_2, b_ns2_3, b_ns2_4, b_ns2_5, b_ns2_6, b_ns2_7, b_ns2_8, b_ns2_9, b_ns2_10, b_ns2_11, hn, g4]
      exact hQ acc ha
    · have g4 : (nI n ≤ nI i) = False := q_nle (by omega) (by omega)
      have g5 : vp_in (nI i) 100 = True := q_in (by omega) (by omega)
      have e2 : (nI i).toNatClampNeg = i := nI_clamp (by omega)
      have hbi := hb i hi
      have hs := pu_le (f := fun j => (μ.1 68 j).toInt) (n := i) (fun j hj => hb j (by omega))
      rw [s_160_4]
      simp +decide only [s_160_0, s_160_1, s_160_2, s_160_3, s_160_5, s_160_6, s_160_9, s_160_12, s_160_13, s_160_14, s_160_17, s_160_18, s_160_19, s_160_20, s_160_21, s_160_24, s_160_27, s_160_28, b_res, b_resN, b_nm0, b_nm1, b_nm2, b_ns0, b_ns1, b_l0, b_l1, b_l2, b_l3, b_l4, b_l5, b_l6, Bool.true_and, Bool.and_true, cond_true, b01_0, b01_1, i10, true_and, and_true, true_or, or_true, u_rd, u_2, u_at, reduceIte, eq_self, not_true_eq_false, not_false_eq_true, false_imp_iff, true_imp_iff, forall_const, b_nm3_0, b_nm3_1, b_nm3_2, b_nm3_3, b_nm3_4, b_nm3_5, b_nm3_6, b_nm3_7, b_nm3_8, b_nm3_9, b_nm3_10, b_nm3_11, b_nm3_100, b_nm3_101, b_nm3_102, b_nm3_200, b_nm3_201, b_nm3_202, b_nm3_203, b_nm3_204, b_nm3_205, b_nm3_206, b_nm3_207, b_nm3_208, b_ns2_0, b_ns2_1, b_ns2_2, b_ns2_3, b_ns2_4, b_ns2_5, b_ns2_6, b_ns2_7, b_ns2_8, b_ns2_9, b_ns2_10, b_ns2_11, hn, l1, e2, g4, g5, nI_1]
      refine ih _ ?_
      rw [pu_sum, i_add (by omega) (by omega), ha]
  simp +decide only [s_160_0, s_160_1, s_160_2, s_160_3, s_160_5, s_160_6, s_160_9, s_160_12, s_160_13, s_160_14, s_160_17, s_160_18, s_160_19, s_160_20, s_160_21, s_160_24, s_160_27, s_160_28, b_res, b_resN, b_nm0, b_nm1, b_nm2, b_ns0, b_ns1, b_l0, b_l1, b_l2, b_l3, b_l4, b_l5, b_l6, Bool.true_and, Bool.and_true, cond_true, b01_0, b01_1, i10, true_and, and_true, true_or, or_true, u_rd, u_2, u_at, reduceIte, eq_self, not_true_eq_false, not_false_eq_true, false_imp_iff, true_imp_iff, forall_const, b_nm3_0, b_nm3_1, b_nm3_2, b_nm3_3, b_nm3_4, b_nm3_5, b_nm3_6, b_nm3_7, b_nm3_8, b_nm3_9, b_nm3_10, b_nm3_11, b_nm3_100, b_nm3_101, b_nm3_102, b_nm3_200, b_nm3_201, b_nm3_202, b_nm3_203, b_nm3_204, b_nm3_205, b_nm3_206, b_nm3_207, b_nm3_208, b_ns2_0, b_ns2_1, b_ns2_2, b_ns2_3, b_ns2_4, b_ns2_5, b_ns2_6, b_ns2_7, b_ns2_8, b_ns2_9, b_ns2_10, b_ns2_11]
  exact key 0 (by omega) 0 rfl
def x_count (a0 a1 a2 a3 a4 a5 : Nat) (all : Int) (lies : Nat → Int) (w : Int32) : Int := if w.toInt = 0 then a0 else if w.toInt = 1 then a1 else if w.toInt = 2 then a2 else if w.toInt = 3 then a3 else if w.toInt = 4 then a4 else if w.toInt = 5 then a5 else if w.toInt = 6 then all else if 10 ≤ w.toInt ∧ w.toInt ≤ 13 then lies (w.toInt.toNat - 10) else -1
theorem c_count {μ : ab_S} {w : Int32} {b : ab_B} {Q : ab_Q} {a0 a1 a2 a3 a4 a5 : Nat} {all : Int} {lies : Nat → Int} (h0 : μ.1 0 10 = nI a0) (h1 : μ.1 3 3 = nI a1) (h2 : μ.1 4 7 = nI a2) (h3 : μ.1 6 2 = nI a3) (h4 : μ.1 7 9 = nI a4) (h5 : μ.1 1 1 = nI a5) (hb : a0 < 2 ^ 31 ∧ a1 < 2 ^ 31 ∧ a2 < 2 ^ 31 ∧ a3 < 2 ^ 31 ∧ a4 < 2 ^ 31 ∧ a5 < 2 ^ 31) (l1 : μ.2 33 = 4) (ha : (0 + μ.1 33 0 + μ.1 33 1 + μ.1 33 2 + μ.1 33 3).toInt = all) (hg : ∀ g, g < 4 → (μ.1 33 g).toInt = lies g) (hQ : ∀ v : Int32, v.toInt = x_count a0 a1 a2 a3 a4 a5 all lies w → Q (some v) μ) : gd_run 114 0 [some (.inr 0), some (.inl w)] [] μ b Q := by
  obtain ⟨b0, b1, b2, b3, b4, b5⟩ := hb
  by_cases hr : 0 ≤ w.toInt ∧ w.toInt ≤ 13
  · obtain ⟨k, hk, rfl⟩ := i_of (n := 13) hr.1 hr.2 (by omega)
    have hc : k = 0 ∨ k = 1 ∨ k = 2 ∨ k = 3 ∨ k = 4 ∨ k = 5 ∨ k = 6 ∨ k = 7 ∨ k = 8 ∨ k = 9 ∨ k = 10 ∨ k = 11 ∨ k = 12 ∨ k = 13 := by omega
    rcases hc with rfl | rfl | rfl | rfl | rfl | rfl | rfl | rfl | rfl | rfl | rfl | rfl | rfl | rfl
    all_goals simp +decide only [s_114_0, s_114_1, s_114_44, s_114_45, s_114_48, s_114_49, s_114_50, s_114_53, s_114_56, s_114_57, s_114_58, s_114_61, s_114_64, s_114_65, s_114_66, s_114_69, s_114_72, s_114_73, s_114_74, s_114_77, s_114_80, s_114_81, s_114_82, s_114_85, s_114_88, s_114_89, s_114_90, s_114_93, s_114_96, s_114_97, s_114_98, s_114_100, s_114_103, s_114_104, s_114_106, s_114_109, s_114_110, s_114_113, s_114_114, s_114_116, s_114_117, s_114_120, s_114_123, s_114_124, s_6_0, s_6_1, s_6_4, s_43_0, s_43_1, s_43_4, s_0_0, s_0_1, s_0_4, s_69_0, s_69_1, s_69_4, s_81_0, s_81_1, s_81_4, s_72_0, s_72_1, s_72_4, s_72_7, s_72_8, s_72_11, s_72_12, s_72_13, s_72_16, s_72_17, s_121_0, s_121_1, s_121_4, s_121_5, s_121_6, s_121_9, s_121_10, s_121_13, s_121_14, b_res, b_resN, b_nm0, b_nm1, b_nm2, b_ns0, b_ns1, b_l0, b_l1, b_l2, b_l3, b_l4, b_l5, b_l6, Bool.true_and, Bool.and_true, cond_true, b01_0, b01_1, i10, true_and, and_true, true_or, or_true, u_rd, u_2, u_at, reduceIte, eq_self, not_true_eq_false, not_false_eq_true, false_imp_iff, true_imp_iff, forall_const, b_nm3_0, b_nm3_1, b_nm3_2, b_nm3_3, b_nm3_4, b_nm3_5, b_nm3_6, b_nm3_7, b_nm3_8, b_nm3_9, b_nm3_10, b_nm3_11, b_nm3_100, b_nm3_101, b_nm3_102, b_nm3_200, b_nm3_201, b_nm3_202, b_nm3_203, b_nm3_204, b_nm3_205, b_nm3_206, b_nm3_207, b_nm3_208, b_ns2_0, b_ns2_1, b_ns2_2, b_ns2_3, b_ns2_4, b_ns2_5, b_ns2_6, b_ns2_7, b_ns2_8, b_ns2_9, b_ns2_10, b_ns2_11, h0, h1, h2, h3, h4, h5, l1]
    · exact hQ _ (nI_toInt b0)
    · exact hQ _ (nI_toInt b1)
    · exact hQ _ (nI_toInt b2)
    · exact hQ _ (nI_toInt b3)
    · exact hQ _ (nI_toInt b4)
    · exact hQ _ (nI_toInt b5)
    · refine c_all l1 ?_
      simp +decide only [s_114_0, s_114_1, s_114_44, s_114_45, s_114_48, s_114_49, s_114_50, s_114_53, s_114_56, s_114_57, s_114_58, s_114_61, s_114_64, s_114_65, s_114_66, s_114_69, s_114_72, s_114_73, s_114_74, s_114_77, s_114_80, s_114_81, s_114_82, s_114_85, s_114_88, s_114_89, s_114_90, s_114_93, s_114_96, s_114_97, s_114_98, s_114_100, s_114_103, s_114_104, s_114_106, s_114_109, s_114_110, s_114_113, s_114_114, s_114_116, s_114_117, s_114_120, s_114_123, s_114_124, b_res, b_resN, b_nm0, b_nm1, b_nm2, b_ns0, b_ns1, b_l0, b_l1, b_l2, b_l3, b_l4, b_l5, b_l6, Bool.true_and, Bool.and_true, cond_true, b01_0, b01_1, i10, true_and, and_true, true_or, or_true, u_rd, u_2, u_at, reduceIte, eq_self, not_true_eq_false, not_false_eq_true, false_imp_iff, true_imp_iff, forall_const, b_nm3_0, b_nm3_1, b_nm3_2, b_nm3_3, b_nm3_4, b_nm3_5, b_nm3_6, b_nm3_7, b_nm3_8, b_nm3_9, b_nm3_10, b_nm3_11, b_nm3_100, b_nm3_101, b_nm3_102, b_nm3_200, b_nm3_201, b_nm3_202, b_nm3_203, b_nm3_204, b_nm3_205, b_nm3_206, b_nm3_207, b_nm3_208, b_ns2_0, b_ns2_1, b_ns2_2, b_ns2_3, b_ns2_4, b_ns2_5, b_ns2_6, b_ns2_7, b_ns2_8, b_ns2_9, b_ns2_10, b_ns2_11]
      exact hQ _ ha
    · exact hQ _ rfl
    · exact hQ _ rfl
    · exact hQ _ rfl
    · exact ⟨v_in (by decide) (by decide), hQ _ (hg 0 (by omega))⟩
    · exact ⟨v_in (by decide) (by decide), hQ _ (hg 1 (by omega))⟩
    · exact ⟨v_in (by decide) (by decide), hQ _ (hg 2 (by omega))⟩
    · exact ⟨v_in (by decide) (by decide), hQ _ (hg 3 (by omega))⟩
  · have hQ1 : Q (some (-1)) μ := hQ _ (by unfold x_count; (repeat' split) <;> first | rfl | (exfalso; omega))
    have k14 : (14 : Int32).toInt = 14 := by decide
    simp +decide only [s_114_0, s_114_1, s_114_44, s_114_45, s_114_48, s_114_49, s_114_50, s_114_53, s_114_56, s_114_57, s_114_58, s_114_61, s_114_64, s_114_65, s_114_66, s_114_69, s_114_72, s_114_73, s_114_74, s_114_77, s_114_80, s_114_81, s_114_82, s_114_85, s_114_88, s_114_89, s_114_90, s_114_93, s_114_96, s_114_97, s_114_98, s_114_100, s_114_103, s_114_104, s_114_106, s_114_109, s_114_110, s_114_113, s_114_114, s_114_116, s_114_117, s_114_120, s_114_123, s_114_124, s_6_0, s_6_1, s_6_4, s_43_0, s_43_1, s_43_4, s_0_0, s_0_1, s_0_4, s_69_0, s_69_1, s_69_4, s_81_0, s_81_1, s_81_4, s_72_0, s_72_1, s_72_4, s_72_7, s_72_8, s_72_11, s_72_12, s_72_13, s_72_16, s_72_17, s_121_0, s_121_1, s_121_4, s_121_5, s_121_6, s_121_9, s_121_10, s_121_13, s_121_14, b_res, b_resN, b_nm0, b_nm1, b_nm2, b_ns0, b_ns1, b_l0, b_l1, b_l2, b_l3, b_l4, b_l5, b_l6, Bool.true_and, Bool.and_true, cond_true, b01_0, b01_1, i10, true_and, and_true, true_or, or_true, u_rd, u_2, u_at, reduceIte, eq_self, not_true_eq_false, not_false_eq_true, false_imp_iff, true_imp_iff, forall_const, b_nm3_0, b_nm3_1, b_nm3_2, b_nm3_3, b_nm3_4, b_nm3_5, b_nm3_6, b_nm3_7, b_nm3_8, b_nm3_9, b_nm3_10, b_nm3_11, b_nm3_100, b_nm3_101, b_nm3_102, b_nm3_200, b_nm3_201, b_nm3_202, b_nm3_203, b_nm3_204, b_nm3_205, b_nm3_206, b_nm3_207, b_nm3_208, b_ns2_0, b_ns2_1, b_ns2_2, b_ns2_3, b_ns2_4, b_ns2_5, b_ns2_6, b_ns2_7, b_ns2_8, b_ns2_9, b_ns2_10, b_ns2_11]
    simp only [i_lt, i_le, kI_m2, kI_m1, kI_0, kI_1, kI_2, kI_3, kI_4, kI_5, kI_6, kI_7, kI_8, kI_9, kI_10, kI_11, kI_12, kI_13, kI_14, kI_15, kI_16, kI_19, kI_20, kI_24, kI_29, kI_30, kI_31, kI_32, kI_48, kI_50, kI_57, kI_58, kI_59, kI_60, kI_97, kI_99, kI_100, kI_119, kI_120, kI_122, kI_149, kI_150, kI_199, kI_200, kI_255, kI_1000, kI_3000, kI_3700, kI_5000, k14]
    repeat' first | exact hQ1 | (exfalso; omega) | apply And.intro | intro _
theorem m_count {μ : ab_S} {w : Int32} {b : ab_B} {Q : ab_Q} {a0 a1 a2 a3 a4 a5 : Nat} {all : Int} {lies : Nat → Int} (h0 : μ.1 11 0 = nI a0) (h1 : μ.1 11 3 = nI a1) (h2 : μ.1 11 7 = nI a2) (h3 : μ.1 11 14 = nI a3) (h4 : μ.1 11 18 = nI a4) (h5 : μ.1 11 2 = nI a5) (hb : a0 < 2 ^ 31 ∧ a1 < 2 ^ 31 ∧ a2 < 2 ^ 31 ∧ a3 < 2 ^ 31 ∧ a4 ≤ 100 ∧ a5 < 2 ^ 31) (l1 : μ.2 68 = 100) (l2 : μ.2 65 = 100) (hbd : ∀ j, j < a4 → 0 ≤ (μ.1 68 j).toInt ∧ (μ.1 68 j).toInt ≤ 3000) (ha : pu_sum (fun j => (μ.1 68 j).toInt) a4 = all) (hg : ∀ g : Nat, g < 4 → pu_sum (fun j => if (μ.1 65 j).toInt = g then (μ.1 68 j).toInt else 0) a4 = lies g) (hQ : ∀ v : Int32, v.toInt = x_count a0 a1 a2 a3 a4 a5 all lies w → Q (some v) μ) : gd_run 168 0 [some (.inr 11), some (.inl w)] [] μ b Q := by
  obtain ⟨b0, b1, b2, b3, b4, b5⟩ := hb
  by_cases hr : 0 ≤ w.toInt ∧ w.toInt ≤ 13
  · obtain ⟨k, hk, rfl⟩ := i_of (n := 13) hr.1 hr.2 (by omega)
    have hc : k = 0 ∨ k = 1 ∨ k = 2 ∨ k = 3 ∨ k = 4 ∨ k = 5 ∨ k = 6 ∨ k = 7 ∨ k = 8 ∨ k = 9 ∨ k = 10 ∨ k = 11 ∨ k = 12 ∨ k = 13 := by omega
    rcases hc with rfl | rfl | rfl | rfl | rfl | rfl | rfl | rfl | rfl | rfl | rfl | rfl | rfl | rfl
    all_goals simp +decide only [s_168_0, s_168_1, s_168_44, s_168_45, s_168_48, s_168_49, s_168_50, s_168_53, s_168_54, s_168_55, s_168_58, s_168_59, s_168_60, s_168_63, s_168_64, s_168_65, s_168_68, s_168_69, s_168_70, s_168_73, s_168_74, s_168_75, s_168_78, s_168_79, s_168_80, s_168_82, s_168_84, s_168_87, s_168_90, s_168_91, s_168_92, s_168_94, s_168_95, s_168_98, s_168_101, s_168_102, s_124_0, s_124_1, s_124_2, s_124_5, s_124_6, s_124_7, s_124_10, s_124_11, s_124_14, s_124_15, b_res, b_resN, b_nm0, b_nm1, b_nm2, b_ns0, b_ns1, b_l0, b_l1, b_l2, b_l3, b_l4, b_l5, b_l6, Bool.true_and, Bool.and_true, cond_true, b01_0, b01_1, i10, true_and, and_true, true_or, or_true, u_rd, u_2, u_at, reduceIte, eq_self, not_true_eq_false, not_false_eq_true, false_imp_iff, true_imp_iff, forall_const, b_nm3_0, b_nm3_1, b_nm3_2, b_nm3_3, b_nm3_4, b_nm3_5, b_nm3_6, b_nm3_7, b_nm3_8, b_nm3_9, b_nm3_10, b_nm3_11, b_nm3_100, b_nm3_101, b_nm3_102, b_nm3_200, b_nm3_201, b_nm3_202, b_nm3_203, b_nm3_204, b_nm3_205, b_nm3_206, b_nm3_207, b_nm3_208, b_ns2_0, b_ns2_1, b_ns2_2, b_ns2_3, b_ns2_4, b_ns2_5, b_ns2_6, b_ns2_7, b_ns2_8, b_ns2_9, b_ns2_10, b_ns2_11, h0, h1, h2, h3, h4, h5, l1]
    · exact hQ _ (nI_toInt b0)
    · exact hQ _ (nI_toInt b1)
    · exact hQ _ (nI_toInt b2)
    · exact hQ _ (nI_toInt b3)
    · exact hQ _ (nI_toInt (by omega))
    · exact hQ _ (nI_toInt b5)
    · refine m_all h4 b4 l1 hbd (fun v hv => ?_)
      simp +decide only [s_168_0, s_168_1, s_168_44, s_168_45, s_168_48, s_168_49, s_168_50, s_168_53, s_168_54, s_168_55, s_168_58, s_168_59, s_168_60, s_168_63, s_168_64, s_168_65, s_168_68, s_168_69, s_168_70, s_168_73, s_168_74, s_168_75, s_168_78, s_168_79, s_168_80, s_168_82, s_168_84, s_168_87, s_168_90, s_168_91, s_168_92, s_168_94, s_168_95, s_168_98, s_168_101, s_168_102, b_res, b_resN, b_nm0, b_nm1, b_nm2, b_ns0, b_ns1, b_l0, b_l1, b_l2, b_l3, b_l4, b_l5, b_l6, Bool.true_and, Bool.and_true, cond_true, b01_0, b01_1, i10, true_and, and_true, true_or, or_true, u_rd, u_2, u_at, reduceIte, eq_self, not_true_eq_false, not_false_eq_true, false_imp_iff, true_imp_iff, forall_const, b_nm3_0, b_nm3_1, b_nm3_2, b_nm3_3, b_nm3_4, b_nm3_5, b_nm3_6, b_nm3_7, b_nm3_8, b_nm3_9, b_nm3_10, b_nm3_11, b_nm3_100, b_nm3_101, b_nm3_102, b_nm3_200, b_nm3_201, b_nm3_202, b_nm3_203, b_nm3_204, b_nm3_205, b_nm3_206, b_nm3_207, b_nm3_208, b_ns2_0, b_ns2_1, b_ns2_2, b_ns2_3, b_ns2_4, b_ns2_5, b_ns2_6, b_ns2_7, b_ns2_8, b_ns2_9, b_ns2_10, b_ns2_11]
      exact hQ _ (hv.trans ha)
    · exact hQ _ rfl
    · exact hQ _ rfl
    · exact hQ _ rfl
    all_goals refine m_lies h4 b4 l2 l1 hbd (fun v hv => ?_)
    all_goals simp +decide only [s_168_0, s_168_1, s_168_44, s_168_45, s_168_48, s_168_49, s_168_50, s_168_53, s_168_54, s_168_55, s_168_58, s_168_59, s_168_60, s_168_63, s_168_64, s_168_65, s_168_68, s_168_69, s_168_70, s_168_73, s_168_74, s_168_75, s_168_78, s_168_79, s_168_80, s_168_82, s_168_84, s_168_87, s_168_90, s_168_91, s_168_92, s_168_94, s_168_95, s_168_98, s_168_101, s_168_102, b_res, b_resN, b_nm0, b_nm1, b_nm2, b_ns0, b_ns1, b_l0, b_l1, b_l2, b_l3, b_l4, b_l5, b_l6, Bool.true_and, Bool.and_true, cond_true, b01_0, b01_1, i10, true_and, and_true, true_or, or_true, u_rd, u_2, u_at, reduceIte, eq_self, not_true_eq_false, not_false_eq_true, false_imp_iff, true_imp_iff, forall_const, b_nm3_0, b_nm3_1, b_nm3_2, b_nm3_3, b_nm3_4, b_nm3_5, b_nm3_6, b_nm3_7, b_nm3_8, b_nm3_9, b_nm3_10, b_nm3_11, b_nm3_100, b_nm3_101, b_nm3_102, b_nm3_200, b_nm3_201, b_nm3_202, b_nm3_203, b_nm3_204, b_nm3_205, b_nm3_206, b_nm3_207, b_nm3_208, b_ns2_0, b_ns2_1, b_ns2_2, b_ns2_3, b_ns2_4, b_ns2_5, b_ns2_6, b_ns2_7, b_ns2_8, b_ns2_9, b_ns2_10, b_ns2_11]
    · exact hQ _ (hv.trans (hg 0 (by omega)))
    · exact hQ _ (hv.trans (hg 1 (by omega)))
    · exact hQ _ (hv.trans (hg 2 (by omega)))
    · exact hQ _ (hv.trans (hg 3 (by omega)))
  · have hQ1 : Q (some (-1)) μ := hQ _ (by unfold x_count; (repeat' split) <;> first | rfl | (exfalso; omega))
    simp +decide only [s_168_0, s_168_1, s_168_44, s_168_45, s_168_48, s_168_49, s_168_50, s_168_53, s_168_54, s_168_55, s_168_58, s_168_59, s_168_60, s_168_63, s_168_64, s_168_65, s_168_68, s_168_69, s_168_70, s_168_73, s_168_74, s_168_75, s_168_78, s_168_79, s_168_80, s_168_82, s_168_84, s_168_87, s_168_90, s_168_91, s_168_92, s_168_94, s_168_95, s_168_98, s_168_101, s_168_102, s_124_0, s_124_1, s_124_2, s_124_5, s_124_6, s_124_7, s_124_10, s_124_11, s_124_14, s_124_15, b_res, b_resN, b_nm0, b_nm1, b_nm2, b_ns0, b_ns1, b_l0, b_l1, b_l2, b_l3, b_l4, b_l5, b_l6, Bool.true_and, Bool.and_true, cond_true, b01_0, b01_1, i10, true_and, and_true, true_or, or_true, u_rd, u_2, u_at, reduceIte, eq_self, not_true_eq_false, not_false_eq_true, false_imp_iff, true_imp_iff, forall_const, b_nm3_0, b_nm3_1, b_nm3_2, b_nm3_3, b_nm3_4, b_nm3_5, b_nm3_6, b_nm3_7, b_nm3_8, b_nm3_9, b_nm3_10, b_nm3_11, b_nm3_100, b_nm3_101, b_nm3_102, b_nm3_200, b_nm3_201, b_nm3_202, b_nm3_203, b_nm3_204, b_nm3_205, b_nm3_206, b_nm3_207, b_nm3_208, b_ns2_0, b_ns2_1, b_ns2_2, b_ns2_3, b_ns2_4, b_ns2_5, b_ns2_6, b_ns2_7, b_ns2_8, b_ns2_9, b_ns2_10, b_ns2_11]
    simp only [i_lt, i_le, kI_m2, kI_m1, kI_0, kI_1, kI_2, kI_3, kI_4, kI_5, kI_6, kI_7, kI_8, kI_9, kI_10, kI_11, kI_12, kI_13, kI_14, kI_15, kI_16, kI_19, kI_20, kI_24, kI_29, kI_30, kI_31, kI_32, kI_48, kI_50, kI_57, kI_58, kI_59, kI_60, kI_97, kI_99, kI_100, kI_119, kI_120, kI_122, kI_149, kI_150, kI_199, kI_200, kI_255, kI_1000, kI_3000, kI_3700, kI_5000]
    repeat' first | exact hQ1 | (exfalso; omega) | apply And.intro | intro _
-- what lies there: both sides
theorem st_all {T : Nat} {sz sz' : Int32} {rooms lying sh gr mo la re th da room' sh' gr' mo' la' re' th' da' : Nat → Int32} (h : R_stores T sz rooms lying sh gr mo la re th da sz' room' sh' gr' mo' la' re' th' da') : ∃ n : Nat, n ≤ 100 ∧ sz = nI n ∧ sz' = nI n ∧ (∀ j, j < n → 0 ≤ (re' j).toInt ∧ (re' j).toInt ≤ 3000) ∧ (∀ g : Nat, g < 4 → pu_sum (fun j => if (gr' j).toInt = g then (re' j).toInt else 0) n = (lying g).toInt ∧ 0 ≤ (lying g).toInt ∧ (lying g).toInt ≤ (rooms g).toInt ∧ (rooms g).toInt ≤ 5000) ∧ (0 + lying 0 + lying 1 + lying 2 + lying 3).toInt = (lying 0).toInt + (lying 1).toInt + (lying 2).toInt + (lying 3).toInt ∧ pu_sum (fun j => (re' j).toInt) n = (lying 0).toInt + (lying 1).toInt + (lying 2).toInt + (lying 3).toInt := by
  obtain ⟨n, hn2, hn, hn', hg, hj⟩ := h
  have hb : ∀ j, j < n → 0 ≤ (re' j).toInt ∧ (re' j).toInt ≤ 3000 := fun j hjn => by
    obtain ⟨g0, g1, g2, g3, g4, g5, g6, q1, q2, q3, q4, q5, q6, q7, q8, q9, q10⟩ := hj j hjn
    rw [← g4]
    omega
  have hs : ∀ g : Nat, g < 4 → pu_sum (fun j => if (gr' j).toInt = g then (re' j).toInt else 0) n = (lying g).toInt ∧ 0 ≤ (lying g).toInt ∧ (lying g).toInt ≤ (rooms g).toInt ∧ (rooms g).toInt ≤ 5000 := fun g hg4 => by
    obtain ⟨r1, r2, r3, r4⟩ := hg g hg4
    have e : pu_sum (fun j => if (gr' j).toInt = g then (re' j).toInt else 0) n = (lying g).toInt := by
      rw [r3]
      refine pu_cong (fun j hjn => ?_)
      obtain ⟨g0, g1, g2, g3, g4, -⟩ := hj j hjn
      rw [g1, g4]
    refine ⟨e, ?_, r4, r2⟩
    rw [← e]
    exact (pu_le (fun j hjn => by
      have := hb j hjn
      split <;> omega)).1
  obtain ⟨s0, a0, b0, c0⟩ := hs 0 (by omega)
  obtain ⟨s1, a1, b1, c1⟩ := hs 1 (by omega)
  obtain ⟨s2, a2, b2, c2⟩ := hs 2 (by omega)
  obtain ⟨s3, a3, b3, c3⟩ := hs 3 (by omega)
  refine ⟨n, hn2, hn, hn', hb, hs, ?_, ?_⟩
  · have z : (0 : Int32).toInt = 0 := by decide
    have w1 : (0 + lying 0).toInt = (lying 0).toInt := by rw [i_add (by omega) (by omega)]; omega
    have w2 : (0 + lying 0 + lying 1).toInt = (lying 0).toInt + (lying 1).toInt := by rw [i_add (by omega) (by omega)]; omega
    have w3 : (0 + lying 0 + lying 1 + lying 2).toInt = (lying 0).toInt + (lying 1).toInt + (lying 2).toInt := by rw [i_add (by omega) (by omega)]; omega
    rw [i_add (by omega) (by omega)]
    omega
  · rw [← pu_four (gr := gr') (fun j hjn => ?_), s0, s1, s2, s3]
    obtain ⟨g0, g1, g2, g3, g4, g5, g6, q1, q2, q3, -⟩ := hj j hjn
    rw [← g1]
    omega
theorem sim_count {T : Nat} {μ : ab_S} (w : Int32) (h : gd_rel T μ) : lw_sim1 gd_rel 114 168 T (0, 0) [w] μ := by
  have h0 := h
  obtain ⟨hT2, hT, hT', L, hL, hl, h1, h2, h3, h4, h5, h6, h7⟩ := h
  obtain ⟨n, hn2, hn, hn', hb, hs, ha, ha'⟩ := st_all h5
  obtain ⟨n1, b1, c1, d1, -⟩ := h1
  obtain ⟨n2, b2, c2, d2, -⟩ := h2
  obtain ⟨n3, b3, c3, d3, -⟩ := h3
  obtain ⟨n4, b4, c4, d4, -⟩ := h4
  show gd_run 114 0 [some (.inr 0), some (.inl w)] [] μ (0, 0) _
  refine c_count (lies := fun g => (μ.1 33 g).toInt) hT c2 c3 c4 hn c1 (by omega) (by rw [hl]; rfl) ha (fun g hg => rfl) (fun v hv => ⟨v, rfl, ?_⟩)
  show gd_run 168 0 [some (.inr 11), some (.inl w)] [] μ (0, 0) _
  refine m_count (lies := fun g => (μ.1 33 g).toInt) hT' d2 d3 d4 hn' d1 (by omega) (by rw [hl]; rfl) (by rw [hl]; rfl) hb ha' (fun g hg => (hs g hg).1) (fun v' hv' => ⟨?_, h0⟩)
  rw [Option.some.injEq, i_eq, hv', hv]
