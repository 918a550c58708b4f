def lw_val (val : Nat → Nat → Int32) (p : Option Nat) (w : Nat) : Int32 := match p with
  | none => gd_t100.getD w 0
  | some q => val q w
theorem c_value {μ : ab_S} {b : ab_B} {Q : ab_Q} {n w : Nat} {p : Option Nat} (hn : μ.1 3 3 = nI n) (hn2 : n ≤ 8) (l1 : μ.2 15 = 80) (hp : ∀ q, p = some q → q < n) (hw : w < 10) (hQ : Q (some (lw_val (fun q w => μ.1 15 (10 * q + w)) p w)) μ) : gd_run 10 0 [some (.inr 3), some (.inl (bI p)), some (.inl (nI w))] [] μ b Q := by
  have e1 : (nI w).toNatClampNeg = w := nI_clamp (by omega)
  have t1 : (nI w).toInt = (w : Int) := nI_toInt (by omega)
  have t2 : (nI n).toInt = (n : Int) := nI_toInt (by omega)
  cases p with
  | none =>
    have e2 : bI none = -1 := rfl
    have t3 : (bI none).toInt = -1 := by rw [e2]; exact kI_m1
    simp +decide only [s_10_0, s_10_1, s_10_4, s_10_5, s_10_7, s_10_10, s_10_11, s_10_12, s_10_13, s_10_16, s_10_17, s_10_18, s_10_21, s_10_24, s_10_25, s_10_28, s_10_29, s_10_31, s_10_32, s_10_33, s_10_34, s_10_35, s_10_38, s_10_41, s_10_42, s_10_43, b_res, b_resN, b_nm0, b_nm1, b_nm2, b_ns0, b_ns1, b_l0, b_l1, b_l2, b_l3, b_l4, b_l5, b_l6, Bool.true_and, Bool.and_true, cond_true, b01_0, b01_1, i10, true_and, and_true, true_or, or_true, u_rd, u_2, u_at, reduceIte, eq_self, not_true_eq_false, not_false_eq_true, false_imp_iff, true_imp_iff, forall_const, b_nm3_0, b_nm3_1, b_nm3_2, b_nm3_3, b_nm3_4, b_nm3_5, b_nm3_6, b_nm3_7, b_nm3_8, b_nm3_9, b_nm3_10, b_nm3_11, b_nm3_100, b_nm3_101, b_nm3_102, b_nm3_200, b_nm3_201, b_nm3_202, b_nm3_203, b_nm3_204, b_nm3_205, b_nm3_206, b_nm3_207, b_nm3_208, b_ns2_0, b_ns2_1, b_ns2_2, b_ns2_3, b_ns2_4, b_ns2_5, b_ns2_6, b_ns2_7, b_ns2_8, b_ns2_9, b_ns2_10, b_ns2_11, hn, l1, e1]
    simp only [i_lt, i_le, kI_m1, kI_0, kI_1, kI_2, kI_3, kI_4, kI_5, kI_6, kI_7, kI_8, kI_9, kI_10, kI_12, kI_13, kI_19, kI_20, kI_24, kI_29, kI_30, kI_31, kI_32, kI_48, kI_57, kI_59, kI_60, kI_97, kI_99, kI_100, kI_119, kI_120, kI_122, kI_149, kI_150, kI_199, kI_200, kI_255, kI_1000, kI_3000, kI_3700, kI_5000, t1, t2, t3]
    repeat' first | exact hQ | exact v_nI (by omega) (by omega) | (exfalso; omega) | apply And.intro | intro _
  | some q =>
    have hq := hp q rfl
    have e2 : bI (some q) = nI q := rfl
    have t3 : (nI q).toInt = (q : Int) := nI_toInt (by omega)
    have e3 : nI q * 10 + nI w = nI (10 * q + w) := by
      rw [show (10 : Int32) = nI 10 from rfl, pk_mul, nI_add, Nat.mul_comm]
    have e4 : (nI (10 * q + w)).toNatClampNeg = 10 * q + w := nI_clamp (by omega)
    simp +decide only [s_10_0, s_10_1, s_10_4, s_10_5, s_10_7, s_10_10, s_10_11, s_10_12, s_10_13, s_10_16, s_10_17, s_10_18, s_10_21, s_10_24, s_10_25, s_10_28, s_10_29, s_10_31, s_10_32, s_10_33, s_10_34, s_10_35, s_10_38, s_10_41, s_10_42, s_10_43, b_res, b_resN, b_nm0, b_nm1, b_nm2, b_ns0, b_ns1, b_l0, b_l1, b_l2, b_l3, b_l4, b_l5, b_l6, Bool.true_and, Bool.and_true, cond_true, b01_0, b01_1, i10, true_and, and_true, true_or, or_true, u_rd, u_2, u_at, reduceIte, eq_self, not_true_eq_false, not_false_eq_true, false_imp_iff, true_imp_iff, forall_const, b_nm3_0, b_nm3_1, b_nm3_2, b_nm3_3, b_nm3_4, b_nm3_5, b_nm3_6, b_nm3_7, b_nm3_8, b_nm3_9, b_nm3_10, b_nm3_11, b_nm3_100, b_nm3_101, b_nm3_102, b_nm3_200, b_nm3_201, b_nm3_202, b_nm3_203, b_nm3_204, b_nm3_205, b_nm3_206, b_nm3_207, b_nm3_208, b_ns2_0, b_ns2_1, b_ns2_2, b_ns2_3, b_ns2_4, b_ns2_5, b_ns2_6, b_ns2_7, b_ns2_8, b_ns2_9, b_ns2_10, b_ns2_11, hn, l1, e1, e2, e3, e4]
    simp only [i_lt, i_le, kI_m1, kI_0, kI_1, kI_2, kI_3, kI_4, kI_5, kI_6, kI_7, kI_8, kI_9, kI_10, kI_12, kI_13, kI_19, kI_20, kI_24, kI_29, kI_30, kI_31, kI_32, kI_48, kI_57, kI_59, kI_60, kI_97, kI_99, kI_100, kI_119, kI_120, kI_122, kI_149, kI_150, kI_199, kI_200, kI_255, kI_1000, kI_3000, kI_3700, kI_5000, t1, t2, t3]
    repeat' first | exact hQ | exact v_nI (by omega) (by omega) | (exfalso; omega) | apply And.intro | intro _
theorem m_lawNumberOf {μ : ab_S} {month known : Int32} {b : ab_B} {Q : ab_Q} {n w : Nat} (hn : μ.1 11 3 = nI n) (hn2 : n ≤ 8) (l1 : μ.2 52 = 9) (l2 : μ.2 53 = 9) (l3 : μ.2 54 = 108) (hw : w < 10) (hQ : Q (some (lw_val (fun q w => μ.1 54 (12 * q + w)) (lw_best (μ.1 52) (μ.1 53) month known n) w)) μ) : gd_run 139 0 [some (.inr 11), some (.inl month), some (.inl known), some (.inl (nI w)), none] [] μ b Q := by
  have t1 : (nI w).toInt = (w : Int) := nI_toInt (by omega)
  simp +decide only [s_139_0, s_139_1, s_139_2, s_139_3, s_139_6, s_139_8, s_139_10, s_139_13, s_139_14, s_139_17, s_139_19, s_139_21, s_139_22, s_139_23, s_139_24, s_139_25, s_139_26, s_139_27, s_139_30, s_139_31, s_139_34, s_139_35, s_139_36, s_139_39, s_139_41, s_139_44, s_139_45, s_139_46, s_139_49, s_139_51, s_139_54, s_139_55, s_139_56, s_139_59, s_139_60, s_139_62, s_139_65, s_139_67, s_139_70, s_139_71, b_res, b_resN, b_nm0, b_nm1, b_nm2, b_ns0, b_ns1, b_l0, b_l1, b_l2, b_l3, b_l4, b_l5, b_l6, Bool.true_and, Bool.and_true, cond_true, b01_0, b01_1, i10, true_and, and_true, true_or, or_true, u_rd, u_2, u_at, reduceIte, eq_self, not_true_eq_false, not_false_eq_true, false_imp_iff, true_imp_iff, forall_const, b_nm3_0, b_nm3_1, b_nm3_2, b_nm3_3, b_nm3_4, b_nm3_5, b_nm3_6, b_nm3_7, b_nm3_8, b_nm3_9, b_nm3_10, b_nm3_11, b_nm3_100, b_nm3_101, b_nm3_102, b_nm3_200, b_nm3_201, b_nm3_202, b_nm3_203, b_nm3_204, b_nm3_205, b_nm3_206, b_nm3_207, b_nm3_208, b_ns2_0, b_ns2_1, b_ns2_2, b_ns2_3, b_ns2_4, b_ns2_5, b_ns2_6, b_ns2_7, b_ns2_8, b_ns2_9, b_ns2_10, b_ns2_11]
  refine m_lawOf hn hn2 l1 l2 ?_
  cases hp : lw_best (μ.1 52) (μ.1 53) month known n with
  | none =>
    rw [hp] at hQ
    have e2 : bI none = -1 := rfl
    simp +decide only [s_139_0, s_139_1, s_139_2, s_139_3, s_139_6, s_139_8, s_139_10, s_139_13, s_139_14, s_139_17, s_139_19, s_139_21, s_139_22, s_139_23, s_139_24, s_139_25, s_139_26, s_139_27, s_139_30, s_139_31, s_139_34, s_139_35, s_139_36, s_139_39, s_139_41, s_139_44, s_139_45, s_139_46, s_139_49, s_139_51, s_139_54, s_139_55, s_139_56, s_139_59, s_139_60, s_139_62, s_139_65, s_139_67, s_139_70, s_139_71, b_res, b_resN, b_nm0, b_nm1, b_nm2, b_ns0, b_ns1, b_l0, b_l1, b_l2, b_l3, b_l4, b_l5, b_l6, Bool.true_and, Bool.and_true, cond_true, b01_0, b01_1, i10, true_and, and_true, true_or, or_true, u_rd, u_2, u_at, reduceIte, eq_self, not_true_eq_false, not_false_eq_true, false_imp_iff, true_imp_iff, forall_const, b_nm3_0, b_nm3_1, b_nm3_2, b_nm3_3, b_nm3_4, b_nm3_5, b_nm3_6, b_nm3_7, b_nm3_8, b_nm3_9, b_nm3_10, b_nm3_11, b_nm3_100, b_nm3_101, b_nm3_102, b_nm3_200, b_nm3_201, b_nm3_202, b_nm3_203, b_nm3_204, b_nm3_205, b_nm3_206, b_nm3_207, b_nm3_208, b_ns2_0, b_ns2_1, b_ns2_2, b_ns2_3, b_ns2_4, b_ns2_5, b_ns2_6, b_ns2_7, b_ns2_8, b_ns2_9, b_ns2_10, b_ns2_11, e2]
    have hc : w = 0 ∨ w = 1 ∨ w = 2 ∨ w = 3 ∨ w = 4 ∨ w = 5 ∨ w = 6 ∨ w = 7 ∨ w = 8 ∨ w = 9 := by omega
    rcases hc with rfl | rfl | rfl | rfl | rfl | rfl | rfl | rfl | rfl | rfl <;> simp only [i_eq, i_lt, i_le, kI_m1, kI_0, kI_1, kI_2, kI_3, kI_4, kI_5, kI_6, kI_7, kI_8, kI_9, kI_10, kI_12, kI_13, kI_19, kI_20, kI_24, kI_29, kI_30, kI_31, kI_32, kI_48, kI_57, kI_59, kI_60, kI_97, kI_99, kI_100, kI_119, kI_120, kI_122, kI_149, kI_150, kI_199, kI_200, kI_255, kI_1000, kI_3000, kI_3700, kI_5000, t1] <;> repeat' first | exact hQ | (exfalso; omega) | apply And.intro | intro _
  | some q =>
    rw [hp] at hQ
    have hq := lw_best_lt _ _ _ _ _ _ hp
    have e2 : bI (some q) = nI q := rfl
    have t3 : (nI q).toInt = (q : Int) := nI_toInt (by omega)
    have e3 : 12 * nI q + nI w = nI (12 * q + w) := by
      rw [show (12 : Int32) = nI 12 from rfl, pk_mul, nI_add]
    have e4 : (nI (12 * q + w)).toNatClampNeg = 12 * q + w := nI_clamp (by omega)
    simp +decide only [s_139_0, s_139_1, s_139_2, s_139_3, s_139_6, s_139_8, s_139_10, s_139_13, s_139_14, s_139_17, s_139_19, s_139_21, s_139_22, s_139_23, s_139_24, s_139_25, s_139_26, s_139_27, s_139_30, s_139_31, s_139_34, s_139_35, s_139_36, s_139_39, s_139_41, s_139_44, s_139_45, s_139_46, s_139_49, s_139_51, s_139_54, s_139_55, s_139_56, s_139_59, s_139_60, s_139_62, s_139_65, s_139_67, s_139_70, s_139_71, b_res, b_resN, b_nm0, b_nm1, b_nm2, b_ns0, b_ns1, b_l0, b_l1, b_l2, b_l3, b_l4, b_l5, b_l6, Bool.true_and, Bool.and_true, cond_true, b01_0, b01_1, i10, true_and, and_true, true_or, or_true, u_rd, u_2, u_at, reduceIte, eq_self, not_true_eq_false, not_false_eq_true, false_imp_iff, true_imp_iff, forall_const, b_nm3_0, b_nm3_1, b_nm3_2, b_nm3_3, b_nm3_4, b_nm3_5, b_nm3_6, b_nm3_7, b_nm3_8, b_nm3_9, b_nm3_10, b_nm3_11, b_nm3_100, b_nm3_101, b_nm3_102, b_nm3_200, b_nm3_201, b_nm3_202, b_nm3_203, b_nm3_204, b_nm3_205, b_nm3_206, b_nm3_207, b_nm3_208, b_ns2_0, b_ns2_1, b_ns2_2, b_ns2_3, b_ns2_4, b_ns2_5, b_ns2_6, b_ns2_7, b_ns2_8, b_ns2_9, b_ns2_10, b_ns2_11, l3, e2, e3, e4]
    simp only [i_lt, i_le, kI_m1, kI_0, kI_1, kI_2, kI_3, kI_4, kI_5, kI_6, kI_7, kI_8, kI_9, kI_10, kI_12, kI_13, kI_19, kI_20, kI_24, kI_29, kI_30, kI_31, kI_32, kI_48, kI_57, kI_59, kI_60, kI_97, kI_99, kI_100, kI_119, kI_120, kI_122, kI_149, kI_150, kI_199, kI_200, kI_255, kI_1000, kI_3000, kI_3700, kI_5000, t3]
    exact ⟨fun h => (by exfalso; omega), fun _ => ⟨v_nI (by omega) (by omega), hQ⟩⟩
