def x_ship (T n : Nat) (a m : Int32) : Prop := 120 ≤ T ∨ 30 ≤ n ∨ a.toInt < 1 ∨ 3000 < a.toInt ∨ m.toInt < T ∨ 119 < m.toInt
theorem c_ship {μ : ab_S} {a m : Int32} {b : ab_B} {Q : ab_Q} {T n : Nat} (hT : μ.1 0 10 = nI T) (hT2 : T ≤ 120) (hn : μ.1 6 2 = nI n) (hn2 : n ≤ 30) (l1 : μ.2 30 = 30) (l2 : μ.2 31 = 30) (hbad : x_ship T n a m → Q (some (-1)) μ) (hok : ¬ x_ship T n a m → Q (some (nI n)) (ab_up (ab_up (ab_up μ 30 n a) 31 n m) 6 2 (nI (n + 1)))) : gd_run 101 0 [some (.inr 0), some (.inl a), some (.inl m)] [] μ b Q := by
  have e1 : (nI n).toNatClampNeg = n := nI_clamp (by omega)
  have t1 : (nI n).toInt = (n : Int) := nI_toInt (by omega)
  have t2 : (nI T).toInt = (T : Int) := nI_toInt (by omega)
  have k1 : (1 : Int32).toInt = 1 := by decide
  have k2 : (30 : Int32).toInt = 30 := by decide
  have k3 : (120 : Int32).toInt = 120 := by decide
  have k4 : (3000 : Int32).toInt = 3000 := by decide
  have k5 : (0 : Int32).toInt = 0 := by decide
  simp +decide only [s_101_0, s_101_1, s_101_4, s_101_7, s_101_8, s_101_11, s_101_14, s_101_17, s_101_18, s_101_21, s_101_24, s_101_25, s_101_26, s_101_29, s_101_32, s_101_33, s_101_36, s_101_39, s_101_40, s_101_41, s_101_42, s_101_45, s_101_46, s_101_47, s_101_50, s_115_0, s_115_1, s_115_4, s_115_6, s_115_9, s_115_10, s_115_13, s_115_14, s_1_0, s_1_1, s_1_4, s_1_6, s_1_9, s_1_10, s_1_13, s_1_14, s_123_0, s_123_1, s_123_2, s_123_5, s_123_6, s_123_9, s_123_12, s_123_13, s_123_16, s_123_17, s_117_0, s_117_1, s_117_4, s_117_5, s_117_7, s_117_10, s_117_11, s_117_14, s_117_15, s_3_0, s_3_1, s_3_4, s_3_7, s_3_8, s_3_9, s_3_10, s_3_13, s_3_14, s_3_17, s_3_18, s_3_19, s_3_20, s_3_23, s_3_24, s_3_27, s_3_28, s_3_29, s_3_30, s_3_31, s_3_34, s_3_35, s_3_36, s_3_39, s_3_40, s_3_43, s_3_44, s_3_45, b_res, b_resN, b_nm0, b_nm1, b_nm2, b_ns0, b_ns1, b_l0, b_l1, b_l2, b_l3, b_l4, b_l5, b_l6, Bool.true_and, Bool.and_true, cond_true, b01_0, b01_1, i10, true_and, and_true, true_or, or_true, u_rd, u_2, u_at, reduceIte, eq_self, not_true_eq_false, not_false_eq_true, false_imp_iff, true_imp_iff, forall_const, b_nm3_0, b_nm3_1, b_nm3_2, b_nm3_3, b_nm3_4, b_nm3_5, b_nm3_6, b_nm3_7, b_nm3_8, b_nm3_9, b_nm3_10, b_nm3_11, b_nm3_100, b_nm3_101, b_nm3_102, b_nm3_200, b_nm3_201, b_nm3_202, b_nm3_203, b_nm3_204, b_nm3_205, b_nm3_206, b_nm3_207, b_nm3_208, b_ns2_0, b_ns2_1, b_ns2_2, b_ns2_3, b_ns2_4, b_ns2_5, b_ns2_6, b_ns2_7, b_ns2_8, b_ns2_9, b_ns2_10, b_ns2_11, hT, hn, l1, l2, e1, nI_1, nI_pred]
  simp only [i_lt, i_le, t1, t2, k1, k2, k3, k4, k5]
  unfold x_ship at hbad hok
  repeat' first | exact hbad (by omega) | exact hok (by omega) | exact v_nI (by omega) (by omega) | apply And.intro | intro _
theorem m_ship {μ : ab_S} {a m : Int32} {b : ab_B} {Q : ab_Q} {T n : Nat} (hT : μ.1 11 0 = nI T) (hT2 : T ≤ 120) (hn : μ.1 11 14 = nI n) (hn2 : n ≤ 30) (l1 : μ.2 61 = 30) (l2 : μ.2 62 = 30) (hbad : x_ship T n a m → Q (some (-1)) μ) (hok : ¬ x_ship T n a m → Q (some (nI n)) (ab_up (ab_up (ab_up μ 61 n a) 62 n m) 11 14 (nI (n + 1)))) : gd_run 150 0 [some (.inr 11), some (.inl a), some (.inl m)] [] μ b Q := by
  have e1 : (nI n).toNatClampNeg = n := nI_clamp (by omega)
  have t1 : (nI n).toInt = (n : Int) := nI_toInt (by omega)
  have t2 : (nI T).toInt = (T : Int) := nI_toInt (by omega)
  have k1 : (1 : Int32).toInt = 1 := by decide
  have k2 : (30 : Int32).toInt = 30 := by decide
  have k3 : (120 : Int32).toInt = 120 := by decide
  have k4 : (3000 : Int32).toInt = 3000 := by decide
  have k5 : (119 : Int32).toInt = 119 := by decide
  simp +decide only [s_150_0, s_150_1, s_150_4, s_150_6, s_150_9, s_150_10, s_150_13, s_150_15, s_150_18, s_150_19, s_150_20, s_150_23, s_150_26, s_150_29, s_150_30, s_150_31, s_150_34, s_150_36, s_150_39, s_150_42, s_150_43, s_150_44, s_150_45, s_150_48, s_150_49, s_150_52, s_150_53, s_150_54, s_150_55, s_150_58, s_150_59, s_150_62, s_150_63, s_150_64, s_150_65, s_150_66, s_150_69, s_150_70, s_150_71, s_150_74, s_150_75, s_150_78, s_150_79, s_150_80, s_124_0, s_124_1, s_124_2, s_124_5, s_124_6, s_124_7, s_124_10, s_124_11, s_124_14, s_124_15, b_res, b_resN, b_nm0, b_nm1, b_nm2, b_ns0, b_ns1, b_l0, b_l1, b_l2, b_l3, b_l4, b_l5, b_l6, Bool.true_and, Bool.and_true, cond_true, b01_0, b01_1, i10, true_and, and_true, true_or, or_true, u_rd, u_2, u_at, reduceIte, eq_self, not_true_eq_false, not_false_eq_true, false_imp_iff, true_imp_iff, forall_const, b_nm3_0, b_nm3_1, b_nm3_2, b_nm3_3, b_nm3_4, b_nm3_5, b_nm3_6, b_nm3_7, b_nm3_8, b_nm3_9, b_nm3_10, b_nm3_11, b_nm3_100, b_nm3_101, b_nm3_102, b_nm3_200, b_nm3_201, b_nm3_202, b_nm3_203, b_nm3_204, b_nm3_205, b_nm3_206, b_nm3_207, b_nm3_208, b_ns2_0, b_ns2_1, b_ns2_2, b_ns2_3, b_ns2_4, b_ns2_5, b_ns2_6, b_ns2_7, b_ns2_8, b_ns2_9, b_ns2_10, b_ns2_11, hT, hn, l1, l2, e1, nI_1, nI_pred]
  simp only [i_lt, i_le, i_eq, t1, t2, k1, k2, k3, k4, k5]
  unfold x_ship at hbad hok
  repeat' first | exact hbad (by omega) | exact hok (by omega) | exact v_nI (by omega) (by omega) | apply And.intro | intro _

theorem sim_ship {T : Nat} {μ : ab_S} (a m : Int32) (h : gd_rel T μ) : lw_sim1 gd_rel 101 150 T (0, 0) [a, m] μ := by
  have h0 := h
  obtain ⟨hT2, hT, hT', L, hL, hl, h1, h2, h3, h4, h5, h6, h7⟩ := h
  obtain ⟨n, hn2, hn, hn', hj⟩ := h4
  show gd_run 101 0 [some (.inr 0), some (.inl a), some (.inl m)] [] μ (0, 0) _
  refine c_ship hT hT2 hn hn2 (by rw [hl]; rfl) (by rw [hl]; rfl) (fun hb => ?_) (fun hb => ?_)
  · refine ⟨_, rfl, ?_⟩
    show gd_run 150 0 [some (.inr 11), some (.inl a), some (.inl m)] [] μ (0, 0) _
    exact m_ship hT' hT2 hn' hn2 (by rw [hl]; rfl) (by rw [hl]; rfl) (fun _ => ⟨rfl, h0⟩) (fun q => absurd hb q)
  · refine ⟨_, rfl, ?_⟩
    show gd_run 150 0 [some (.inr 11), some (.inl a), some (.inl m)] [] _ (0, 0) _
    refine m_ship (T := T) (n := n) ?_ hT2 ?_ hn2 ?_ ?_ (fun q => absurd q hb) (fun _ => ⟨rfl, ?_⟩)
    · simp +decide only [b_res, b_resN, b_nm0, b_nm1, b_nm2, b_ns0, b_ns1, b_l0, b_l1, b_l2, b_l3, b_l4, b_l5, b_l6, Bool.true_and, Bool.and_true, cond_true, b01_0, b01_1, i10, true_and, and_true, true_or, or_true, u_rd, u_2, u_at, reduceIte, eq_self, not_true_eq_false, not_false_eq_true, false_imp_iff, true_imp_iff, forall_const, b_nm3_0, b_nm3_1, b_nm3_2, b_nm3_3, b_nm3_4, b_nm3_5, b_nm3_6, b_nm3_7, b_nm3_8, b_nm3_9, b_nm3_10, b_nm3_11, b_nm3_100, b_nm3_101, b_nm3_102, b_nm3_200, b_nm3_201, b_nm3_202, b_nm3_203, b_nm3_204, b_nm3_205, b_nm3_206, b_nm3_207, b_nm3_208, b_ns2_0, b_ns2_1, b_ns2_2, b_ns2_3, b_ns2_4, b_ns2_5, b_ns2_6, b_ns2_7, b_ns2_8, b_ns2_9, b_ns2_10, b_ns2_11, hT']
    · simp +decide only [b_res, b_resN, b_nm0, b_nm1, b_nm2, b_ns0, b_ns1, b_l0, b_l1, b_l2, b_l3, b_l4, b_l5, b_l6, Bool.true_and, Bool.and_true, cond_true, b01_0, b01_1, i10, true_and, and_true, true_or, or_true, u_rd, u_2, u_at, reduceIte, eq_self, not_true_eq_false, not_false_eq_true, false_imp_iff, true_imp_iff, forall_const, b_nm3_0, b_nm3_1, b_nm3_2, b_nm3_3, b_nm3_4, b_nm3_5, b_nm3_6, b_nm3_7, b_nm3_8, b_nm3_9, b_nm3_10, b_nm3_11, b_nm3_100, b_nm3_101, b_nm3_102, b_nm3_200, b_nm3_201, b_nm3_202, b_nm3_203, b_nm3_204, b_nm3_205, b_nm3_206, b_nm3_207, b_nm3_208, b_ns2_0, b_ns2_1, b_ns2_2, b_ns2_3, b_ns2_4, b_ns2_5, b_ns2_6, b_ns2_7, b_ns2_8, b_ns2_9, b_ns2_10, b_ns2_11, hn']
    · rw [u_2, u_2, u_2, hl]; rfl
    · rw [u_2, u_2, u_2, hl]; rfl
    · unfold gd_rel
      simp +decide only [b_res, b_resN, b_nm0, b_nm1, b_nm2, b_ns0, b_ns1, b_l0, b_l1, b_l2, b_l3, b_l4, b_l5, b_l6, Bool.true_and, Bool.and_true, cond_true, b01_0, b01_1, i10, true_and, and_true, true_or, or_true, u_rd, u_2, u_at, reduceIte, eq_self, not_true_eq_false, not_false_eq_true, false_imp_iff, true_imp_iff, forall_const, b_nm3_0, b_nm3_1, b_nm3_2, b_nm3_3, b_nm3_4, b_nm3_5, b_nm3_6, b_nm3_7, b_nm3_8, b_nm3_9, b_nm3_10, b_nm3_11, b_nm3_100, b_nm3_101, b_nm3_102, b_nm3_200, b_nm3_201, b_nm3_202, b_nm3_203, b_nm3_204, b_nm3_205, b_nm3_206, b_nm3_207, b_nm3_208, b_ns2_0, b_ns2_1, b_ns2_2, b_ns2_3, b_ns2_4, b_ns2_5, b_ns2_6, b_ns2_7, b_ns2_8, b_ns2_9, b_ns2_10, b_ns2_11]
      refine ⟨hT2, hT, hT', L, hL, hl, h1, h2, h3, ?_, h5, h6, h7⟩
      unfold x_ship at hb
      refine ⟨n + 1, by omega, rfl, rfl, fun j hjn => ?_⟩
      by_cases e : j = n
      · subst e
        simp only [u_at, reduceIte]
        refine ⟨trivial, trivial, ?_, ?_, ?_, ?_⟩ <;> omega
      · simp only [u_at, if_neg e]
        exact hj j (by omega)
