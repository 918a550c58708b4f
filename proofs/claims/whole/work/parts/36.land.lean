-- land
def x_land (T n ns : Nat) (s g m : Int32) : Prop := 120 ≤ T ∨ 100 ≤ n ∨ s.toInt < 0 ∨ (ns : Int) ≤ s.toInt ∨ g.toInt < 0 ∨ 3 < g.toInt ∨ m.toInt < 1 ∨ 3000 < m.toInt
theorem c_land_bad {μ : ab_S} {s g m d : Int32} {b : ab_B} {Q : ab_Q} {T n ns : Nat} (hT : μ.1 0 10 = nI T) (hT2 : T ≤ 120) (hn : μ.1 7 9 = nI n) (hn2 : n ≤ 100) (hs : μ.1 6 2 = nI ns) (hs2 : ns ≤ 30) (hx : x_land T n ns s g m) (hQ : Q (some (-1)) μ) : gd_run 103 0 [some (.inr 0), some (.inl s), some (.inl g), some (.inl m), some (.inl d), none] [] μ b Q := by
  have t1 : (nI T).toInt = (T : Int) := nI_toInt (by omega)
  have t2 : (nI n).toInt = (n : Int) := nI_toInt (by omega)
  have t3 : (nI ns).toInt = (ns : Int) := nI_toInt (by omega)
  unfold x_land at hx
  simp +decide only [s_103_0, s_103_1, s_103_4, s_103_7, s_103_8, s_103_11, s_103_14, s_103_17, s_103_18, s_103_21, s_103_22, s_103_25, s_103_28, s_103_29, s_103_32, s_103_35, s_103_36, s_103_39, s_103_42, s_103_43, s_103_44, s_103_45, s_103_46, s_103_49, s_103_50, s_103_53, s_103_56, s_103_58, s_103_60, s_103_63, s_103_64, s_103_67, s_103_68, s_103_69, s_103_70, s_103_73, s_103_75, s_103_77, s_103_80, s_103_82, s_115_0, s_115_1, s_115_4, s_115_6, s_115_9, s_115_10, s_115_13, s_115_14, s_70_0, s_70_1, s_70_4, s_70_6, s_70_9, s_70_10, s_70_13, s_70_14, s_2_0, s_2_1, s_2_4, s_2_5, s_2_6, s_2_9, s_2_12, s_2_13, s_2_16, s_2_17, s_121_0, s_121_1, s_121_4, s_121_5, s_121_6, s_121_9, s_121_10, s_121_13, s_121_14, s_123_0, s_123_1, s_123_2, s_123_5, s_123_6, s_123_9, s_123_12, s_123_13, s_123_16, s_123_17, b_res, b_resN, b_nm0, b_nm1, b_nm2, b_ns0, b_ns1, b_l0, b_l1, b_l2, b_l3, b_l4, b_l5, b_l6, Bool.true_and, Bool.and_true, cond_true, b01_0, b01_1, i10, true_and, and_true, true_or, or_true, u_rd, u_2, u_at, reduceIte, eq_self, not_true_eq_false, not_false_eq_true, false_imp_iff, true_imp_iff, forall_const, b_nm3_0, b_nm3_1, b_nm3_2, b_nm3_3, b_nm3_4, b_nm3_5, b_nm3_6, b_nm3_7, b_nm3_8, b_nm3_9, b_nm3_10, b_nm3_11, b_nm3_100, b_nm3_101, b_nm3_102, b_nm3_200, b_nm3_201, b_nm3_202, b_nm3_203, b_nm3_204, b_nm3_205, b_nm3_206, b_nm3_207, b_nm3_208, b_ns2_0, b_ns2_1, b_ns2_2, b_ns2_3, b_ns2_4, b_ns2_5, b_ns2_6, b_ns2_7, b_ns2_8, b_ns2_9, b_ns2_10, b_ns2_11, hT, hn, hs]
  simp only [i_lt, i_le, kI_m2, kI_m1, kI_0, kI_1, kI_2, kI_3, kI_4, kI_5, kI_6, kI_7, kI_8, kI_9, kI_10, kI_11, kI_12, kI_13, kI_14, kI_15, kI_16, kI_19, kI_20, kI_24, kI_29, kI_30, kI_31, kI_32, kI_48, kI_50, kI_57, kI_58, kI_59, kI_60, kI_97, kI_99, kI_100, kI_119, kI_120, kI_122, kI_149, kI_150, kI_199, kI_200, kI_255, kI_1000, kI_3000, kI_3700, kI_5000, t1, t2, t3]
  repeat' first | exact hQ | (exfalso; omega) | apply And.intro | intro _
theorem m_land_bad {μ : ab_S} {s g m d : Int32} {b : ab_B} {Q : ab_Q} {T n ns : Nat} (hT : μ.1 11 0 = nI T) (hT2 : T ≤ 120) (hn : μ.1 11 18 = nI n) (hn2 : n ≤ 100) (hs : μ.1 11 14 = nI ns) (hs2 : ns ≤ 30) (hx : x_land T n ns s g m) (hQ : Q (some (-1)) μ) : gd_run 153 0 [some (.inr 11), some (.inl s), some (.inl g), some (.inl m), some (.inl d), none, none] [] μ b Q := by
  have t1 : (nI T).toInt = (T : Int) := nI_toInt (by omega)
  have t2 : (nI n).toInt = (n : Int) := nI_toInt (by omega)
  have t3 : (nI ns - 1).toInt = (ns : Int) - 1 := pk_sub_toInt (b := 1) (by omega) (by omega)
  unfold x_land at hx
  simp +decide only [s_153_0, s_153_1, s_153_4, s_153_6, s_153_9, s_153_10, s_153_13, s_153_15, s_153_18, s_153_19, s_153_20, s_153_21, s_153_24, s_153_25, s_153_26, s_153_29, s_153_32, s_153_33, s_153_34, s_153_35, s_153_38, s_153_41, s_153_42, s_153_43, s_153_46, s_153_49, s_153_52, s_153_53, s_153_54, s_153_55, s_153_58, s_153_59, s_153_60, s_153_61, s_153_62, s_153_65, s_153_66, s_153_68, s_153_69, s_153_71, s_153_74, s_153_75, s_153_78, s_153_80, s_153_82, s_153_84, s_153_87, s_153_88, s_153_89, s_153_90, s_153_93, s_153_94, s_153_97, s_153_98, s_153_99, s_153_100, s_153_103, s_153_104, s_153_107, s_153_108, s_153_109, s_153_110, s_153_113, s_153_114, s_153_117, s_153_118, s_153_121, s_153_122, s_153_123, s_153_126, s_153_127, s_153_130, s_153_132, s_153_133, s_153_134, s_153_137, s_153_138, s_153_141, s_153_143, s_153_144, s_153_145, s_153_148, s_153_149, s_153_152, s_153_153, s_153_154, s_153_155, s_153_158, s_153_159, s_153_162, s_153_164, s_153_165, s_153_166, s_153_167, s_153_170, s_153_171, s_153_172, s_153_175, s_153_177, s_124_0, s_124_1, s_124_2, s_124_5, s_124_6, s_124_7, s_124_10, s_124_11, s_124_14, s_124_15, b_res, b_resN, b_nm0, b_nm1, b_nm2, b_ns0, b_ns1, b_l0, b_l1, b_l2, b_l3, b_l4, b_l5, b_l6, Bool.true_and, Bool.and_true, cond_true, b01_0, b01_1, i10, true_and, and_true, true_or, or_true, u_rd, u_2, u_at, reduceIte, eq_self, not_true_eq_false, not_false_eq_true, false_imp_iff, true_imp_iff, forall_const, b_nm3_0, b_nm3_1, b_nm3_2, b_nm3_3, b_nm3_4, b_nm3_5, b_nm3_6, b_nm3_7, b_nm3_8, b_nm3_9, b_nm3_10, b_nm3_11, b_nm3_100, b_nm3_101, b_nm3_102, b_nm3_200, b_nm3_201, b_nm3_202, b_nm3_203, b_nm3_204, b_nm3_205, b_nm3_206, b_nm3_207, b_nm3_208, b_ns2_0, b_ns2_1, b_ns2_2, b_ns2_3, b_ns2_4, b_ns2_5, b_ns2_6, b_ns2_7, b_ns2_8, b_ns2_9, b_ns2_10, b_ns2_11, hT, hn, hs]
  simp only [i_eq, i_lt, i_le, kI_m2, kI_m1, kI_0, kI_1, kI_2, kI_3, kI_4, kI_5, kI_6, kI_7, kI_8, kI_9, kI_10, kI_11, kI_12, kI_13, kI_14, kI_15, kI_16, kI_19, kI_20, kI_24, kI_29, kI_30, kI_31, kI_32, kI_48, kI_50, kI_57, kI_58, kI_59, kI_60, kI_97, kI_99, kI_100, kI_119, kI_120, kI_122, kI_149, kI_150, kI_199, kI_200, kI_255, kI_1000, kI_3000, kI_3700, kI_5000, t1, t2, t3]
  repeat' first | exact hQ | (exfalso; omega) | apply And.intro | intro _
def st_new (μ : ab_S) (T n s g z : Nat) (d : Int32) : ab_S := ab_up (ab_up (ab_up (ab_up (ab_up (ab_up (ab_up (ab_up (ab_up μ 34 n (nI s)) 35 n (nI g)) 36 n (nI T)) 37 n (nI z)) 38 n (nI z)) 39 n 0) 40 n d) 33 g (μ.1 33 g + nI z)) 7 9 (nI (n + 1))
def sm_new (μ : ab_S) (T n s g z : Nat) (d : Int32) : ab_S := ab_up (ab_up (ab_up (ab_up (ab_up (ab_up (ab_up (ab_up μ 64 n (nI s)) 65 n (nI g)) 66 n (nI T)) 67 n (nI z)) 68 n (nI z)) 69 n 0) 70 n d) 11 18 (nI (n + 1))
theorem q_min {k y : Nat} (hk : k < 2 ^ 31) (hy : y < 2 ^ 31) : (if nI y < nI k then nI y else nI k) = nI (min k y) := by
  by_cases h : y < k
  · rw [if_pos (nI_lt h hk), Nat.min_eq_right (by omega)]
  · rw [if_neg (nI_nlt (by omega) hy), Nat.min_eq_left (by omega)]
theorem c_land_ok {μ : ab_S} {d : Int32} {b : ab_B} {Q : ab_Q} {T n ns s g k y : Nat} (hT : μ.1 0 10 = nI T) (hT2 : T < 120) (hn : μ.1 7 9 = nI n) (hn2 : n < 100) (hs : μ.1 6 2 = nI ns) (hs2 : ns ≤ 30) (hs3 : s < ns) (hg : g < 4) (hk : 1 ≤ k) (hk2 : k ≤ 3000) (hd : d = 0 ∨ d = 1) (hy : μ.1 32 g - μ.1 33 g = nI y) (hy2 : y ≤ 5000)
    (l0 : μ.2 32 = 4) (l1 : μ.2 33 = 4) (l2 : μ.2 34 = 100) (l3 : μ.2 35 = 100) (l4 : μ.2 36 = 100) (l5 : μ.2 37 = 100) (l6 : μ.2 38 = 100) (l7 : μ.2 39 = 100) (l8 : μ.2 40 = 100)
    (h0 : min k y = 0 → Q (some 0) μ) (h1 : 0 < min k y → Q (some (nI (min k y))) (st_new μ T n s g (min k y) d)) : gd_run 103 0 [some (.inr 0), some (.inl (nI s)), some (.inl (nI g)), some (.inl (nI k)), some (.inl d), none] [] μ b Q := by
  have a1 : (nI T < 120) = True := q_lt (b := 120) (by omega) (by omega)
  have a2 : (nI n < 100) = True := q_lt (b := 100) (by omega) (by omega)
  have a3 : (nI s < 0) = False := q_n0 (by omega)
  have a4 : (nI ns ≤ nI s) = False := q_nle (by omega) (by omega)
  have a5 : (nI g < 0) = False := q_n0 (by omega)
  have a6 : ((4 : Int32) ≤ nI g) = False := q_nle (b := 4) (by omega) (by omega)
  have a7 : (nI k < 1) = False := q_nlt (b := 1) (by omega) (by omega)
  have a8 : ((3000 : Int32) < nI k) = False := q_nlt (a := 3000) (by omega) (by omega)
  have a9 := q_min (k := k) (y := y) (by omega) (by omega)
  have b1 : vp_in (nI g) 4 = True := q_in (by omega) (by omega)
  have b2 : vp_in (nI n) 100 = True := q_in (by omega) (by omega)
  have e1 : (nI g).toNatClampNeg = g := nI_clamp (by omega)
  have e2 : (nI n).toNatClampNeg = n := nI_clamp (by omega)
  have n1 : vp_nar .boolean d = d := by rcases hd with rfl | rfl <;> decide
  by_cases hz : min k y = 0
  · have c1 : (nI (min k y) ≤ 0) = True := by rw [hz]; decide
    simp +decide only [s_103_0, s_103_1, s_103_4, s_103_7, s_103_8, s_103_11, s_103_14, s_103_17, s_103_18, s_103_21, s_103_22, s_103_25, s_103_28, s_103_29, s_103_32, s_103_35, s_103_36, s_103_39, s_103_42, s_103_43, s_103_44, s_103_45, s_103_46, s_103_49, s_103_50, s_103_53, s_103_56, s_103_58, s_103_60, s_103_63, s_103_64, s_103_67, s_103_68, s_103_69, s_103_70, s_103_73, s_103_75, s_103_77, s_103_80, s_103_82, s_115_0, s_115_1, s_115_4, s_115_6, s_115_9, s_115_10, s_115_13, s_115_14, s_70_0, s_70_1, s_70_4, s_70_6, s_70_9, s_70_10, s_70_13, s_70_14, s_2_0, s_2_1, s_2_4, s_2_5, s_2_6, s_2_9, s_2_12, s_2_13, s_2_16, s_2_17, s_121_0, s_121_1, s_121_4, s_121_5, s_121_6, s_121_9, s_121_10, s_121_13, s_121_14, s_123_0, s_123_1, s_123_2, s_123_5, s_123_6, s_123_9, s_123_12, s_123_13, s_123_16, s_123_17, s_74_0, s_74_1, s_74_4, s_74_7, s_74_8, s_74_11, s_74_12, s_74_13, s_74_14, s_74_17, s_74_18, s_74_19, s_74_20, s_74_23, s_74_24, b_res, b_resN, b_nm0, b_nm1, b_nm2, b_ns0, b_ns1, b_l0, b_l1, b_l2, b_l3, b_l4, b_l5, b_l6, Bool.true_and, Bool.and_true, cond_true, b01_0, b01_1, i10, true_and, and_true, true_or, or_true, u_rd, u_2, u_at, reduceIte, eq_self, not_true_eq_false, not_false_eq_true, false_imp_iff, true_imp_iff, forall_const, b_nm3_0, b_nm3_1, b_nm3_2, b_nm3_3, b_nm3_4, b_nm3_5, b_nm3_6, b_nm3_7, b_nm3_8, b_nm3_9, b_nm3_10, b_nm3_11, b_nm3_100, b_nm3_101, b_nm3_102, b_nm3_200, b_nm3_201, b_nm3_202, b_nm3_203, b_nm3_204, b_nm3_205, b_nm3_206, b_nm3_207, b_nm3_208, b_ns2_0, b_ns2_1, b_ns2_2, b_ns2_3, b_ns2_4, b_ns2_5, b_ns2_6, b_ns2_7, b_ns2_8, b_ns2_9, b_ns2_10, b_ns2_11, hT, hn, hs, a1, a2, a3, a4, a5, a6, a7, a8, b1, e1, l0, l1, hy, a9, c1]
    have := h0 hz
    rw [hz]
    exact this
  · have c1 : (nI (min k y) ≤ 0) = False := q_nle (a := 0) (by omega) (by omega)
    simp +decide only [s_103_0, s_103_1, s_103_4, s_103_7, s_103_8, s_103_11, s_103_14, s_103_17, s_103_18, s_103_21, s_103_22, s_103_25, s_103_28, s_103_29, s_103_32, s_103_35, s_103_36, s_103_39, s_103_42, s_103_43, s_103_44, s_103_45, s_103_46, s_103_49, s_103_50, s_103_53, s_103_56, s_103_58, s_103_60, s_103_63, s_103_64, s_103_67, s_103_68, s_103_69, s_103_70, s_103_73, s_103_75, s_103_77, s_103_80, s_103_82, s_115_0, s_115_1, s_115_4, s_115_6, s_115_9, s_115_10, s_115_13, s_115_14, s_70_0, s_70_1, s_70_4, s_70_6, s_70_9, s_70_10, s_70_13, s_70_14, s_2_0, s_2_1, s_2_4, s_2_5, s_2_6, s_2_9, s_2_12, s_2_13, s_2_16, s_2_17, s_121_0, s_121_1, s_121_4, s_121_5, s_121_6, s_121_9, s_121_10, s_121_13, s_121_14, s_123_0, s_123_1, s_123_2, s_123_5, s_123_6, s_123_9, s_123_12, s_123_13, s_123_16, s_123_17, s_74_0, s_74_1, s_74_4, s_74_7, s_74_8, s_74_11, s_74_12, s_74_13, s_74_14, s_74_17, s_74_18, s_74_19, s_74_20, s_74_23, s_74_24, s_76_0, s_76_1, s_76_4, s_76_7, s_76_8, s_76_11, s_76_14, s_76_15, s_76_16, s_76_19, s_76_20, s_76_23, s_76_24, s_76_25, s_76_26, s_76_29, s_76_30, s_76_33, s_76_34, s_76_35, s_76_36, s_76_39, s_76_40, s_76_43, s_76_44, s_76_45, s_76_46, s_76_49, s_76_50, s_76_53, s_76_55, s_76_56, s_76_57, s_76_60, s_76_61, s_76_64, s_76_66, s_76_67, s_76_68, s_76_71, s_76_72, s_76_75, s_76_76, s_76_77, s_76_78, s_76_81, s_76_82, s_76_85, s_76_87, s_76_88, s_76_89, s_76_92, s_76_93, s_76_94, s_76_95, s_76_97, s_76_98, s_76_99, s_76_100, s_76_101, s_76_104, s_76_105, s_76_106, s_76_109, b_res, b_resN, b_nm0, b_nm1, b_nm2, b_ns0, b_ns1, b_l0, b_l1, b_l2, b_l3, b_l4, b_l5, b_l6, Bool.true_and, Bool.and_true, cond_true, b01_0, b01_1, i10, true_and, and_true, true_or, or_true, u_rd, u_2, u_at, reduceIte, eq_self, not_true_eq_false, not_false_eq_true, false_imp_iff, true_imp_iff, forall_const, b_nm3_0, b_nm3_1, b_nm3_2, b_nm3_3, b_nm3_4, b_nm3_5, b_nm3_6, b_nm3_7, b_nm3_8, b_nm3_9, b_nm3_10, b_nm3_11, b_nm3_100, b_nm3_101, b_nm3_102, b_nm3_200, b_nm3_201, b_nm3_202, b_nm3_203, b_nm3_204, b_nm3_205, b_nm3_206, b_nm3_207, b_nm3_208, b_ns2_0, b_ns2_1, b_ns2_2, b_ns2_3, b_ns2_4, b_ns2_5, b_ns2_6, b_ns2_7, b_ns2_8, b_ns2_9, b_ns2_10, b_ns2_11, hT, hn, hs, a1, a2, a3, a4, a5, a6, a7, a8, b1, b2, e1, e2, l0, l1, l2, l3, l4, l5, l6, l7, l8, n1, hy, a9, c1, nI_1]
    exact h1 (by omega)
theorem m_land_ok {μ : ab_S} {d : Int32} {b : ab_B} {Q : ab_Q} {T n ns s g k y : Nat} (hT : μ.1 11 0 = nI T) (hT2 : T < 120) (hn : μ.1 11 18 = nI n) (hn2 : n < 100) (hs : μ.1 11 14 = nI ns) (hs2 : ns ≤ 30) (hs3 : s < ns) (hg : g < 4) (hk : 1 ≤ k) (hk2 : k ≤ 3000) (hd : d = 0 ∨ d = 1) (hy2 : y ≤ 5000) (hr : (μ.1 63 g).toInt ≤ 5000) (hy : (μ.1 63 g).toInt - pu_sum (fun j => if (μ.1 65 j).toInt = g then (μ.1 68 j).toInt else 0) n = y) (hb : ∀ j, j < n → 0 ≤ (μ.1 68 j).toInt ∧ (μ.1 68 j).toInt ≤ 3000)
    (l0 : μ.2 63 = 4) (l2 : μ.2 64 = 100) (l3 : μ.2 65 = 100) (l4 : μ.2 66 = 100) (l5 : μ.2 67 = 100) (l6 : μ.2 68 = 100) (l7 : μ.2 69 = 100) (l8 : μ.2 70 = 100)
    (h0 : min k y = 0 → Q (some 0) μ) (h1 : 0 < min k y → Q (some (nI (min k y))) (sm_new μ T n s g (min k y) d)) : gd_run 153 0 [some (.inr 11), some (.inl (nI s)), some (.inl (nI g)), some (.inl (nI k)), some (.inl d), none, none] [] μ b Q := by
  have a1 : (nI T = 120) = False := q_ne (b := 120) (by omega) (by omega) (by omega)
  have a2 : (nI n = 100) = False := q_ne (b := 100) (by omega) (by omega) (by omega)
  have a3 : (nI s < 0) = False := q_n0 (by omega)
  have t3 : nI ns - 1 = nI (ns - 1) := pk_sub (b := 1) (by omega)
  have a4 : (nI (ns - 1) < nI s) = False := q_nlt (by omega) (by omega)
  have a5 : (nI g < 0) = False := q_n0 (by omega)
  have a6 : ((3 : Int32) < nI g) = False := q_nlt (a := 3) (by omega) (by omega)
  have a7 : (nI k < 1) = False := q_nlt (b := 1) (by omega) (by omega)
  have a8 : ((3000 : Int32) < nI k) = False := q_nlt (a := 3000) (by omega) (by omega)
  have b1 : vp_in (nI g) 4 = True := q_in (by omega) (by omega)
  have b2 : vp_in (nI n) 100 = True := q_in (by omega) (by omega)
  have e1 : (nI g).toNatClampNeg = g := nI_clamp (by omega)
  have e2 : (nI n).toNatClampNeg = n := nI_clamp (by omega)
  have n1 : vp_nar .boolean d = d := by rcases hd with rfl | rfl <;> decide
  simp +decide only [s_153_0, s_153_1, s_153_4, s_153_6, s_153_9, s_153_10, s_153_13, s_153_15, s_153_18, s_153_19, s_153_20, s_153_21, s_153_24, s_153_25, s_153_26, s_153_29, s_153_32, s_153_33, s_153_34, s_153_35, s_153_38, s_153_41, s_153_42, s_153_43, s_153_46, s_153_49, s_153_52, s_153_53, s_153_54, s_153_55, s_153_58, s_153_59, s_153_60, s_153_61, s_153_62, s_153_65, s_153_66, s_153_68, s_153_69, s_153_71, s_153_74, s_153_75, s_153_78, s_153_80, s_153_82, s_153_84, s_153_87, s_153_88, s_153_89, s_153_90, s_153_93, s_153_94, s_153_97, s_153_98, s_153_99, s_153_100, s_153_103, s_153_104, s_153_107, s_153_108, s_153_109, s_153_110, s_153_113, s_153_114, s_153_117, s_153_118, s_153_121, s_153_122, s_153_123, s_153_126, s_153_127, s_153_130, s_153_132, s_153_133, s_153_134, s_153_137, s_153_138, s_153_141, s_153_143, s_153_144, s_153_145, s_153_148, s_153_149, s_153_152, s_153_153, s_153_154, s_153_155, s_153_158, s_153_159, s_153_162, s_153_164, s_153_165, s_153_166, s_153_167, s_153_170, s_153_171, s_153_172, s_153_175, s_153_177, s_124_0, s_124_1, s_124_2, s_124_5, s_124_6, s_124_7, s_124_10, s_124_11, s_124_14, s_124_15, b_res, b_resN, b_nm0, b_nm1, b_nm2, b_ns0, b_ns1, b_l0, b_l1, b_l2, b_l3, b_l4, b_l5, b_l6, Bool.true_and, Bool.and_true, cond_true, b01_0, b01_1, i10, true_and, and_true, true_or, or_true, u_rd, u_2, u_at, reduceIte, eq_self, not_true_eq_false, not_false_eq_true, false_imp_iff, true_imp_iff, forall_const, b_nm3_0, b_nm3_1, b_nm3_2, b_nm3_3, b_nm3_4, b_nm3_5, b_nm3_6, b_nm3_7, b_nm3_8, b_nm3_9, b_nm3_10, b_nm3_11, b_nm3_100, b_nm3_101, b_nm3_102, b_nm3_200, b_nm3_201, b_nm3_202, b_nm3_203, b_nm3_204, b_nm3_205, b_nm3_206, b_nm3_207, b_nm3_208, b_ns2_0, b_ns2_1, b_ns2_2, b_ns2_3, b_ns2_4, b_ns2_5, b_ns2_6, b_ns2_7, b_ns2_8, b_ns2_9, b_ns2_10, b_ns2_11, hT, hn, hs, a1, a2, a3, t3, a4, a5, a6, a7, a8, b1, e1, l0]
  refine m_lies hn (by omega) l3 l6 hb (fun v hv => ?_)
  rw [nI_toInt (by omega)] at hv
  have hs := pu_le (f := fun j => if (μ.1 65 j).toInt = g then (μ.1 68 j).toInt else 0) (n := n) (fun j hjn => by
    have := hb j hjn
    try dsimp only
    split <;> omega)
  have hv2 : μ.1 63 g - v = nI y := by
    rw [i_eq, nI_toInt (by omega), i_sub (by omega) (by omega)]
    omega
  by_cases hz : y ≤ k
  · have c1 : (nI y ≤ nI k) = True := q_le (by omega) (by omega)
    have em : min k y = y := Nat.min_eq_right hz
    rw [em] at h0 h1
    by_cases hy0 : y = 0
    · subst hy0
      have c2 : (nI 0 = 0) = True := eq_true rfl
      simp +decide only [s_153_0, s_153_1, s_153_4, s_153_6, s_153_9, s_153_10, s_153_13, s_153_15, s_153_18, s_153_19, s_153_20, s_153_21, s_153_24, s_153_25, s_153_26, s_153_29, s_153_32, s_153_33, s_153_34, s_153_35, s_153_38, s_153_41, s_153_42, s_153_43, s_153_46, s_153_49, s_153_52, s_153_53, s_153_54, s_153_55, s_153_58, s_153_59, s_153_60, s_153_61, s_153_62, s_153_65, s_153_66, s_153_68, s_153_69, s_153_71, s_153_74, s_153_75, s_153_78, s_153_80, s_153_82, s_153_84, s_153_87, s_153_88, s_153_89, s_153_90, s_153_93, s_153_94, s_153_97, s_153_98, s_153_99, s_153_100, s_153_103, s_153_104, s_153_107, s_153_108, s_153_109, s_153_110, s_153_113, s_153_114, s_153_117, s_153_118, s_153_121, s_153_122, s_153_123, s_153_126, s_153_127, s_153_130, s_153_132, s_153_133, s_153_134, s_153_137, s_153_138, s_153_141, s_153_143, s_153_144, s_153_145, s_153_148, s_153_149, s_153_152, s_153_153, s_153_154, s_153_155, s_153_158, s_153_159, s_153_162, s_153_164, s_153_165, s_153_166, s_153_167, s_153_170, s_153_171, s_153_172, s_153_175, s_153_177, b_res, b_resN, b_nm0, b_nm1, b_nm2, b_ns0, b_ns1, b_l0, b_l1, b_l2, b_l3, b_l4, b_l5, b_l6, Bool.true_and, Bool.and_true, cond_true, b01_0, b01_1, i10, true_and, and_true, true_or, or_true, u_rd, u_2, u_at, reduceIte, eq_self, not_true_eq_false, not_false_eq_true, false_imp_iff, true_imp_iff, forall_const, b_nm3_0, b_nm3_1, b_nm3_2, b_nm3_3, b_nm3_4, b_nm3_5, b_nm3_6, b_nm3_7, b_nm3_8, b_nm3_9, b_nm3_10, b_nm3_11, b_nm3_100, b_nm3_101, b_nm3_102, b_nm3_200, b_nm3_201, b_nm3_202, b_nm3_203, b_nm3_204, b_nm3_205, b_nm3_206, b_nm3_207, b_nm3_208, b_ns2_0, b_ns2_1, b_ns2_2, b_ns2_3, b_ns2_4, b_ns2_5, b_ns2_6, b_ns2_7, b_ns2_8, b_ns2_9, b_ns2_10, b_ns2_11, hv2, c1, c2]
      exact h0 rfl
    · have c2 : (nI y = 0) = False := q_ne (b := 0) hy0 (by omega) (by omega)
      simp +decide only [s_153_0, s_153_1, s_153_4, s_153_6, s_153_9, s_153_10, s_153_13, s_153_15, s_153_18, s_153_19, s_153_20, s_153_21, s_153_24, s_153_25, s_153_26, s_153_29, s_153_32, s_153_33, s_153_34, s_153_35, s_153_38, s_153_41, s_153_42, s_153_43, s_153_46, s_153_49, s_153_52, s_153_53, s_153_54, s_153_55, s_153_58, s_153_59, s_153_60, s_153_61, s_153_62, s_153_65, s_153_66, s_153_68, s_153_69, s_153_71, s_153_74, s_153_75, s_153_78, s_153_80, s_153_82, s_153_84, s_153_87, s_153_88, s_153_89, s_153_90, s_153_93, s_153_94, s_153_97, s_153_98, s_153_99, s_153_100, s_153_103, s_153_104, s_153_107, s_153_108, s_153_109, s_153_110, s_153_113, s_153_114, s_153_117, s_153_118, s_153_121, s_153_122, s_153_123, s_153_126, s_153_127, s_153_130, s_153_132, s_153_133, s_153_134, s_153_137, s_153_138, s_153_141, s_153_143, s_153_144, s_153_145, s_153_148, s_153_149, s_153_152, s_153_153, s_153_154, s_153_155, s_153_158, s_153_159, s_153_162, s_153_164, s_153_165, s_153_166, s_153_167, s_153_170, s_153_171, s_153_172, s_153_175, s_153_177, b_res, b_resN, b_nm0, b_nm1, b_nm2, b_ns0, b_ns1, b_l0, b_l1, b_l2, b_l3, b_l4, b_l5, b_l6, Bool.true_and, Bool.and_true, cond_true, b01_0, b01_1, i10, true_and, and_true, true_or, or_true, u_rd, u_2, u_at, reduceIte, eq_self, not_true_eq_false, not_false_eq_true, false_imp_iff, true_imp_iff, forall_const, b_nm3_0, b_nm3_1, b_nm3_2, b_nm3_3, b_nm3_4, b_nm3_5, b_nm3_6, b_nm3_7, b_nm3_8, b_nm3_9, b_nm3_10, b_nm3_11, b_nm3_100, b_nm3_101, b_nm3_102, b_nm3_200, b_nm3_201, b_nm3_202, b_nm3_203, b_nm3_204, b_nm3_205, b_nm3_206, b_nm3_207, b_nm3_208, b_ns2_0, b_ns2_1, b_ns2_2, b_ns2_3, b_ns2_4, b_ns2_5, b_ns2_6, b_ns2_7, b_ns2_8, b_ns2_9, b_ns2_10, b_ns2_11, hv2, c1, c2, hT, hn, e2, b2, l2, l3, l4, l5, l6, l7, l8, n1, nI_1]
      exact h1 (by omega)
  · have c1 : (nI y ≤ nI k) = False := q_nle (by omega) (by omega)
    have em : min k y = k := Nat.min_eq_left (by omega)
    rw [em] at h0 h1
    have c2 : (nI k = 0) = False := q_ne (b := 0) (by omega) (by omega) (by omega)
    simp +decide only [s_153_0, s_153_1, s_153_4, s_153_6, s_153_9, s_153_10, s_153_13, s_153_15, s_153_18, s_153_19, s_153_20, s_153_21, s_153_24, s_153_25, s_153_26, s_153_29, s_153_32, s_153_33, s_153_34, s_153_35, s_153_38, s_153_41, s_153_42, s_153_43, s_153_46, s_153_49, s_153_52, s_153_53, s_153_54, s_153_55, s_153_58, s_153_59, s_153_60, s_153_61, s_153_62, s_153_65, s_153_66, s_153_68, s_153_69, s_153_71, s_153_74, s_153_75, s_153_78, s_153_80, s_153_82, s_153_84, s_153_87, s_153_88, s_153_89, s_153_90, s_153_93, s_153_94, s_153_97, s_153_98, s_153_99, s_153_100, s_153_103, s_153_104, s_153_107, s_153_108, s_153_109, s_153_110, s_153_113, s_153_114, s_153_117, s_153_118, s_153_121, s_153_122, s_153_123, s_153_126, s_153_127, s_153_130, s_153_132, s_153_133, s_153_134, s_153_137, s_153_138, s_153_141, s_153_143, s_153_144, s_153_145, s_153_148, s_153_149, s_153_152, s_153_153, s_153_154, s_153_155, s_153_158, s_153_159, s_153_162, s_153_164, s_153_165, s_153_166, s_153_167, s_153_170, s_153_171, s_153_172, s_153_175, s_153_177, b_res, b_resN, b_nm0, b_nm1, b_nm2, b_ns0, b_ns1, b_l0, b_l1, b_l2, b_l3, b_l4, b_l5, b_l6, Bool.true_and, Bool.and_true, cond_true, b01_0, b01_1, i10, true_and, and_true, true_or, or_true, u_rd, u_2, u_at, reduceIte, eq_self, not_true_eq_false, not_false_eq_true, false_imp_iff, true_imp_iff, forall_const, b_nm3_0, b_nm3_1, b_nm3_2, b_nm3_3, b_nm3_4, b_nm3_5, b_nm3_6, b_nm3_7, b_nm3_8, b_nm3_9, b_nm3_10, b_nm3_11, b_nm3_100, b_nm3_101, b_nm3_102, b_nm3_200, b_nm3_201, b_nm3_202, b_nm3_203, b_nm3_204, b_nm3_205, b_nm3_206, b_nm3_207, b_nm3_208, b_ns2_0, b_ns2_1, b_ns2_2, b_ns2_3, b_ns2_4, b_ns2_5, b_ns2_6, b_ns2_7, b_ns2_8, b_ns2_9, b_ns2_10, b_ns2_11, hv2, c1, c2, hT, hn, e2, b2, l2, l3, l4, l5, l6, l7, l8, n1, nI_1]
    exact h1 (by omega)
theorem pu_cnt_cong {f g : Nat → Bool} : ∀ {n : Nat}, (∀ j, j < n → f j = g j) → pu_cnt f n = pu_cnt g n
  | 0, _ => rfl
  | n + 1, h => by rw [pu_cnt, pu_cnt, pu_cnt_cong (fun j hj => h j (by omega)), h n (by omega)]
theorem sim_land {T : Nat} {μ : ab_S} (s g m d : Int32) (hd : d = 0 ∨ d = 1) (h : gd_rel T μ) : lw_sim1 gd_rel 103 153 T (0, 0) [s, g, m, d] μ := by
  have h0 := h
  obtain ⟨hT2, hT, hT', L, hL, hl, h1, h2, h3, h4, h5, h6, h7⟩ := h
  obtain ⟨n, hn2, hn, hn', hb, hs, -, -⟩ := st_all h5
  obtain ⟨ns, q1, q2, q3, q4⟩ := id h4
  show gd_run 103 0 [some (.inr 0), some (.inl s), some (.inl g), some (.inl m), some (.inl d), none] [] μ (0, 0) _
  by_cases hx : x_land T n ns s g m
  · exact c_land_bad hT hT2 hn hn2 q2 q1 hx ⟨_, rfl, m_land_bad hT' hT2 hn' hn2 q3 q1 hx ⟨rfl, h0⟩⟩
  · unfold x_land at hx
    obtain ⟨s, hs', rfl⟩ := i_of (x := s) (n := 29) (by omega) (by omega) (by omega)
    obtain ⟨g, hg', rfl⟩ := i_of (x := g) (n := 3) (by omega) (by omega) (by omega)
    obtain ⟨k, hk', rfl⟩ := i_of (x := m) (n := 3000) (by omega) (by omega) (by omega)
    rw [nI_toInt (by omega), nI_toInt (by omega), nI_toInt (by omega)] at hx
    obtain ⟨r1, r2, r3, r4⟩ := hs g (by omega)
    obtain ⟨y, hy⟩ : ∃ y : Nat, (y : Int) = (μ.1 32 g).toInt - (μ.1 33 g).toInt := ⟨((μ.1 32 g).toInt - (μ.1 33 g).toInt).toNat, by omega⟩
    have hroom : μ.1 63 g = μ.1 32 g := by
      obtain ⟨_, _, _, _, hg4, _⟩ := h5
      exact (hg4 g (by omega)).1.symm
    refine c_land_ok (T := T) (n := n) (ns := ns) (s := s) (g := g) (k := k) (y := y) hT (by omega) hn (by omega) q2 q1 (by omega) (by omega) (by omega) (by omega) hd ?_ (by omega) (by rw [hl]; rfl) (by rw [hl]; rfl) (by rw [hl]; rfl) (by rw [hl]; rfl) (by rw [hl]; rfl) (by rw [hl]; rfl) (by rw [hl]; rfl) (by rw [hl]; rfl) (by rw [hl]; rfl) (fun hz => ⟨_, rfl, ?_⟩) (fun hz => ⟨_, rfl, ?_⟩)
    · rw [i_eq, nI_toInt (by omega), i_sub (by omega) (by omega)]
      omega
    · exact m_land_ok (T := T) (n := n) (ns := ns) (s := s) (g := g) (k := k) (y := y) hT' (by omega) hn' (by omega) q3 q1 (by omega) (by omega) (by omega) (by omega) hd (by omega) (by rw [hroom]; omega) (by rw [hroom, r1]; omega) hb (by rw [hl]; rfl) (by rw [hl]; rfl) (by rw [hl]; rfl) (by rw [hl]; rfl) (by rw [hl]; rfl) (by rw [hl]; rfl) (by rw [hl]; rfl) (by rw [hl]; rfl) (fun _ => ⟨rfl, h0⟩) (fun q => absurd hz (by omega))
    · have rd : ∀ c, 44 ≤ c → (st_new μ T n s g (min k y) d).1 c = μ.1 c := fun c hc => by
        unfold st_new
        simp only [u_rd]
        repeat rw [if_neg (by omega)]
      have rd11 : (st_new μ T n s g (min k y) d).1 11 = μ.1 11 := by
        unfold st_new
        simp +decide only [b_res, b_resN, b_nm0, b_nm1, b_nm2, b_ns0, b_ns1, b_l0, b_l1, b_l2, b_l3, b_l4, b_l5, b_l6, Bool.true_and, Bool.and_true, cond_true, b01_0, b01_1, i10, true_and, and_true, true_or, or_true, u_rd, u_2, u_at, reduceIte, eq_self, not_true_eq_false, not_false_eq_true, false_imp_iff, true_imp_iff, forall_const, b_nm3_0, b_nm3_1, b_nm3_2, b_nm3_3, b_nm3_4, b_nm3_5, b_nm3_6, b_nm3_7, b_nm3_8, b_nm3_9, b_nm3_10, b_nm3_11, b_nm3_100, b_nm3_101, b_nm3_102, b_nm3_200, b_nm3_201, b_nm3_202, b_nm3_203, b_nm3_204, b_nm3_205, b_nm3_206, b_nm3_207, b_nm3_208, b_ns2_0, b_ns2_1, b_ns2_2, b_ns2_3, b_ns2_4, b_ns2_5, b_ns2_6, b_ns2_7, b_ns2_8, b_ns2_9, b_ns2_10, b_ns2_11]
      have len : (st_new μ T n s g (min k y) d).2 = μ.2 := rfl
      refine m_land_ok (T := T) (n := n) (ns := ns) (s := s) (g := g) (k := k) (y := y) (by rw [rd11]; exact hT') (by omega) (by rw [rd11]; exact hn') (by omega) (by rw [rd11]; exact q3) q1 (by omega) (by omega) (by omega) (by omega) hd (by omega) (by rw [rd _ (by omega), hroom]; omega) (by rw [rd _ (by omega), rd _ (by omega), rd _ (by omega), hroom, r1]; omega) (by rw [rd _ (by omega)]; exact hb) (by rw [len, hl]; rfl) (by rw [len, hl]; rfl) (by rw [len, hl]; rfl) (by rw [len, hl]; rfl) (by rw [len, hl]; rfl) (by rw [len, hl]; rfl) (by rw [len, hl]; rfl) (by rw [len, hl]; rfl) (fun q => absurd hz (by omega)) (fun _ => ⟨rfl, ?_⟩)
      generalize hzz : min k y = z at hz ⊢
      have hzk : z ≤ k ∧ z ≤ y := by omega
      unfold gd_rel sm_new st_new
      simp +decide only [b_res, b_resN, b_nm0, b_nm1, b_nm2, b_ns0, b_ns1, b_l0, b_l1, b_l2, b_l3, b_l4, b_l5, b_l6, Bool.true_and, Bool.and_true, cond_true, b01_0, b01_1, i10, true_and, and_true, true_or, or_true, u_rd, u_2, u_at, reduceIte, eq_self, not_true_eq_false, not_false_eq_true, false_imp_iff, true_imp_iff, forall_const, b_nm3_0, b_nm3_1, b_nm3_2, b_nm3_3, b_nm3_4, b_nm3_5, b_nm3_6, b_nm3_7, b_nm3_8, b_nm3_9, b_nm3_10, b_nm3_11, b_nm3_100, b_nm3_101, b_nm3_102, b_nm3_200, b_nm3_201, b_nm3_202, b_nm3_203, b_nm3_204, b_nm3_205, b_nm3_206, b_nm3_207, b_nm3_208, b_ns2_0, b_ns2_1, b_ns2_2, b_ns2_3, b_ns2_4, b_ns2_5, b_ns2_6, b_ns2_7, b_ns2_8, b_ns2_9, b_ns2_10, b_ns2_11]
      have tz : (nI z).toInt = (z : Int) := nI_toInt (by omega)
      have tg : (nI g).toInt = (g : Int) := nI_toInt (by omega)
      have tT : (nI T).toInt = (T : Int) := nI_toInt (by omega)
      refine ⟨hT2, hT, hT', L, hL, hl, h1, h2, h3, h4, ?_, h6, ?_⟩
      · obtain ⟨n0, e0, e1, e2, hg4, hj⟩ := h5
        have : n0 = n := (nI_eq (by omega) (by omega)).mp (e1.symm.trans hn)
        subst this
        refine ⟨n0 + 1, by omega, rfl, rfl, fun g' hg'4 => ?_, fun j hjn => ?_⟩
        · obtain ⟨f1, f2, f3, f4⟩ := hg4 g' hg'4
          have es : pu_sum (fun j => if (upd (μ.1 35) n0 (nI g) j).toInt = (g' : Int) then (upd (μ.1 38) n0 (nI z) j).toInt else 0) n0 = pu_sum (fun j => if (μ.1 35 j).toInt = (g' : Int) then (μ.1 38 j).toInt else 0) n0 := pu_cong (fun j hjn => by
            simp only [u_at, if_neg (show j ≠ n0 by omega)])
          refine ⟨f1, f2, ?_, ?_⟩
          · rw [pu_sum, es, ← f3]
            simp only [u_at, reduceIte, tz, tg]
            by_cases hgg : g' = g
            · subst hgg
              rw [if_pos rfl, if_pos rfl, i_add (by omega) (by omega), tz]
            · rw [if_neg hgg, if_neg (by omega)]
              omega
          · simp only [u_at]
            by_cases hgg : g' = g
            · subst hgg
              rw [if_pos rfl, i_add (by omega) (by omega), tz]
              omega
            · rw [if_neg hgg]
              exact f4
        · by_cases hjn0 : j = n0
          · subst hjn0
            simp only [u_at, reduceIte, tz, tg, tT, true_and]
            refine ⟨by omega, by omega, by omega, by omega, by omega, by omega, by omega, by omega, by omega, hd⟩
          · simp only [u_at, if_neg hjn0]
            exact hj j (by omega)
      · obtain ⟨ng, e, hg1, hg2, hg3, hg4, hg5⟩ := h7
        refine ⟨ng, e, hg1, hg2, hg3, fun nl hnl hnl2 => ?_, hg5⟩
        have : nl = n + 1 := (nI_eq (by omega) (by omega)).mp hnl.symm
        subst this
        have a := hg4 n hn hn2
        rw [pu_cnt, pu_cnt_cong (g := fun j => decide (μ.1 38 j = 0)) (fun j hjn => by simp only [u_at, if_neg (show j ≠ n by omega)])]
        omega
