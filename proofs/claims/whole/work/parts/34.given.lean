theorem q_n0 {a : Nat} (h : a < 2 ^ 31) : (nI a < 0) = False := eq_false (nI_pos h)
theorem q_n1 {a : Nat} (h : a < 2 ^ 31) : ((0 : Int32) ≤ nI a) = True := eq_true (nI_pos' h)
theorem q_lt {a b : Nat} (h : a < b) (hb : b < 2 ^ 31) : (nI a < nI b) = True := eq_true (nI_lt h hb)
theorem q_nlt {a b : Nat} (h : b ≤ a) (ha : a < 2 ^ 31) : (nI a < nI b) = False := eq_false (nI_nlt h ha)
theorem q_le {a b : Nat} (h : a ≤ b) (hb : b < 2 ^ 31) : (nI a ≤ nI b) = True := eq_true (nI_le h hb)
theorem q_nle {a b : Nat} (h : a < b) (hb : b < 2 ^ 31) : (nI b ≤ nI a) = False := eq_false (nI_ge h hb)
theorem q_in {a b : Nat} (h : a < b) (hb : b < 2 ^ 31) : vp_in (nI a) b = True := eq_true (v_nI h hb)
theorem q_eq {a b : Nat} (ha : a < 2 ^ 31) (hb : b < 2 ^ 31) : (nI a = nI b) = (a = b) := propext (nI_eq ha hb)
theorem q_ne {a b : Nat} (h : a ≠ b) (ha : a < 2 ^ 31) (hb : b < 2 ^ 31) : (nI a = nI b) = False := eq_false (fun q => h ((nI_eq ha hb).mp q))
theorem q_m1 {a : Nat} (ha : a < 2 ^ 31) : (nI a = -1) = False := eq_false (fun q => by
  have := congrArg Int32.toInt q
  rw [nI_toInt ha, kI_m1] at this
  omega)
-- given
def lg_sum (pl me : Nat → Int32) (p : Int) (s n : Nat) : Int := pu_sum (fun i => if (pl (s + i)).toInt = p then (me (s + i)).toInt else 0) n
theorem lg_sum_s (pl me : Nat → Int32) (p : Int) (s n : Nat) : lg_sum pl me p s (n + 1) = lg_sum pl me p s n + (if (pl (s + n)).toInt = p then (me (s + n)).toInt else 0) := rfl
theorem lg_sum_b {pl me : Nat → Int32} {p : Int} {s n : Nat} (hb : ∀ i, i < n → 0 ≤ (me (s + i)).toInt ∧ (me (s + i)).toInt ≤ 3000) : 0 ≤ lg_sum pl me p s n ∧ lg_sum pl me p s n ≤ 3000 * (n : Int) := pu_le (fun j hj => by
  have := hb j hj
  split <;> omega)
theorem c_sum_lp {μ : ab_S} {p : Int32} {b : ab_B} {Q : ab_Q} {m s n L : Nat} (hm : m < 120) (l0 : μ.2 45 = 120) (l1 : μ.2 46 = L) (l2 : μ.2 49 = L) (he : μ.1 45 m = nI (s + n)) (hL : s + n ≤ L) (hL2 : L ≤ 4096) (hb : ∀ i, i < n → 0 ≤ (μ.1 49 (s + i)).toInt ∧ (μ.1 49 (s + i)).toInt ≤ 3000) (hQ : ∀ v : Int32, v.toInt = lg_sum (μ.1 46) (μ.1 49) p.toInt s n → Q (some v) μ) : ∀ i, i ≤ n → ∀ acc : Int32, acc.toInt = lg_sum (μ.1 46) (μ.1 49) p.toInt s i → gd_run 28 9 [some (.inr 9), some (.inl p), some (.inl (nI m)), some (.inl acc), some (.inl (nI (s + i)))] [] μ b Q := by
  have e1 : (nI m).toNatClampNeg = m := nI_clamp (by omega)
  have g1 : (nI m < 0) = False := q_n0 (by omega)
  have g2 : ((120 : Int32) ≤ nI m) = False := q_nle (a := m) (b := 120) (by omega) (by omega)
  have g3 : vp_in (nI m) 120 = True := q_in (by omega) (by omega)
  refine lp_up (fun acc ha => ?_) (fun i hi ih acc ha => ?_)
  · have g4 : (nI (s + n) ≤ nI (s + n)) = True := eq_true (Int32.le_refl _)
    rw [s_28_9]
    simp +decide only [s_28_0, s_28_1, s_28_2, s_28_3, s_28_4, s_28_7, s_28_11, s_28_12, s_28_13, s_28_16, s_28_19, s_28_20, s_28_23, s_28_25, s_28_26, s_28_27, s_28_30, s_28_31, s_28_32, s_28_35, s_28_37, s_28_38, s_28_39, s_28_40, s_28_43, s_28_46, s_28_47, s_33_0, s_33_1, s_33_4, s_33_7, s_33_8, s_33_11, s_33_12, s_33_13, s_33_16, s_33_17, s_117_0, s_117_1, s_117_4, s_117_5, s_117_7, s_117_10, s_117_11, s_117_14, s_117_15, b_res, b_resN, b_nm0, b_nm1, b_nm2, b_ns0, b_ns1, b_l0, b_l1, b_l2, b_l3, b_l4, b_l5, b_l6, Bool.true_and, Bool.and_true, cond_true, b01_0, b01_1, i10, true_and, and_true, true_or, or_true, u_rd, u_2, u_at, reduceIte, eq_self, not_true_eq_false, not_false_eq_true, false_imp_iff, true_imp_iff, forall_const, b_nm3_0, b_nm3_1, b_nm3_2, b_nm3_3, b_nm3_4, b_nm3_5, b_nm3_6, b_nm3_7, b_nm3_8, b_nm3_9, b_nm3_10, b_nm3_11, b_nm3_100, b_nm3_101, b_nm3_102, b_nm3_200, b_nm3_201, b_nm3_202, b_nm3_203, b_nm3_204, b_nm3_205, b_nm3_206, b_nm3_207, b_nm3_208, b_ns2_0, b_ns2_1, b_ns2_2, b_ns2_3, b_ns2_4, b_ns2_5, b_ns2_6, b_ns2_7, b_ns2_8, b_ns2_9, b_ns2_10, b_ns2_11, b_ns2_12, b_ns2_13, b_ns2_14, b_ns2_15, b_ns2_16, b_ns2_17, b_ns2_18, b_ns2_19, b_ns2_20, b_ns2_21, b_ns2_22, b_ns2_23, b_ns2_24, b_ns2_25, b_ns2_26, b_ns2_27, b_ns2_28, b_ns2_29, b_ns2_30, b_ns2_31, b_ns2_32, b_ns2_33, b_ns2_34, b_ns2_35, b_ns2_36, b_ns2_37, b_ns2_38, b_ns2_39, b_ns2_40, b_ns2_41, b_ns2_42, b_ns2_43, b_ns2_44, b_ns2_45, b_ns2_50, b_ns2_51, b_ns2_52, b_ns2_53, b_ns2_54, b_ns2_55, b_ns2_56, b_ns2_57, b_ns2_58, b_ns2_59, b_ns2_60, b_ns2_61, b_ns2_62, b_ns2_63, b_ns2_64, b_ns2_65, b_ns2_66, b_ns2_67, b_ns2_68, b_ns2_69, b_ns2_70, b_ns2_71, b_ns2_72, b_ns2_73, b_ns2_74, b_ns2_75, b_ns2_76, b_ns2_77, b_ns2_78, b_ns2_79, b_ns2_80, b_ns2_81, b_ns2_82, b_ns2_83, b_ns2_84, b_ns2_85, b_ns2_86, b_ns2_87, b_ns2_88, e1, l0, he, g1, g2, g3, g4]
    exact hQ acc ha
  · have g4 : (nI (s + n) ≤ nI (s + i)) = False := q_nle (by omega) (by omega)
    have g5 : vp_in (nI (s + i)) L = True := q_in (by omega) (by omega)
    have e2 : (nI (s + i)).toNatClampNeg = s + i := nI_clamp (by omega)
    have hbi := hb i hi
    have hs := lg_sum_b (pl := μ.1 46) (me := μ.1 49) (p := p.toInt) (s := s) (n := i) (fun j hj => hb j (by omega))
    rw [s_28_9]
    simp +decide only [s_28_0, s_28_1, s_28_2, s_28_3, s_28_4, s_28_7, s_28_11, s_28_12, s_28_13, s_28_16, s_28_19, s_28_20, s_28_23, s_28_25, s_28_26, s_28_27, s_28_30, s_28_31, s_28_32, s_28_35, s_28_37, s_28_38, s_28_39, s_28_40, s_28_43, s_28_46, s_28_47, s_33_0, s_33_1, s_33_4, s_33_7, s_33_8, s_33_11, s_33_12, s_33_13, s_33_16, s_33_17, s_117_0, s_117_1, s_117_4, s_117_5, s_117_7, s_117_10, s_117_11, s_117_14, s_117_15, b_res, b_resN, b_nm0, b_nm1, b_nm2, b_ns0, b_ns1, b_l0, b_l1, b_l2, b_l3, b_l4, b_l5, b_l6, Bool.true_and, Bool.and_true, cond_true, b01_0, b01_1, i10, true_and, and_true, true_or, or_true, u_rd, u_2, u_at, reduceIte, eq_self, not_true_eq_false, not_false_eq_true, false_imp_iff, true_imp_iff, forall_const, b_nm3_0, b_nm3_1, b_nm3_2, b_nm3_3, b_nm3_4, b_nm3_5, b_nm3_6, b_nm3_7, b_nm3_8, b_nm3_9, b_nm3_10, b_nm3_11, b_nm3_100, b_nm3_101, b_nm3_102, b_nm3_200, b_nm3_201, b_nm3_202, b_nm3_203, b_nm3_204, b_nm3_205, b_nm3_206, b_nm3_207, b_nm3_208, b_ns2_0, b_ns2_1, b_ns2_2, b_ns2_3, b_ns2_4, b_ns2_5, b_ns2_6, b_ns2_7, b_ns2_8, b_ns2_9, b_ns2_10, b_ns2_11, b_ns2_12, b_ns2_13, b_ns2_14, b_ns2_15, b_ns2_16, b_ns2_17, b_ns2_18, b_ns2_19, b_ns2_20, b_ns2_21, b_ns2_22, b_ns2_23, b_ns2_24, b_ns2_25, b_ns2_26, b_ns2_27, b_ns2_28, b_ns2_29, b_ns2_30, b_ns2_31, b_ns2_32, b_ns2_33, b_ns2_34, b_ns2_35, b_ns2_36, b_ns2_37, b_ns2_38, b_ns2_39, b_ns2_40, b_ns2_41, b_ns2_42, b_ns2_43, b_ns2_44, b_ns2_45, b_ns2_50, b_ns2_51, b_ns2_52, b_ns2_53, b_ns2_54, b_ns2_55, b_ns2_56, b_ns2_57, b_ns2_58, b_ns2_59, b_ns2_60, b_ns2_61, b_ns2_62, b_ns2_63, b_ns2_64, b_ns2_65, b_ns2_66, b_ns2_67, b_ns2_68, b_ns2_69, b_ns2_70, b_ns2_71, b_ns2_72, b_ns2_73, b_ns2_74, b_ns2_75, b_ns2_76, b_ns2_77, b_ns2_78, b_ns2_79, b_ns2_80, b_ns2_81, b_ns2_82, b_ns2_83, b_ns2_84, b_ns2_85, b_ns2_86, b_ns2_87, b_ns2_88, e1, e2, l0, l1, l2, he, g1, g2, g3, g4, g5, nI_1]
    refine ⟨fun h => ih _ ?_, fun h => ih _ ?_⟩
    · rw [lg_sum_s, if_pos (by rw [h]), i_add (by omega) (by omega), ha]
    · rw [lg_sum_s, if_neg (fun q => h (Int32.toInt_inj.mp q)), ha]
      omega
theorem c_sum {μ : ab_S} {p : Int32} {b : ab_B} {Q : ab_Q} {m s n L : Nat} (hm : m < 120) (l0 : μ.2 45 = 120) (l1 : μ.2 46 = L) (l2 : μ.2 49 = L) (hs : (0 < m → μ.1 45 (m - 1) = nI s) ∧ (m = 0 → s = 0)) (he : μ.1 45 m = nI (s + n)) (hL : s + n ≤ L) (hL2 : L ≤ 4096) (hb : ∀ i, i < n → 0 ≤ (μ.1 49 (s + i)).toInt ∧ (μ.1 49 (s + i)).toInt ≤ 3000) (hQ : ∀ v : Int32, v.toInt = lg_sum (μ.1 46) (μ.1 49) p.toInt s n → Q (some v) μ) : gd_run 28 0 [some (.inr 9), some (.inl p), some (.inl (nI m)), none, none] [] μ b Q := by
  have key := c_sum_lp (b := b) hm l0 l1 l2 he hL hL2 hb hQ 0 (by omega) 0 rfl
  cases m with
  | zero =>
    have := hs.2 rfl
    subst this
    have g0 : (nI 0 ≤ 0) = True := by decide
    simp +decide only [s_28_0, s_28_1, s_28_2, s_28_3, s_28_4, s_28_7, s_28_11, s_28_12, s_28_13, s_28_16, s_28_19, s_28_20, s_28_23, s_28_25, s_28_26, s_28_27, s_28_30, s_28_31, s_28_32, s_28_35, s_28_37, s_28_38, s_28_39, s_28_40, s_28_43, s_28_46, s_28_47, s_32_0, s_32_1, s_32_4, s_32_5, s_32_6, s_32_7, s_32_8, s_32_11, s_32_14, s_32_15, b_res, b_resN, b_nm0, b_nm1, b_nm2, b_ns0, b_ns1, b_l0, b_l1, b_l2, b_l3, b_l4, b_l5, b_l6, Bool.true_and, Bool.and_true, cond_true, b01_0, b01_1, i10, true_and, and_true, true_or, or_true, u_rd, u_2, u_at, reduceIte, eq_self, not_true_eq_false, not_false_eq_true, false_imp_iff, true_imp_iff, forall_const, b_nm3_0, b_nm3_1, b_nm3_2, b_nm3_3, b_nm3_4, b_nm3_5, b_nm3_6, b_nm3_7, b_nm3_8, b_nm3_9, b_nm3_10, b_nm3_11, b_nm3_100, b_nm3_101, b_nm3_102, b_nm3_200, b_nm3_201, b_nm3_202, b_nm3_203, b_nm3_204, b_nm3_205, b_nm3_206, b_nm3_207, b_nm3_208, b_ns2_0, b_ns2_1, b_ns2_2, b_ns2_3, b_ns2_4, b_ns2_5, b_ns2_6, b_ns2_7, b_ns2_8, b_ns2_9, b_ns2_10, b_ns2_11, b_ns2_12, b_ns2_13, b_ns2_14, b_ns2_15, b_ns2_16, b_ns2_17, b_ns2_18, b_ns2_19, b_ns2_20, b_ns2_21, b_ns2_22, b_ns2_23, b_ns2_24, b_ns2_25, b_ns2_26, b_ns2_27, b_ns2_28, b_ns2_29, b_ns2_30, b_ns2_31, b_ns2_32, b_ns2_33, b_ns2_34, b_ns2_35, b_ns2_36, b_ns2_37, b_ns2_38, b_ns2_39, b_ns2_40, b_ns2_41, b_ns2_42, b_ns2_43, b_ns2_44, b_ns2_45, b_ns2_50, b_ns2_51, b_ns2_52, b_ns2_53, b_ns2_54, b_ns2_55, b_ns2_56, b_ns2_57, b_ns2_58, b_ns2_59, b_ns2_60, b_ns2_61, b_ns2_62, b_ns2_63, b_ns2_64, b_ns2_65, b_ns2_66, b_ns2_67, b_ns2_68, b_ns2_69, b_ns2_70, b_ns2_71, b_ns2_72, b_ns2_73, b_ns2_74, b_ns2_75, b_ns2_76, b_ns2_77, b_ns2_78, b_ns2_79, b_ns2_80, b_ns2_81, b_ns2_82, b_ns2_83, b_ns2_84, b_ns2_85, b_ns2_86, b_ns2_87, b_ns2_88, g0]
    exact key
  | succ k =>
    have hs := hs.1 (by omega)
    rw [Nat.add_sub_cancel] at hs
    have g0 : (nI (k + 1) ≤ 0) = False := q_nle (a := 0) (by omega) (by omega)
    have g1 : (nI k < 0) = False := q_n0 (by omega)
    have g2 : ((120 : Int32) ≤ nI k) = False := q_nle (a := k) (b := 120) (by omega) (by omega)
    have g3 : vp_in (nI k) 120 = True := q_in (by omega) (by omega)
    have e1 : (nI k).toNatClampNeg = k := nI_clamp (by omega)
    simp +decide only [s_28_0, s_28_1, s_28_2, s_28_3, s_28_4, s_28_7, s_28_11, s_28_12, s_28_13, s_28_16, s_28_19, s_28_20, s_28_23, s_28_25, s_28_26, s_28_27, s_28_30, s_28_31, s_28_32, s_28_35, s_28_37, s_28_38, s_28_39, s_28_40, s_28_43, s_28_46, s_28_47, s_32_0, s_32_1, s_32_4, s_32_5, s_32_6, s_32_7, s_32_8, s_32_11, s_32_14, s_32_15, s_33_0, s_33_1, s_33_4, s_33_7, s_33_8, s_33_11, s_33_12, s_33_13, s_33_16, s_33_17, s_117_0, s_117_1, s_117_4, s_117_5, s_117_7, s_117_10, s_117_11, s_117_14, s_117_15, b_res, b_resN, b_nm0, b_nm1, b_nm2, b_ns0, b_ns1, b_l0, b_l1, b_l2, b_l3, b_l4, b_l5, b_l6, Bool.true_and, Bool.and_true, cond_true, b01_0, b01_1, i10, true_and, and_true, true_or, or_true, u_rd, u_2, u_at, reduceIte, eq_self, not_true_eq_false, not_false_eq_true, false_imp_iff, true_imp_iff, forall_const, b_nm3_0, b_nm3_1, b_nm3_2, b_nm3_3, b_nm3_4, b_nm3_5, b_nm3_6, b_nm3_7, b_nm3_8, b_nm3_9, b_nm3_10, b_nm3_11, b_nm3_100, b_nm3_101, b_nm3_102, b_nm3_200, b_nm3_201, b_nm3_202, b_nm3_203, b_nm3_204, b_nm3_205, b_nm3_206, b_nm3_207, b_nm3_208, b_ns2_0, b_ns2_1, b_ns2_2, b_ns2_3, b_ns2_4, b_ns2_5, b_ns2_6, b_ns2_7, b_ns2_8, b_ns2_9, b_ns2_10, b_ns2_11, b_ns2_12, b_ns2_13, b_ns2_14, b_ns2_15, b_ns2_16, b_ns2_17, b_ns2_18, b_ns2_19, b_ns2_20, b_ns2_21, b_ns2_22, b_ns2_23, b_ns2_24, b_ns2_25, b_ns2_26, b_ns2_27, b_ns2_28, b_ns2_29, b_ns2_30, b_ns2_31, b_ns2_32, b_ns2_33, b_ns2_34, b_ns2_35, b_ns2_36, b_ns2_37, b_ns2_38, b_ns2_39, b_ns2_40, b_ns2_41, b_ns2_42, b_ns2_43, b_ns2_44, b_ns2_45, b_ns2_50, b_ns2_51, b_ns2_52, b_ns2_53, b_ns2_54, b_ns2_55, b_ns2_56, b_ns2_57, b_ns2_58, b_ns2_59, b_ns2_60, b_ns2_61, b_ns2_62, b_ns2_63, b_ns2_64, b_ns2_65, b_ns2_66, b_ns2_67, b_ns2_68, b_ns2_69, b_ns2_70, b_ns2_71, b_ns2_72, b_ns2_73, b_ns2_74, b_ns2_75, b_ns2_76, b_ns2_77, b_ns2_78, b_ns2_79, b_ns2_80, b_ns2_81, b_ns2_82, b_ns2_83, b_ns2_84, b_ns2_85, b_ns2_86, b_ns2_87, b_ns2_88, g0, g1, g2, g3, nI_pred, l0, e1, hs]
    exact key
def x_given (T : Nat) (p m : Int32) : Prop := p.toInt < 0 ∨ 29 < p.toInt ∨ m.toInt < 0 ∨ (T : Int) ≤ m.toInt
theorem c_given_bad {μ : ab_S} {p m : Int32} {b : ab_B} {Q : ab_Q} {T : Nat} (hT : μ.1 0 10 = nI T) (hT2 : T ≤ 120) (hx : x_given T p m) (hQ : Q (some (-1)) μ) : gd_run 111 0 [some (.inr 0), some (.inl p), some (.inl m)] [] μ b Q := by
  have t1 : (nI T).toInt = (T : Int) := nI_toInt (by omega)
  unfold x_given at hx
  simp +decide only [s_111_0, s_111_1, s_111_4, s_111_7, s_111_8, s_111_9, s_111_12, s_111_15, s_111_16, s_111_19, s_111_20, s_111_21, s_111_24, s_111_27, s_111_28, s_116_0, s_116_1, s_116_4, s_116_5, s_116_6, s_116_9, s_116_12, s_116_13, s_116_16, s_116_17, s_118_0, s_118_1, s_118_4, s_118_5, s_118_7, s_118_10, s_118_11, s_118_14, s_118_15, b_res, b_resN, b_nm0, b_nm1, b_nm2, b_ns0, b_ns1, b_l0, b_l1, b_l2, b_l3, b_l4, b_l5, b_l6, Bool.true_and, Bool.and_true, cond_true, b01_0, b01_1, i10, true_and, and_true, true_or, or_true, u_rd, u_2, u_at, reduceIte, eq_self, not_true_eq_false, not_false_eq_true, false_imp_iff, true_imp_iff, forall_const, b_nm3_0, b_nm3_1, b_nm3_2, b_nm3_3, b_nm3_4, b_nm3_5, b_nm3_6, b_nm3_7, b_nm3_8, b_nm3_9, b_nm3_10, b_nm3_11, b_nm3_100, b_nm3_101, b_nm3_102, b_nm3_200, b_nm3_201, b_nm3_202, b_nm3_203, b_nm3_204, b_nm3_205, b_nm3_206, b_nm3_207, b_nm3_208, b_ns2_0, b_ns2_1, b_ns2_2, b_ns2_3, b_ns2_4, b_ns2_5, b_ns2_6, b_ns2_7, b_ns2_8, b_ns2_9, b_ns2_10, b_ns2_11, b_ns2_12, b_ns2_13, b_ns2_14, b_ns2_15, b_ns2_16, b_ns2_17, b_ns2_18, b_ns2_19, b_ns2_20, b_ns2_21, b_ns2_22, b_ns2_23, b_ns2_24, b_ns2_25, b_ns2_26, b_ns2_27, b_ns2_28, b_ns2_29, b_ns2_30, b_ns2_31, b_ns2_32, b_ns2_33, b_ns2_34, b_ns2_35, b_ns2_36, b_ns2_37, b_ns2_38, b_ns2_39, b_ns2_40, b_ns2_41, b_ns2_42, b_ns2_43, b_ns2_44, b_ns2_45, b_ns2_50, b_ns2_51, b_ns2_52, b_ns2_53, b_ns2_54, b_ns2_55, b_ns2_56, b_ns2_57, b_ns2_58, b_ns2_59, b_ns2_60, b_ns2_61, b_ns2_62, b_ns2_63, b_ns2_64, b_ns2_65, b_ns2_66, b_ns2_67, b_ns2_68, b_ns2_69, b_ns2_70, b_ns2_71, b_ns2_72, b_ns2_73, b_ns2_74, b_ns2_75, b_ns2_76, b_ns2_77, b_ns2_78, b_ns2_79, b_ns2_80, b_ns2_81, b_ns2_82, b_ns2_83, b_ns2_84, b_ns2_85, b_ns2_86, b_ns2_87, b_ns2_88, hT]
  simp only [i_lt, i_le, kI_m2, kI_m1, kI_0, kI_1, kI_2, kI_3, kI_4, kI_5, kI_6, kI_7, kI_8, kI_9, kI_10, kI_11, kI_12, kI_13, kI_14, kI_15, kI_16, kI_19, kI_20, kI_24, kI_29, kI_30, kI_31, kI_32, kI_48, kI_50, kI_57, kI_58, kI_59, kI_60, kI_97, kI_99, kI_100, kI_119, kI_120, kI_122, kI_149, kI_150, kI_199, kI_200, kI_255, kI_1000, kI_3000, kI_3700, kI_5000, t1]
  repeat' first | exact hQ | (exfalso; omega) | apply And.intro | intro _
theorem m_given_bad {μ : ab_S} {p m : Int32} {b : ab_B} {Q : ab_Q} {T : Nat} (hT : μ.1 11 0 = nI T) (hT2 : T ≤ 120) (hx : x_given T p m) (hQ : Q (some (-1)) μ) : gd_run 165 0 [some (.inr 11), some (.inl p), some (.inl m)] [] μ b Q := by
  have t1 : (nI T - 1).toInt = (T : Int) - 1 := pk_sub_toInt (b := 1) (by omega) (by omega)
  unfold x_given at hx
  simp +decide only [s_165_0, s_165_1, s_165_2, s_165_4, s_165_7, s_165_10, s_165_11, s_165_12, s_165_13, s_165_16, s_165_17, s_165_18, s_165_21, s_165_24, s_165_25, s_165_28, s_165_30, s_165_31, s_165_32, s_165_33, s_165_34, s_165_35, s_165_38, s_165_39, s_124_0, s_124_1, s_124_2, s_124_5, s_124_6, s_124_7, s_124_10, s_124_11, s_124_14, s_124_15, b_res, b_resN, b_nm0, b_nm1, b_nm2, b_ns0, b_ns1, b_l0, b_l1, b_l2, b_l3, b_l4, b_l5, b_l6, Bool.true_and, Bool.and_true, cond_true, b01_0, b01_1, i10, true_and, and_true, true_or, or_true, u_rd, u_2, u_at, reduceIte, eq_self, not_true_eq_false, not_false_eq_true, false_imp_iff, true_imp_iff, forall_const, b_nm3_0, b_nm3_1, b_nm3_2, b_nm3_3, b_nm3_4, b_nm3_5, b_nm3_6, b_nm3_7, b_nm3_8, b_nm3_9, b_nm3_10, b_nm3_11, b_nm3_100, b_nm3_101, b_nm3_102, b_nm3_200, b_nm3_201, b_nm3_202, b_nm3_203, b_nm3_204, b_nm3_205, b_nm3_206, b_nm3_207, b_nm3_208, b_ns2_0, b_ns2_1, b_ns2_2, b_ns2_3, b_ns2_4, b_ns2_5, b_ns2_6, b_ns2_7, b_ns2_8, b_ns2_9, b_ns2_10, b_ns2_11, b_ns2_12, b_ns2_13, b_ns2_14, b_ns2_15, b_ns2_16, b_ns2_17, b_ns2_18, b_ns2_19, b_ns2_20, b_ns2_21, b_ns2_22, b_ns2_23, b_ns2_24, b_ns2_25, b_ns2_26, b_ns2_27, b_ns2_28, b_ns2_29, b_ns2_30, b_ns2_31, b_ns2_32, b_ns2_33, b_ns2_34, b_ns2_35, b_ns2_36, b_ns2_37, b_ns2_38, b_ns2_39, b_ns2_40, b_ns2_41, b_ns2_42, b_ns2_43, b_ns2_44, b_ns2_45, b_ns2_50, b_ns2_51, b_ns2_52, b_ns2_53, b_ns2_54, b_ns2_55, b_ns2_56, b_ns2_57, b_ns2_58, b_ns2_59, b_ns2_60, b_ns2_61, b_ns2_62, b_ns2_63, b_ns2_64, b_ns2_65, b_ns2_66, b_ns2_67, b_ns2_68, b_ns2_69, b_ns2_70, b_ns2_71, b_ns2_72, b_ns2_73, b_ns2_74, b_ns2_75, b_ns2_76, b_ns2_77, b_ns2_78, b_ns2_79, b_ns2_80, b_ns2_81, b_ns2_82, b_ns2_83, b_ns2_84, b_ns2_85, b_ns2_86, b_ns2_87, b_ns2_88, hT]
  simp only [i_lt, i_le, kI_m2, kI_m1, kI_0, kI_1, kI_2, kI_3, kI_4, kI_5, kI_6, kI_7, kI_8, kI_9, kI_10, kI_11, kI_12, kI_13, kI_14, kI_15, kI_16, kI_19, kI_20, kI_24, kI_29, kI_30, kI_31, kI_32, kI_48, kI_50, kI_57, kI_58, kI_59, kI_60, kI_97, kI_99, kI_100, kI_119, kI_120, kI_122, kI_149, kI_150, kI_199, kI_200, kI_255, kI_1000, kI_3000, kI_3700, kI_5000, t1]
  repeat' first | exact hQ | (exfalso; omega) | apply And.intro | intro _
theorem q_parted {T m : Nat} (hT : T ≤ 120) (hm : m < T) : (nI m < nI T) = True ∧ (nI T ≤ nI m) = False ∧ (nI m < 0) = False := ⟨q_lt (by omega) (by omega), q_nle (by omega) (by omega), q_n0 (by omega)⟩
theorem led_at {T L : Nat} {lsz : Int32} {re : Nat → Int32} {sz : Int32} {facts ends pl ci lo me : Nat → Int32} {sz' : Int32} {mn gv gt tf tl tp tm : Nat → Int32} (h : R_led T L lsz re sz facts ends pl ci lo me sz' mn gv gt tf tl tp tm) (hL : ∃ i, i ≤ 7 ∧ L = 32 * 2 ^ i) {m : Nat} (hm : m < T) : L ≤ 4096 ∧ ∃ s n : Nat, s + n ≤ L ∧ ((0 < m → ends (m - 1) = nI s) ∧ (m = 0 → s = 0)) ∧ ends m = nI (s + n) ∧ tf m = nI s ∧ tf (m + 1) = nI (s + n) ∧ (∀ i, i < n → pl (s + i) = tp (s + i) ∧ lo (s + i) = tl (s + i) ∧ me (s + i) = tm (s + i) ∧ 0 ≤ (pl (s + i)).toInt ∧ (pl (s + i)).toInt < 30 ∧ 1 ≤ (me (s + i)).toInt ∧ (me (s + i)).toInt ≤ 3000 ∧ ci (s + i) = gt (30 * m + (pl (s + i)).toInt.toNat)) ∧ ∀ p : Nat, p < 30 → (gv (30 * m + p)).toInt = lg_sum pl me p s n ∧ 0 ≤ (gv (30 * m + p)).toInt ∧ (gv (30 * m + p)).toInt ≤ 50 := by
  obtain ⟨ng, e, hg1, hg2, hg3, hg4, hg5, hg6, hg7, hg8⟩ := h
  have hmono : ∀ i j, i ≤ j → j ≤ T → e i ≤ e j := by
    intro i j hij hjT
    induction j with
    | zero => rw [show i = 0 by omega]; omega
    | succ j ih =>
      by_cases hc : i = j + 1
      · rw [hc]; omega
      · have := ih (by omega) (by omega)
        have := (hg8 j (by omega)).1
        omega
  have hk1 := hmono (m + 1) T (by omega) (by omega)
  have hLL : L ≤ 4096 := by
    obtain ⟨i, hi, rfl⟩ := hL
    have hc : i = 0 ∨ i = 1 ∨ i = 2 ∨ i = 3 ∨ i = 4 ∨ i = 5 ∨ i = 6 ∨ i = 7 := by omega
    rcases hc with rfl | rfl | rfl | rfl | rfl | rfl | rfl | rfl <;> decide
  obtain ⟨r1, r2, r3, r4, r5⟩ := hg8 m hm
  have hk2 : e m + (e (m + 1) - e m) = e (m + 1) := by omega
  refine ⟨hLL, e m, e (m + 1) - e m, by omega, ⟨fun hk0 => ?_, fun hk0 => by rw [hk0]; exact hg5⟩, by rw [hk2]; exact r2, hg7 m (by omega), by rw [hk2]; exact hg7 (m + 1) (by omega), fun i hi => ?_, r5⟩
  · have := (hg8 (m - 1) (by omega)).2.1
    rw [show m - 1 + 1 = m by omega] at this
    exact this
  · obtain ⟨x1, x2, x3, x4, x5, x6, x7, x8, x9⟩ := r4 (e m + i) (by omega) (by omega)
    exact ⟨x1, x2, x3, x4, x5, x6, x7, x8⟩
theorem sim_given {T : Nat} {μ : ab_S} (p m : Int32) (h : gd_rel T μ) : lw_sim1 gd_rel 111 165 T (0, 0) [p, m] μ := by
  have h0 := h
  obtain ⟨hT2, hT, hT', L, hL, hl, h1, h2, h3, h4, h5, h6, h7⟩ := h
  show gd_run 111 0 [some (.inr 0), some (.inl p), some (.inl m)] [] μ (0, 0) _
  by_cases hx : x_given T p m
  · exact c_given_bad hT hT2 hx ⟨_, rfl, m_given_bad hT' hT2 hx ⟨rfl, h0⟩⟩
  · unfold x_given at hx
    obtain ⟨k, hk, rfl⟩ := i_of (x := m) (n := 119) (by omega) (by omega) (by omega)
    obtain ⟨q, hq, rfl⟩ := i_of (x := p) (n := 29) (by omega) (by omega) (by omega)
    rw [nI_toInt (by omega), nI_toInt (by omega)] at hx
    obtain ⟨g1, g2, g3⟩ := q_parted (T := T) (m := k) hT2 (by omega)
    have g4 : (nI q < 0) = False := q_n0 (by omega)
    have g5 : ((30 : Int32) ≤ nI q) = False := q_nle (a := q) (b := 30) (by omega) (by omega)
    obtain ⟨hLL, s, n, r1, r2, r3, r4, r5, r6, r7⟩ := led_at h7 hL (m := k) (by omega)
    simp +decide only [s_111_0, s_111_1, s_111_4, s_111_7, s_111_8, s_111_9, s_111_12, s_111_15, s_111_16, s_111_19, s_111_20, s_111_21, s_111_24, s_111_27, s_111_28, s_116_0, s_116_1, s_116_4, s_116_5, s_116_6, s_116_9, s_116_12, s_116_13, s_116_16, s_116_17, s_118_0, s_118_1, s_118_4, s_118_5, s_118_7, s_118_10, s_118_11, s_118_14, s_118_15, b_res, b_resN, b_nm0, b_nm1, b_nm2, b_ns0, b_ns1, b_l0, b_l1, b_l2, b_l3, b_l4, b_l5, b_l6, Bool.true_and, Bool.and_true, cond_true, b01_0, b01_1, i10, true_and, and_true, true_or, or_true, u_rd, u_2, u_at, reduceIte, eq_self, not_true_eq_false, not_false_eq_true, false_imp_iff, true_imp_iff, forall_const, b_nm3_0, b_nm3_1, b_nm3_2, b_nm3_3, b_nm3_4, b_nm3_5, b_nm3_6, b_nm3_7, b_nm3_8, b_nm3_9, b_nm3_10, b_nm3_11, b_nm3_100, b_nm3_101, b_nm3_102, b_nm3_200, b_nm3_201, b_nm3_202, b_nm3_203, b_nm3_204, b_nm3_205, b_nm3_206, b_nm3_207, b_nm3_208, b_ns2_0, b_ns2_1, b_ns2_2, b_ns2_3, b_ns2_4, b_ns2_5, b_ns2_6, b_ns2_7, b_ns2_8, b_ns2_9, b_ns2_10, b_ns2_11, b_ns2_12, b_ns2_13, b_ns2_14, b_ns2_15, b_ns2_16, b_ns2_17, b_ns2_18, b_ns2_19, b_ns2_20, b_ns2_21, b_ns2_22, b_ns2_23, b_ns2_24, b_ns2_25, b_ns2_26, b_ns2_27, b_ns2_28, b_ns2_29, b_ns2_30, b_ns2_31, b_ns2_32, b_ns2_33, b_ns2_34, b_ns2_35, b_ns2_36, b_ns2_37, b_ns2_38, b_ns2_39, b_ns2_40, b_ns2_41, b_ns2_42, b_ns2_43, b_ns2_44, b_ns2_45, b_ns2_50, b_ns2_51, b_ns2_52, b_ns2_53, b_ns2_54, b_ns2_55, b_ns2_56, b_ns2_57, b_ns2_58, b_ns2_59, b_ns2_60, b_ns2_61, b_ns2_62, b_ns2_63, b_ns2_64, b_ns2_65, b_ns2_66, b_ns2_67, b_ns2_68, b_ns2_69, b_ns2_70, b_ns2_71, b_ns2_72, b_ns2_73, b_ns2_74, b_ns2_75, b_ns2_76, b_ns2_77, b_ns2_78, b_ns2_79, b_ns2_80, b_ns2_81, b_ns2_82, b_ns2_83, b_ns2_84, b_ns2_85, b_ns2_86, b_ns2_87, b_ns2_88, hT, g1, g2, g3, g4, g5]
    refine c_sum (m := k) (s := s) (n := n) (L := L) (by omega) (by rw [hl]; rfl) (by rw [hl]; rfl) (by rw [hl]; rfl) r2 r3 r1 hLL (fun i hi => ?_) (fun v hv => ?_)
    · have := r6 i hi
      omega
    · simp +decide only [s_111_0, s_111_1, s_111_4, s_111_7, s_111_8, s_111_9, s_111_12, s_111_15, s_111_16, s_111_19, s_111_20, s_111_21, s_111_24, s_111_27, s_111_28, b_res, b_resN, b_nm0, b_nm1, b_nm2, b_ns0, b_ns1, b_l0, b_l1, b_l2, b_l3, b_l4, b_l5, b_l6, Bool.true_and, Bool.and_true, cond_true, b01_0, b01_1, i10, true_and, and_true, true_or, or_true, u_rd, u_2, u_at, reduceIte, eq_self, not_true_eq_false, not_false_eq_true, false_imp_iff, true_imp_iff, forall_const, b_nm3_0, b_nm3_1, b_nm3_2, b_nm3_3, b_nm3_4, b_nm3_5, b_nm3_6, b_nm3_7, b_nm3_8, b_nm3_9, b_nm3_10, b_nm3_11, b_nm3_100, b_nm3_101, b_nm3_102, b_nm3_200, b_nm3_201, b_nm3_202, b_nm3_203, b_nm3_204, b_nm3_205, b_nm3_206, b_nm3_207, b_nm3_208, b_ns2_0, b_ns2_1, b_ns2_2, b_ns2_3, b_ns2_4, b_ns2_5, b_ns2_6, b_ns2_7, b_ns2_8, b_ns2_9, b_ns2_10, b_ns2_11, b_ns2_12, b_ns2_13, b_ns2_14, b_ns2_15, b_ns2_16, b_ns2_17, b_ns2_18, b_ns2_19, b_ns2_20, b_ns2_21, b_ns2_22, b_ns2_23, b_ns2_24, b_ns2_25, b_ns2_26, b_ns2_27, b_ns2_28, b_ns2_29, b_ns2_30, b_ns2_31, b_ns2_32, b_ns2_33, b_ns2_34, b_ns2_35, b_ns2_36, b_ns2_37, b_ns2_38, b_ns2_39, b_ns2_40, b_ns2_41, b_ns2_42, b_ns2_43, b_ns2_44, b_ns2_45, b_ns2_50, b_ns2_51, b_ns2_52, b_ns2_53, b_ns2_54, b_ns2_55, b_ns2_56, b_ns2_57, b_ns2_58, b_ns2_59, b_ns2_60, b_ns2_61, b_ns2_62, b_ns2_63, b_ns2_64, b_ns2_65, b_ns2_66, b_ns2_67, b_ns2_68, b_ns2_69, b_ns2_70, b_ns2_71, b_ns2_72, b_ns2_73, b_ns2_74, b_ns2_75, b_ns2_76, b_ns2_77, b_ns2_78, b_ns2_79, b_ns2_80, b_ns2_81, b_ns2_82, b_ns2_83, b_ns2_84, b_ns2_85, b_ns2_86, b_ns2_87, b_ns2_88]
      refine ⟨v, rfl, ?_⟩
      show gd_run 165 0 [some (.inr 11), some (.inl (nI q)), some (.inl (nI k))] [] μ (0, 0) _
      have e3 : 30 * nI k + nI q = nI (30 * k + q) := by rw [show (30 : Int32) = nI 30 from rfl, pk_mul, nI_add]
      have e4 : (nI (30 * k + q)).toNatClampNeg = 30 * k + q := nI_clamp (by omega)
      have l1 : μ.2 75 = 3600 := by rw [hl]; rfl
      have g6 : vp_in (nI (30 * k + q)) 3600 = True := q_in (by omega) (by omega)
      have g7 : ((29 : Int32) < nI q) = False := q_nlt (a := 29) (b := q) (by omega) (by omega)
      have t1 : (nI T - 1) = nI (T - 1) := pk_sub (b := 1) (by omega)
      have g8 : (nI (T - 1) < nI k) = False := q_nlt (by omega) (by omega)
      simp +decide only [s_165_0, s_165_1, s_165_2, s_165_4, s_165_7, s_165_10, s_165_11, s_165_12, s_165_13, s_165_16, s_165_17, s_165_18, s_165_21, s_165_24, s_165_25, s_165_28, s_165_30, s_165_31, s_165_32, s_165_33, s_165_34, s_165_35, s_165_38, s_165_39, s_124_0, s_124_1, s_124_2, s_124_5, s_124_6, s_124_7, s_124_10, s_124_11, s_124_14, s_124_15, b_res, b_resN, b_nm0, b_nm1, b_nm2, b_ns0, b_ns1, b_l0, b_l1, b_l2, b_l3, b_l4, b_l5, b_l6, Bool.true_and, Bool.and_true, cond_true, b01_0, b01_1, i10, true_and, and_true, true_or, or_true, u_rd, u_2, u_at, reduceIte, eq_self, not_true_eq_false, not_false_eq_true, false_imp_iff, true_imp_iff, forall_const, b_nm3_0, b_nm3_1, b_nm3_2, b_nm3_3, b_nm3_4, b_nm3_5, b_nm3_6, b_nm3_7, b_nm3_8, b_nm3_9, b_nm3_10, b_nm3_11, b_nm3_100, b_nm3_101, b_nm3_102, b_nm3_200, b_nm3_201, b_nm3_202, b_nm3_203, b_nm3_204, b_nm3_205, b_nm3_206, b_nm3_207, b_nm3_208, b_ns2_0, b_ns2_1, b_ns2_2, b_ns2_3, b_ns2_4, b_ns2_5, b_ns2_6, b_ns2_7, b_ns2_8, b_ns2_9, b_ns2_10, b_ns2_11, b_ns2_12, b_ns2_13, b_ns2_14, b_ns2_15, b_ns2_16, b_ns2_17, b_ns2_18, b_ns2_19, b_ns2_20, b_ns2_21, b_ns2_22, b_ns2_23, b_ns2_24, b_ns2_25, b_ns2_26, b_ns2_27, b_ns2_28, b_ns2_29, b_ns2_30, b_ns2_31, b_ns2_32, b_ns2_33, b_ns2_34, b_ns2_35, b_ns2_36, b_ns2_37, b_ns2_38, b_ns2_39, b_ns2_40, b_ns2_41, b_ns2_42, b_ns2_43, b_ns2_44, b_ns2_45, b_ns2_50, b_ns2_51, b_ns2_52, b_ns2_53, b_ns2_54, b_ns2_55, b_ns2_56, b_ns2_57, b_ns2_58, b_ns2_59, b_ns2_60, b_ns2_61, b_ns2_62, b_ns2_63, b_ns2_64, b_ns2_65, b_ns2_66, b_ns2_67, b_ns2_68, b_ns2_69, b_ns2_70, b_ns2_71, b_ns2_72, b_ns2_73, b_ns2_74, b_ns2_75, b_ns2_76, b_ns2_77, b_ns2_78, b_ns2_79, b_ns2_80, b_ns2_81, b_ns2_82, b_ns2_83, b_ns2_84, b_ns2_85, b_ns2_86, b_ns2_87, b_ns2_88, hT', t1, e3, e4, l1, g1, g2, g3, g4, g6, g7, g8]
      refine ⟨?_, h0⟩
      rw [Option.some.injEq, i_eq, hv, nI_toInt (by omega)]
      exact (r7 q (by omega)).1
-- from
def fr_find (pl me lo : Nat → Int32) (p : Int32) : Nat → Nat → Int32 → Int32
  | 0, _, _ => -1
  | n + 1, s, left => if pl s = p then (if me s ≤ left then fr_find pl me lo p n (s + 1) (left - me s) else lo s) else fr_find pl me lo p n (s + 1) left
theorem fr_find_cong {pl me lo pl' me' lo' : Nat → Int32} {p : Int32} : ∀ (n s : Nat) (left : Int32), (∀ i, s ≤ i → i < s + n → pl i = pl' i ∧ me i = me' i ∧ lo i = lo' i) → fr_find pl me lo p n s left = fr_find pl' me' lo' p n s left
  | 0, _, _, _ => rfl
  | n + 1, s, left, h => by
    obtain ⟨a1, a2, a3⟩ := h s (by omega) (by omega)
    rw [fr_find, fr_find, a1, a2, a3, fr_find_cong n (s + 1) left (fun i h1 h2 => h i (by omega) (by omega)), fr_find_cong n (s + 1) (left - me' s) (fun i h1 h2 => h i (by omega) (by omega))]
theorem c_lotOf_lp {μ : ab_S} {p i0 : Int32} {b : ab_B} {Q : ab_Q} {m t L : Nat} (hm : m < 120) (l0 : μ.2 45 = 120) (l1 : μ.2 46 = L) (l2 : μ.2 49 = L) (l3 : μ.2 48 = L) (he : μ.1 45 m = nI t) (hL : t ≤ L) (hL2 : L ≤ 4096) : ∀ (n s : Nat) (left : Int32), s + n = t → Q (some (fr_find (μ.1 46) (μ.1 49) (μ.1 48) p n s left)) μ → gd_run 29 10 [some (.inr 9), some (.inl p), some (.inl (nI m)), some (.inl i0), some (.inl left), some (.inl (nI s))] [] μ b Q := by
  have e1 : (nI m).toNatClampNeg = m := nI_clamp (by omega)
  have g1 : (nI m < 0) = False := q_n0 (by omega)
  have g2 : ((120 : Int32) ≤ nI m) = False := q_nle (a := m) (b := 120) (by omega) (by omega)
  have g3 : vp_in (nI m) 120 = True := q_in (by omega) (by omega)
  intro n
  induction n with
  | zero =>
    intro s left hs hQ
    have g4 : (nI t ≤ nI s) = True := q_le (by omega) (by omega)
    rw [s_29_10]
    simp +decide only [s_29_0, s_29_1, s_29_3, s_29_4, s_29_5, s_29_8, s_29_12, s_29_13, s_29_14, s_29_17, s_29_20, s_29_21, s_29_24, s_29_26, s_29_27, s_29_28, s_29_31, s_29_33, s_29_34, s_29_37, s_29_39, s_29_40, s_29_43, s_29_44, s_29_47, s_29_49, s_29_50, s_29_51, s_29_53, s_29_54, s_29_57, s_29_59, s_29_60, s_29_61, s_29_63, s_29_66, s_29_69, s_29_70, s_33_0, s_33_1, s_33_4, s_33_7, s_33_8, s_33_11, s_33_12, s_33_13, s_33_16, s_33_17, s_117_0, s_117_1, s_117_4, s_117_5, s_117_7, s_117_10, s_117_11, s_117_14, s_117_15, b_res, b_resN, b_nm0, b_nm1, b_nm2, b_ns0, b_ns1, b_l0, b_l1, b_l2, b_l3, b_l4, b_l5, b_l6, Bool.true_and, Bool.and_true, cond_true, b01_0, b01_1, i10, true_and, and_true, true_or, or_true, u_rd, u_2, u_at, reduceIte, eq_self, not_true_eq_false, not_false_eq_true, false_imp_iff, true_imp_iff, forall_const, b_nm3_0, b_nm3_1, b_nm3_2, b_nm3_3, b_nm3_4, b_nm3_5, b_nm3_6, b_nm3_7, b_nm3_8, b_nm3_9, b_nm3_10, b_nm3_11, b_nm3_100, b_nm3_101, b_nm3_102, b_nm3_200, b_nm3_201, b_nm3_202, b_nm3_203, b_nm3_204, b_nm3_205, b_nm3_206, b_nm3_207, b_nm3_208, b_ns2_0, b_ns2_1, b_ns2_2, b_ns2_3, b_ns2_4, b_ns2_5, b_ns2_6, b_ns2_7, b_ns2_8, b_ns2_9, b_ns2_10, b_ns2_11, b_ns2_12, b_ns2_13, b_ns2_14, b_ns2_15, b_ns2_16, b_ns2_17, b_ns2_18, b_ns2_19, b_ns2_20, b_ns2_21, b_ns2_22, b_ns2_23, b_ns2_24, b_ns2_25, b_ns2_26, b_ns2_27, b_ns2_28, b_ns2_29, b_ns2_30, b_ns2_31, b_ns2_32, b_ns2_33, b_ns2_34, b_ns2_35, b_ns2_36, b_ns2_37, b_ns2_38, b_ns2_39, b_ns2_40, b_ns2_41, b_ns2_42, b_ns2_43, b_ns2_44, b_ns2_45, b_ns2_50, b_ns2_51, b_ns2_52, b_ns2_53, b_ns2_54, b_ns2_55, b_ns2_56, b_ns2_57, b_ns2_58, b_ns2_59, b_ns2_60, b_ns2_61, b_ns2_62, b_ns2_63, b_ns2_64, b_ns2_65, b_ns2_66, b_ns2_67, b_ns2_68, b_ns2_69, b_ns2_70, b_ns2_71, b_ns2_72, b_ns2_73, b_ns2_74, b_ns2_75, b_ns2_76, b_ns2_77, b_ns2_78, b_ns2_79, b_ns2_80, b_ns2_81, b_ns2_82, b_ns2_83, b_ns2_84, b_ns2_85, b_ns2_86, b_ns2_87, b_ns2_88, e1, l0, he, g1, g2, g3, g4]
    exact hQ
  | succ n ih =>
    intro s left hs hQ
    have g4 : (nI t ≤ nI s) = False := q_nle (by omega) (by omega)
    have g5 : vp_in (nI s) L = True := q_in (by omega) (by omega)
    have e2 : (nI s).toNatClampNeg = s := nI_clamp (by omega)
    rw [fr_find] at hQ
    rw [s_29_10]
    simp +decide only [s_29_0, s_29_1, s_29_3, s_29_4, s_29_5, s_29_8, s_29_12, s_29_13, s_29_14, s_29_17, s_29_20, s_29_21, s_29_24, s_29_26, s_29_27, s_29_28, s_29_31, s_29_33, s_29_34, s_29_37, s_29_39, s_29_40, s_29_43, s_29_44, s_29_47, s_29_49, s_29_50, s_29_51, s_29_53, s_29_54, s_29_57, s_29_59, s_29_60, s_29_61, s_29_63, s_29_66, s_29_69, s_29_70, s_33_0, s_33_1, s_33_4, s_33_7, s_33_8, s_33_11, s_33_12, s_33_13, s_33_16, s_33_17, s_117_0, s_117_1, s_117_4, s_117_5, s_117_7, s_117_10, s_117_11, s_117_14, s_117_15, b_res, b_resN, b_nm0, b_nm1, b_nm2, b_ns0, b_ns1, b_l0, b_l1, b_l2, b_l3, b_l4, b_l5, b_l6, Bool.true_and, Bool.and_true, cond_true, b01_0, b01_1, i10, true_and, and_true, true_or, or_true, u_rd, u_2, u_at, reduceIte, eq_self, not_true_eq_false, not_false_eq_true, false_imp_iff, true_imp_iff, forall_const, b_nm3_0, b_nm3_1, b_nm3_2, b_nm3_3, b_nm3_4, b_nm3_5, b_nm3_6, b_nm3_7, b_nm3_8, b_nm3_9, b_nm3_10, b_nm3_11, b_nm3_100, b_nm3_101, b_nm3_102, b_nm3_200, b_nm3_201, b_nm3_202, b_nm3_203, b_nm3_204, b_nm3_205, b_nm3_206, b_nm3_207, b_nm3_208, b_ns2_0, b_ns2_1, b_ns2_2, b_ns2_3, b_ns2_4, b_ns2_5, b_ns2_6, b_ns2_7, b_ns2_8, b_ns2_9, b_ns2_10, b_ns2_11, b_ns2_12, b_ns2_13, b_ns2_14, b_ns2_15, b_ns2_16, b_ns2_17, b_ns2_18, b_ns2_19, b_ns2_20, b_ns2_21, b_ns2_22, b_ns2_23, b_ns2_24, b_ns2_25, b_ns2_26, b_ns2_27, b_ns2_28, b_ns2_29, b_ns2_30, b_ns2_31, b_ns2_32, b_ns2_33, b_ns2_34, b_ns2_35, b_ns2_36, b_ns2_37, b_ns2_38, b_ns2_39, b_ns2_40, b_ns2_41, b_ns2_42, b_ns2_43, b_ns2_44, b_ns2_45, b_ns2_50, b_ns2_51, b_ns2_52, b_ns2_53, b_ns2_54, b_ns2_55, b_ns2_56, b_ns2_57, b_ns2_58, b_ns2_59, b_ns2_60, b_ns2_61, b_ns2_62, b_ns2_63, b_ns2_64, b_ns2_65, b_ns2_66, b_ns2_67, b_ns2_68, b_ns2_69, b_ns2_70, b_ns2_71, b_ns2_72, b_ns2_73, b_ns2_74, b_ns2_75, b_ns2_76, b_ns2_77, b_ns2_78, b_ns2_79, b_ns2_80, b_ns2_81, b_ns2_82, b_ns2_83, b_ns2_84, b_ns2_85, b_ns2_86, b_ns2_87, b_ns2_88, e1, e2, l0, l1, l2, l3, he, g1, g2, g3, g4, g5, nI_1]
    refine ⟨fun h => ⟨fun h' => ih _ _ (by omega) ?_, fun h' => ?_⟩, fun h => ih _ _ (by omega) ?_⟩
    · rw [if_pos h, if_pos h'] at hQ
      exact hQ
    · rw [if_pos h, if_neg h'] at hQ
      exact hQ
    · rw [if_neg h] at hQ
      exact hQ
theorem m_from_lp {μ : ab_S} {p i0 : Int32} {b : ab_B} {Q : ab_Q} {m t : Nat} (hm : m < 120) (l0 : μ.2 77 = 121) (l1 : μ.2 79 = 4000) (l2 : μ.2 80 = 4000) (l3 : μ.2 78 = 4000) (he : μ.1 77 (m + 1) = nI t) (hL : t ≤ 4000) : ∀ (n s : Nat) (left : Int32), s + n = t → Q (some (fr_find (μ.1 79) (μ.1 80) (μ.1 78) p n s left)) μ → gd_run 166 41 [some (.inr 11), some (.inl p), some (.inl (nI m)), some (.inl i0), some (.inl left), some (.inl (nI s))] [] μ b Q := by
  have e1 : (nI (m + 1)).toNatClampNeg = m + 1 := nI_clamp (by omega)
  have g3 : vp_in (nI (m + 1)) 121 = True := q_in (by omega) (by omega)
  intro n
  induction n with
  | zero =>
    intro s left hs hQ
    have g4 : (nI t ≤ nI s) = True := q_le (by omega) (by omega)
    rw [s_166_41]
    simp +decide only [s_166_0, s_166_1, s_166_2, s_166_4, s_166_7, s_166_10, s_166_11, s_166_12, s_166_13, s_166_16, s_166_17, s_166_18, s_166_21, s_166_24, s_166_25, s_166_28, s_166_29, s_166_30, s_166_31, s_166_33, s_166_34, s_166_37, s_166_38, s_166_39, s_166_43, s_166_44, s_166_47, s_166_48, s_166_49, s_166_50, s_166_51, s_166_54, s_166_55, s_166_58, s_166_60, s_166_61, s_166_62, s_166_65, s_166_68, s_166_70, s_166_71, s_166_74, s_166_76, s_166_77, s_166_80, s_166_81, s_166_84, s_166_86, s_166_87, s_166_88, s_166_90, s_166_91, s_166_94, s_166_96, s_166_97, s_166_98, s_166_100, s_166_103, s_166_106, s_166_107, b_res, b_resN, b_nm0, b_nm1, b_nm2, b_ns0, b_ns1, b_l0, b_l1, b_l2, b_l3, b_l4, b_l5, b_l6, Bool.true_and, Bool.and_true, cond_true, b01_0, b01_1, i10, true_and, and_true, true_or, or_true, u_rd, u_2, u_at, reduceIte, eq_self, not_true_eq_false, not_false_eq_true, false_imp_iff, true_imp_iff, forall_const, b_nm3_0, b_nm3_1, b_nm3_2, b_nm3_3, b_nm3_4, b_nm3_5, b_nm3_6, b_nm3_7, b_nm3_8, b_nm3_9, b_nm3_10, b_nm3_11, b_nm3_100, b_nm3_101, b_nm3_102, b_nm3_200, b_nm3_201, b_nm3_202, b_nm3_203, b_nm3_204, b_nm3_205, b_nm3_206, b_nm3_207, b_nm3_208, b_ns2_0, b_ns2_1, b_ns2_2, b_ns2_3, b_ns2_4, b_ns2_5, b_ns2_6, b_ns2_7, b_ns2_8, b_ns2_9, b_ns2_10, b_ns2_11, b_ns2_12, b_ns2_13, b_ns2_14, b_ns2_15, b_ns2_16, b_ns2_17, b_ns2_18, b_ns2_19, b_ns2_20, b_ns2_21, b_ns2_22, b_ns2_23, b_ns2_24, b_ns2_25, b_ns2_26, b_ns2_27, b_ns2_28, b_ns2_29, b_ns2_30, b_ns2_31, b_ns2_32, b_ns2_33, b_ns2_34, b_ns2_35, b_ns2_36, b_ns2_37, b_ns2_38, b_ns2_39, b_ns2_40, b_ns2_41, b_ns2_42, b_ns2_43, b_ns2_44, b_ns2_45, b_ns2_50, b_ns2_51, b_ns2_52, b_ns2_53, b_ns2_54, b_ns2_55, b_ns2_56, b_ns2_57, b_ns2_58, b_ns2_59, b_ns2_60, b_ns2_61, b_ns2_62, b_ns2_63, b_ns2_64, b_ns2_65, b_ns2_66, b_ns2_67, b_ns2_68, b_ns2_69, b_ns2_70, b_ns2_71, b_ns2_72, b_ns2_73, b_ns2_74, b_ns2_75, b_ns2_76, b_ns2_77, b_ns2_78, b_ns2_79, b_ns2_80, b_ns2_81, b_ns2_82, b_ns2_83, b_ns2_84, b_ns2_85, b_ns2_86, b_ns2_87, b_ns2_88, e1, l0, he, g3, g4, nI_1]
    exact hQ
  | succ n ih =>
    intro s left hs hQ
    have g4 : (nI t ≤ nI s) = False := q_nle (by omega) (by omega)
    have g5 : vp_in (nI s) 4000 = True := q_in (by omega) (by omega)
    have e2 : (nI s).toNatClampNeg = s := nI_clamp (by omega)
    rw [fr_find] at hQ
    rw [s_166_41]
    simp +decide only [s_166_0, s_166_1, s_166_2, s_166_4, s_166_7, s_166_10, s_166_11, s_166_12, s_166_13, s_166_16, s_166_17, s_166_18, s_166_21, s_166_24, s_166_25, s_166_28, s_166_29, s_166_30, s_166_31, s_166_33, s_166_34, s_166_37, s_166_38, s_166_39, s_166_43, s_166_44, s_166_47, s_166_48, s_166_49, s_166_50, s_166_51, s_166_54, s_166_55, s_166_58, s_166_60, s_166_61, s_166_62, s_166_65, s_166_68, s_166_70, s_166_71, s_166_74, s_166_76, s_166_77, s_166_80, s_166_81, s_166_84, s_166_86, s_166_87, s_166_88, s_166_90, s_166_91, s_166_94, s_166_96, s_166_97, s_166_98, s_166_100, s_166_103, s_166_106, s_166_107, b_res, b_resN, b_nm0, b_nm1, b_nm2, b_ns0, b_ns1, b_l0, b_l1, b_l2, b_l3, b_l4, b_l5, b_l6, Bool.true_and, Bool.and_true, cond_true, b01_0, b01_1, i10, true_and, and_true, true_or, or_true, u_rd, u_2, u_at, reduceIte, eq_self, not_true_eq_false, not_false_eq_true, false_imp_iff, true_imp_iff, forall_const, b_nm3_0, b_nm3_1, b_nm3_2, b_nm3_3, b_nm3_4, b_nm3_5, b_nm3_6, b_nm3_7, b_nm3_8, b_nm3_9, b_nm3_10, b_nm3_11, b_nm3_100, b_nm3_101, b_nm3_102, b_nm3_200, b_nm3_201, b_nm3_202, b_nm3_203, b_nm3_204, b_nm3_205, b_nm3_206, b_nm3_207, b_nm3_208, b_ns2_0, b_ns2_1, b_ns2_2, b_ns2_3, b_ns2_4, b_ns2_5, b_ns2_6, b_ns2_7, b_ns2_8, b_ns2_9, b_ns2_10, b_ns2_11, b_ns2_12, b_ns2_13, b_ns2_14, b_ns2_15, b_ns2_16, b_ns2_17, b_ns2_18, b_ns2_19, b_ns2_20, b_ns2_21, b_ns2_22, b_ns2_23, b_ns2_24, b_ns2_25, b_ns2_26, b_ns2_27, b_ns2_28, b_ns2_29, b_ns2_30, b_ns2_31, b_ns2_32, b_ns2_33, b_ns2_34, b_ns2_35, b_ns2_36, b_ns2_37, b_ns2_38, b_ns2_39, b_ns2_40, b_ns2_41, b_ns2_42, b_ns2_43, b_ns2_44, b_ns2_45, b_ns2_50, b_ns2_51, b_ns2_52, b_ns2_53, b_ns2_54, b_ns2_55, b_ns2_56, b_ns2_57, b_ns2_58, b_ns2_59, b_ns2_60, b_ns2_61, b_ns2_62, b_ns2_63, b_ns2_64, b_ns2_65, b_ns2_66, b_ns2_67, b_ns2_68, b_ns2_69, b_ns2_70, b_ns2_71, b_ns2_72, b_ns2_73, b_ns2_74, b_ns2_75, b_ns2_76, b_ns2_77, b_ns2_78, b_ns2_79, b_ns2_80, b_ns2_81, b_ns2_82, b_ns2_83, b_ns2_84, b_ns2_85, b_ns2_86, b_ns2_87, b_ns2_88, e1, e2, l0, l1, l2, l3, he, g3, g4, g5, nI_1]
    refine ⟨fun h => ⟨fun h' => ih _ _ (by omega) ?_, fun h' => ?_⟩, fun h => ih _ _ (by omega) ?_⟩
    · rw [if_pos h, if_pos h'] at hQ
      exact hQ
    · rw [if_pos h, if_neg h'] at hQ
      exact hQ
    · rw [if_neg h] at hQ
      exact hQ
def x_from (T : Nat) (p m i : Int32) : Prop := p.toInt < 0 ∨ 29 < p.toInt ∨ m.toInt < 0 ∨ (T : Int) ≤ m.toInt ∨ i.toInt < 0
theorem c_from_bad {μ : ab_S} {p m i : Int32} {b : ab_B} {Q : ab_Q} {T : Nat} (hT : μ.1 0 10 = nI T) (hT2 : T ≤ 120) (hx : x_from T p m i) (hQ : Q (some (-1)) μ) : gd_run 112 0 [some (.inr 0), some (.inl p), some (.inl m), some (.inl i)] [] μ b Q := by
  have t1 : (nI T).toInt = (T : Int) := nI_toInt (by omega)
  unfold x_from at hx
  simp +decide only [s_112_0, s_112_1, s_112_4, s_112_7, s_112_8, s_112_9, s_112_12, s_112_15, s_112_16, s_112_19, s_112_20, s_112_23, s_112_24, s_112_25, s_112_26, s_112_29, s_112_32, s_112_33, s_116_0, s_116_1, s_116_4, s_116_5, s_116_6, s_116_9, s_116_12, s_116_13, s_116_16, s_116_17, s_118_0, s_118_1, s_118_4, s_118_5, s_118_7, s_118_10, s_118_11, s_118_14, s_118_15, b_res, b_resN, b_nm0, b_nm1, b_nm2, b_ns0, b_ns1, b_l0, b_l1, b_l2, b_l3, b_l4, b_l5, b_l6, Bool.true_and, Bool.and_true, cond_true, b01_0, b01_1, i10, true_and, and_true, true_or, or_true, u_rd, u_2, u_at, reduceIte, eq_self, not_true_eq_false, not_false_eq_true, false_imp_iff, true_imp_iff, forall_const, b_nm3_0, b_nm3_1, b_nm3_2, b_nm3_3, b_nm3_4, b_nm3_5, b_nm3_6, b_nm3_7, b_nm3_8, b_nm3_9, b_nm3_10, b_nm3_11, b_nm3_100, b_nm3_101, b_nm3_102, b_nm3_200, b_nm3_201, b_nm3_202, b_nm3_203, b_nm3_204, b_nm3_205, b_nm3_206, b_nm3_207, b_nm3_208, b_ns2_0, b_ns2_1, b_ns2_2, b_ns2_3, b_ns2_4, b_ns2_5, b_ns2_6, b_ns2_7, b_ns2_8, b_ns2_9, b_ns2_10, b_ns2_11, b_ns2_12, b_ns2_13, b_ns2_14, b_ns2_15, b_ns2_16, b_ns2_17, b_ns2_18, b_ns2_19, b_ns2_20, b_ns2_21, b_ns2_22, b_ns2_23, b_ns2_24, b_ns2_25, b_ns2_26, b_ns2_27, b_ns2_28, b_ns2_29, b_ns2_30, b_ns2_31, b_ns2_32, b_ns2_33, b_ns2_34, b_ns2_35, b_ns2_36, b_ns2_37, b_ns2_38, b_ns2_39, b_ns2_40, b_ns2_41, b_ns2_42, b_ns2_43, b_ns2_44, b_ns2_45, b_ns2_50, b_ns2_51, b_ns2_52, b_ns2_53, b_ns2_54, b_ns2_55, b_ns2_56, b_ns2_57, b_ns2_58, b_ns2_59, b_ns2_60, b_ns2_61, b_ns2_62, b_ns2_63, b_ns2_64, b_ns2_65, b_ns2_66, b_ns2_67, b_ns2_68, b_ns2_69, b_ns2_70, b_ns2_71, b_ns2_72, b_ns2_73, b_ns2_74, b_ns2_75, b_ns2_76, b_ns2_77, b_ns2_78, b_ns2_79, b_ns2_80, b_ns2_81, b_ns2_82, b_ns2_83, b_ns2_84, b_ns2_85, b_ns2_86, b_ns2_87, b_ns2_88, hT]
  simp only [i_lt, i_le, kI_m2, kI_m1, kI_0, kI_1, kI_2, kI_3, kI_4, kI_5, kI_6, kI_7, kI_8, kI_9, kI_10, kI_11, kI_12, kI_13, kI_14, kI_15, kI_16, kI_19, kI_20, kI_24, kI_29, kI_30, kI_31, kI_32, kI_48, kI_50, kI_57, kI_58, kI_59, kI_60, kI_97, kI_99, kI_100, kI_119, kI_120, kI_122, kI_149, kI_150, kI_199, kI_200, kI_255, kI_1000, kI_3000, kI_3700, kI_5000, t1]
  repeat' first | exact hQ | (exfalso; omega) | apply And.intro | intro _
theorem m_from_bad {μ : ab_S} {p m i : Int32} {b : ab_B} {Q : ab_Q} {T : Nat} (hT : μ.1 11 0 = nI T) (hT2 : T ≤ 120) (hx : x_from T p m i) (hQ : Q (some (-1)) μ) : gd_run 166 0 [some (.inr 11), some (.inl p), some (.inl m), some (.inl i), none, none] [] μ b Q := by
  have t1 : (nI T - 1).toInt = (T : Int) - 1 := pk_sub_toInt (b := 1) (by omega) (by omega)
  unfold x_from at hx
  simp +decide only [s_166_0, s_166_1, s_166_2, s_166_4, s_166_7, s_166_10, s_166_11, s_166_12, s_166_13, s_166_16, s_166_17, s_166_18, s_166_21, s_166_24, s_166_25, s_166_28, s_166_29, s_166_30, s_166_31, s_166_33, s_166_34, s_166_37, s_166_38, s_166_39, s_166_43, s_166_44, s_166_47, s_166_48, s_166_49, s_166_50, s_166_51, s_166_54, s_166_55, s_166_58, s_166_60, s_166_61, s_166_62, s_166_65, s_166_68, s_166_70, s_166_71, s_166_74, s_166_76, s_166_77, s_166_80, s_166_81, s_166_84, s_166_86, s_166_87, s_166_88, s_166_90, s_166_91, s_166_94, s_166_96, s_166_97, s_166_98, s_166_100, s_166_103, s_166_106, s_166_107, s_124_0, s_124_1, s_124_2, s_124_5, s_124_6, s_124_7, s_124_10, s_124_11, s_124_14, s_124_15, b_res, b_resN, b_nm0, b_nm1, b_nm2, b_ns0, b_ns1, b_l0, b_l1, b_l2, b_l3, b_l4, b_l5, b_l6, Bool.true_and, Bool.and_true, cond_true, b01_0, b01_1, i10, true_and, and_true, true_or, or_true, u_rd, u_2, u_at, reduceIte, eq_self, not_true_eq_false, not_false_eq_true, false_imp_iff, true_imp_iff, forall_const, b_nm3_0, b_nm3_1, b_nm3_2, b_nm3_3, b_nm3_4, b_nm3_5, b_nm3_6, b_nm3_7, b_nm3_8, b_nm3_9, b_nm3_10, b_nm3_11, b_nm3_100, b_nm3_101, b_nm3_102, b_nm3_200, b_nm3_201, b_nm3_202, b_nm3_203, b_nm3_204, b_nm3_205, b_nm3_206, b_nm3_207, b_nm3_208, b_ns2_0, b_ns2_1, b_ns2_2, b_ns2_3, b_ns2_4, b_ns2_5, b_ns2_6, b_ns2_7, b_ns2_8, b_ns2_9, b_ns2_10, b_ns2_11, b_ns2_12, b_ns2_13, b_ns2_14, b_ns2_15, b_ns2_16, b_ns2_17, b_ns2_18, b_ns2_19, b_ns2_20, b_ns2_21, b_ns2_22, b_ns2_23, b_ns2_24, b_ns2_25, b_ns2_26, b_ns2_27, b_ns2_28, b_ns2_29, b_ns2_30, b_ns2_31, b_ns2_32, b_ns2_33, b_ns2_34, b_ns2_35, b_ns2_36, b_ns2_37, b_ns2_38, b_ns2_39, b_ns2_40, b_ns2_41, b_ns2_42, b_ns2_43, b_ns2_44, b_ns2_45, b_ns2_50, b_ns2_51, b_ns2_52, b_ns2_53, b_ns2_54, b_ns2_55, b_ns2_56, b_ns2_57, b_ns2_58, b_ns2_59, b_ns2_60, b_ns2_61, b_ns2_62, b_ns2_63, b_ns2_64, b_ns2_65, b_ns2_66, b_ns2_67, b_ns2_68, b_ns2_69, b_ns2_70, b_ns2_71, b_ns2_72, b_ns2_73, b_ns2_74, b_ns2_75, b_ns2_76, b_ns2_77, b_ns2_78, b_ns2_79, b_ns2_80, b_ns2_81, b_ns2_82, b_ns2_83, b_ns2_84, b_ns2_85, b_ns2_86, b_ns2_87, b_ns2_88, hT]
  simp only [i_lt, i_le, kI_m2, kI_m1, kI_0, kI_1, kI_2, kI_3, kI_4, kI_5, kI_6, kI_7, kI_8, kI_9, kI_10, kI_11, kI_12, kI_13, kI_14, kI_15, kI_16, kI_19, kI_20, kI_24, kI_29, kI_30, kI_31, kI_32, kI_48, kI_50, kI_57, kI_58, kI_59, kI_60, kI_97, kI_99, kI_100, kI_119, kI_120, kI_122, kI_149, kI_150, kI_199, kI_200, kI_255, kI_1000, kI_3000, kI_3700, kI_5000, t1]
  repeat' first | exact hQ | (exfalso; omega) | apply And.intro | intro _
theorem sim_from {T : Nat} {μ : ab_S} (p m i : Int32) (h : gd_rel T μ) : lw_sim1 gd_rel 112 166 T (0, 0) [p, m, i] μ := by
  have h0 := h
  obtain ⟨hT2, hT, hT', L, hL, hl, h1, h2, h3, h4, h5, h6, h7⟩ := h
  show gd_run 112 0 [some (.inr 0), some (.inl p), some (.inl m), some (.inl i)] [] μ (0, 0) _
  by_cases hx : x_from T p m i
  · exact c_from_bad hT hT2 hx ⟨_, rfl, m_from_bad hT' hT2 hx ⟨rfl, h0⟩⟩
  · unfold x_from at hx
    obtain ⟨k, hk, rfl⟩ := i_of (x := m) (n := 119) (by omega) (by omega) (by omega)
    obtain ⟨q, hq, rfl⟩ := i_of (x := p) (n := 29) (by omega) (by omega) (by omega)
    have gi : (i < 0) = False := eq_false (by rw [i_lt, kI_0]; omega)
    have gi2 : ((0 : Int32) ≤ i) = True := eq_true (by rw [i_le, kI_0]; omega)
    rw [nI_toInt (by omega), nI_toInt (by omega)] at hx
    obtain ⟨g1, g2, g3⟩ := q_parted (T := T) (m := k) hT2 (by omega)
    have g4 : (nI q < 0) = False := q_n0 (by omega)
    have g5 : ((30 : Int32) ≤ nI q) = False := q_nle (a := q) (b := 30) (by omega) (by omega)
    obtain ⟨hLL, s, n, r1, r2, r3, r4, r5, r6, r7⟩ := led_at h7 hL (m := k) (by omega)
    have hng : s + n ≤ 4000 := by
      obtain ⟨nl, hnl2, hnl, -⟩ := h5
      obtain ⟨ng, e, hg1, hg2, hg3, hg4, hg5, hg6, hg7, hg8⟩ := h7
      have hmono : ∀ j, k + 1 ≤ j → j ≤ T → e (k + 1) ≤ e j := by
        intro j hij hjT
        induction j with
        | zero => omega
        | succ j ih =>
          by_cases hc : k = j
          · rw [hc]; omega
          · have := ih (by omega) (by omega)
            have := (hg8 j (by omega)).1
            omega
      have a1 := hmono T (by omega) (by omega)
      have a2 := hg4 nl hnl hnl2
      have a3 : ∀ (f : Nat → Bool) n, pu_cnt f n ≤ n := by
        intro f n
        induction n with
        | zero => exact Nat.le_refl _
        | succ n ih => rw [pu_cnt]; split <;> omega
      have a4 := a3 (fun j => decide (μ.1 38 j = 0)) nl
      have a5 := (hg8 k (by omega)).2.1
      rw [r3] at a5
      have a6 : e (k + 1) ≤ 4096 := by omega
      have a7 := (nI_eq (by omega) (by omega)).mp a5
      omega
    have key : ∀ Q : ab_Q, ∀ b : ab_B, Q (some (fr_find (μ.1 46) (μ.1 49) (μ.1 48) (nI q) n s i)) μ → gd_run 29 0 [some (.inr 9), some (.inl (nI q)), some (.inl (nI k)), some (.inl i), none, none] [] μ b Q := by
      intro Q b hQ
      have key := c_lotOf_lp (b := b) (p := nI q) (i0 := i) (m := k) (t := s + n) (L := L) (by omega) (by rw [hl]; rfl) (by rw [hl]; rfl) (by rw [hl]; rfl) (by rw [hl]; rfl) r3 r1 hLL n s i rfl hQ
      cases k with
      | zero =>
        have := r2.2 rfl
        subst this
        have g0 : (nI 0 ≤ 0) = True := by decide
        simp +decide only [s_29_0, s_29_1, s_29_3, s_29_4, s_29_5, s_29_8, s_29_12, s_29_13, s_29_14, s_29_17, s_29_20, s_29_21, s_29_24, s_29_26, s_29_27, s_29_28, s_29_31, s_29_33, s_29_34, s_29_37, s_29_39, s_29_40, s_29_43, s_29_44, s_29_47, s_29_49, s_29_50, s_29_51, s_29_53, s_29_54, s_29_57, s_29_59, s_29_60, s_29_61, s_29_63, s_29_66, s_29_69, s_29_70, s_32_0, s_32_1, s_32_4, s_32_5, s_32_6, s_32_7, s_32_8, s_32_11, s_32_14, s_32_15, b_res, b_resN, b_nm0, b_nm1, b_nm2, b_ns0, b_ns1, b_l0, b_l1, b_l2, b_l3, b_l4, b_l5, b_l6, Bool.true_and, Bool.and_true, cond_true, b01_0, b01_1, i10, true_and, and_true, true_or, or_true, u_rd, u_2, u_at, reduceIte, eq_self, not_true_eq_false, not_false_eq_true, false_imp_iff, true_imp_iff, forall_const, b_nm3_0, b_nm3_1, b_nm3_2, b_nm3_3, b_nm3_4, b_nm3_5, b_nm3_6, b_nm3_7, b_nm3_8, b_nm3_9, b_nm3_10, b_nm3_11, b_nm3_100, b_nm3_101, b_nm3_102, b_nm3_200, b_nm3_201, b_nm3_202, b_nm3_203, b_nm3_204, b_nm3_205, b_nm3_206, b_nm3_207, b_nm3_208, b_ns2_0, b_ns2_1, b_ns2_2, b_ns2_3, b_ns2_4, b_ns2_5, b_ns2_6, b_ns2_7, b_ns2_8, b_ns2_9, b_ns2_10, b_ns2_11, b_ns2_12, b_ns2_13, b_ns2_14, b_ns2_15, b_ns2_16, b_ns2_17, b_ns2_18, b_ns2_19, b_ns2_20, b_ns2_21, b_ns2_22, b_ns2_23, b_ns2_24, b_ns2_25, b_ns2_26, b_ns2_27, b_ns2_28, b_ns2_29, b_ns2_30, b_ns2_31, b_ns2_32, b_ns2_33, b_ns2_34, b_ns2_35, b_ns2_36, b_ns2_37, b_ns2_38, b_ns2_39, b_ns2_40, b_ns2_41, b_ns2_42, b_ns2_43, b_ns2_44, b_ns2_45, b_ns2_50, b_ns2_51, b_ns2_52, b_ns2_53, b_ns2_54, b_ns2_55, b_ns2_56, b_ns2_57, b_ns2_58, b_ns2_59, b_ns2_60, b_ns2_61, b_ns2_62, b_ns2_63, b_ns2_64, b_ns2_65, b_ns2_66, b_ns2_67, b_ns2_68, b_ns2_69, b_ns2_70, b_ns2_71, b_ns2_72, b_ns2_73, b_ns2_74, b_ns2_75, b_ns2_76, b_ns2_77, b_ns2_78, b_ns2_79, b_ns2_80, b_ns2_81, b_ns2_82, b_ns2_83, b_ns2_84, b_ns2_85, b_ns2_86, b_ns2_87, b_ns2_88, g0]
        exact key
      | succ k =>
        have hs := r2.1 (by omega)
        rw [Nat.add_sub_cancel] at hs
        have g0 : (nI (k + 1) ≤ 0) = False := q_nle (a := 0) (by omega) (by omega)
        have g1 : (nI k < 0) = False := q_n0 (by omega)
        have g2 : ((120 : Int32) ≤ nI k) = False := q_nle (a := k) (b := 120) (by omega) (by omega)
        have g3 : vp_in (nI k) 120 = True := q_in (by omega) (by omega)
        have e1 : (nI k).toNatClampNeg = k := nI_clamp (by omega)
        have l0 : μ.2 45 = 120 := by rw [hl]; rfl
        simp +decide only [s_29_0, s_29_1, s_29_3, s_29_4, s_29_5, s_29_8, s_29_12, s_29_13, s_29_14, s_29_17, s_29_20, s_29_21, s_29_24, s_29_26, s_29_27, s_29_28, s_29_31, s_29_33, s_29_34, s_29_37, s_29_39, s_29_40, s_29_43, s_29_44, s_29_47, s_29_49, s_29_50, s_29_51, s_29_53, s_29_54, s_29_57, s_29_59, s_29_60, s_29_61, s_29_63, s_29_66, s_29_69, s_29_70, s_32_0, s_32_1, s_32_4, s_32_5, s_32_6, s_32_7, s_32_8, s_32_11, s_32_14, s_32_15, s_33_0, s_33_1, s_33_4, s_33_7, s_33_8, s_33_11, s_33_12, s_33_13, s_33_16, s_33_17, s_117_0, s_117_1, s_117_4, s_117_5, s_117_7, s_117_10, s_117_11, s_117_14, s_117_15, b_res, b_resN, b_nm0, b_nm1, b_nm2, b_ns0, b_ns1, b_l0, b_l1, b_l2, b_l3, b_l4, b_l5, b_l6, Bool.true_and, Bool.and_true, cond_true, b01_0, b01_1, i10, true_and, and_true, true_or, or_true, u_rd, u_2, u_at, reduceIte, eq_self, not_true_eq_false, not_false_eq_true, false_imp_iff, true_imp_iff, forall_const, b_nm3_0, b_nm3_1, b_nm3_2, b_nm3_3, b_nm3_4, b_nm3_5, b_nm3_6, b_nm3_7, b_nm3_8, b_nm3_9, b_nm3_10, b_nm3_11, b_nm3_100, b_nm3_101, b_nm3_102, b_nm3_200, b_nm3_201, b_nm3_202, b_nm3_203, b_nm3_204, b_nm3_205, b_nm3_206, b_nm3_207, b_nm3_208, b_ns2_0, b_ns2_1, b_ns2_2, b_ns2_3, b_ns2_4, b_ns2_5, b_ns2_6, b_ns2_7, b_ns2_8, b_ns2_9, b_ns2_10, b_ns2_11, b_ns2_12, b_ns2_13, b_ns2_14, b_ns2_15, b_ns2_16, b_ns2_17, b_ns2_18, b_ns2_19, b_ns2_20, b_ns2_21, b_ns2_22, b_ns2_23, b_ns2_24, b_ns2_25, b_ns2_26, b_ns2_27, b_ns2_28, b_ns2_29, b_ns2_30, b_ns2_31, b_ns2_32, b_ns2_33, b_ns2_34, b_ns2_35, b_ns2_36, b_ns2_37, b_ns2_38, b_ns2_39, b_ns2_40, b_ns2_41, b_ns2_42, b_ns2_43, b_ns2_44, b_ns2_45, b_ns2_50, b_ns2_51, b_ns2_52, b_ns2_53, b_ns2_54, b_ns2_55, b_ns2_56, b_ns2_57, b_ns2_58, b_ns2_59, b_ns2_60, b_ns2_61, b_ns2_62, b_ns2_63, b_ns2_64, b_ns2_65, b_ns2_66, b_ns2_67, b_ns2_68, b_ns2_69, b_ns2_70, b_ns2_71, b_ns2_72, b_ns2_73, b_ns2_74, b_ns2_75, b_ns2_76, b_ns2_77, b_ns2_78, b_ns2_79, b_ns2_80, b_ns2_81, b_ns2_82, b_ns2_83, b_ns2_84, b_ns2_85, b_ns2_86, b_ns2_87, b_ns2_88, g0, g1, g2, g3, nI_pred, l0, e1, hs]
        exact key
    simp +decide only [s_112_0, s_112_1, s_112_4, s_112_7, s_112_8, s_112_9, s_112_12, s_112_15, s_112_16, s_112_19, s_112_20, s_112_23, s_112_24, s_112_25, s_112_26, s_112_29, s_112_32, s_112_33, s_116_0, s_116_1, s_116_4, s_116_5, s_116_6, s_116_9, s_116_12, s_116_13, s_116_16, s_116_17, s_118_0, s_118_1, s_118_4, s_118_5, s_118_7, s_118_10, s_118_11, s_118_14, s_118_15, b_res, b_resN, b_nm0, b_nm1, b_nm2, b_ns0, b_ns1, b_l0, b_l1, b_l2, b_l3, b_l4, b_l5, b_l6, Bool.true_and, Bool.and_true, cond_true, b01_0, b01_1, i10, true_and, and_true, true_or, or_true, u_rd, u_2, u_at, reduceIte, eq_self, not_true_eq_false, not_false_eq_true, false_imp_iff, true_imp_iff, forall_const, b_nm3_0, b_nm3_1, b_nm3_2, b_nm3_3, b_nm3_4, b_nm3_5, b_nm3_6, b_nm3_7, b_nm3_8, b_nm3_9, b_nm3_10, b_nm3_11, b_nm3_100, b_nm3_101, b_nm3_102, b_nm3_200, b_nm3_201, b_nm3_202, b_nm3_203, b_nm3_204, b_nm3_205, b_nm3_206, b_nm3_207, b_nm3_208, b_ns2_0, b_ns2_1, b_ns2_2, b_ns2_3, b_ns2_4, b_ns2_5, b_ns2_6, b_ns2_7, b_ns2_8, b_ns2_9, b_ns2_10, b_ns2_11, b_ns2_12, b_ns2_13, b_ns2_14, b_ns2_15, b_ns2_16, b_ns2_17, b_ns2_18, b_ns2_19, b_ns2_20, b_ns2_21, b_ns2_22, b_ns2_23, b_ns2_24, b_ns2_25, b_ns2_26, b_ns2_27, b_ns2_28, b_ns2_29, b_ns2_30, b_ns2_31, b_ns2_32, b_ns2_33, b_ns2_34, b_ns2_35, b_ns2_36, b_ns2_37, b_ns2_38, b_ns2_39, b_ns2_40, b_ns2_41, b_ns2_42, b_ns2_43, b_ns2_44, b_ns2_45, b_ns2_50, b_ns2_51, b_ns2_52, b_ns2_53, b_ns2_54, b_ns2_55, b_ns2_56, b_ns2_57, b_ns2_58, b_ns2_59, b_ns2_60, b_ns2_61, b_ns2_62, b_ns2_63, b_ns2_64, b_ns2_65, b_ns2_66, b_ns2_67, b_ns2_68, b_ns2_69, b_ns2_70, b_ns2_71, b_ns2_72, b_ns2_73, b_ns2_74, b_ns2_75, b_ns2_76, b_ns2_77, b_ns2_78, b_ns2_79, b_ns2_80, b_ns2_81, b_ns2_82, b_ns2_83, b_ns2_84, b_ns2_85, b_ns2_86, b_ns2_87, b_ns2_88, hT, g1, g2, g3, g4, g5, gi, gi2]
    refine key _ _ ?_
    simp +decide only [s_112_0, s_112_1, s_112_4, s_112_7, s_112_8, s_112_9, s_112_12, s_112_15, s_112_16, s_112_19, s_112_20, s_112_23, s_112_24, s_112_25, s_112_26, s_112_29, s_112_32, s_112_33, b_res, b_resN, b_nm0, b_nm1, b_nm2, b_ns0, b_ns1, b_l0, b_l1, b_l2, b_l3, b_l4, b_l5, b_l6, Bool.true_and, Bool.and_true, cond_true, b01_0, b01_1, i10, true_and, and_true, true_or, or_true, u_rd, u_2, u_at, reduceIte, eq_self, not_true_eq_false, not_false_eq_true, false_imp_iff, true_imp_iff, forall_const, b_nm3_0, b_nm3_1, b_nm3_2, b_nm3_3, b_nm3_4, b_nm3_5, b_nm3_6, b_nm3_7, b_nm3_8, b_nm3_9, b_nm3_10, b_nm3_11, b_nm3_100, b_nm3_101, b_nm3_102, b_nm3_200, b_nm3_201, b_nm3_202, b_nm3_203, b_nm3_204, b_nm3_205, b_nm3_206, b_nm3_207, b_nm3_208, b_ns2_0, b_ns2_1, b_ns2_2, b_ns2_3, b_ns2_4, b_ns2_5, b_ns2_6, b_ns2_7, b_ns2_8, b_ns2_9, b_ns2_10, b_ns2_11, b_ns2_12, b_ns2_13, b_ns2_14, b_ns2_15, b_ns2_16, b_ns2_17, b_ns2_18, b_ns2_19, b_ns2_20, b_ns2_21, b_ns2_22, b_ns2_23, b_ns2_24, b_ns2_25, b_ns2_26, b_ns2_27, b_ns2_28, b_ns2_29, b_ns2_30, b_ns2_31, b_ns2_32, b_ns2_33, b_ns2_34, b_ns2_35, b_ns2_36, b_ns2_37, b_ns2_38, b_ns2_39, b_ns2_40, b_ns2_41, b_ns2_42, b_ns2_43, b_ns2_44, b_ns2_45, b_ns2_50, b_ns2_51, b_ns2_52, b_ns2_53, b_ns2_54, b_ns2_55, b_ns2_56, b_ns2_57, b_ns2_58, b_ns2_59, b_ns2_60, b_ns2_61, b_ns2_62, b_ns2_63, b_ns2_64, b_ns2_65, b_ns2_66, b_ns2_67, b_ns2_68, b_ns2_69, b_ns2_70, b_ns2_71, b_ns2_72, b_ns2_73, b_ns2_74, b_ns2_75, b_ns2_76, b_ns2_77, b_ns2_78, b_ns2_79, b_ns2_80, b_ns2_81, b_ns2_82, b_ns2_83, b_ns2_84, b_ns2_85, b_ns2_86, b_ns2_87, b_ns2_88]
    refine ⟨_, rfl, ?_⟩
    show gd_run 166 0 [some (.inr 11), some (.inl (nI q)), some (.inl (nI k)), some (.inl i), none, none] [] μ (0, 0) _
    have g7 : ((29 : Int32) < nI q) = False := q_nlt (a := 29) (b := q) (by omega) (by omega)
    have t1 : (nI T - 1) = nI (T - 1) := pk_sub (b := 1) (by omega)
    have g8 : (nI (T - 1) < nI k) = False := q_nlt (by omega) (by omega)
    have g9 : vp_in (nI k) 121 = True := q_in (by omega) (by omega)
    have e1 : (nI k).toNatClampNeg = k := nI_clamp (by omega)
    have l0 : μ.2 77 = 121 := by rw [hl]; rfl
    simp +decide only [s_166_0, s_166_1, s_166_2, s_166_4, s_166_7, s_166_10, s_166_11, s_166_12, s_166_13, s_166_16, s_166_17, s_166_18, s_166_21, s_166_24, s_166_25, s_166_28, s_166_29, s_166_30, s_166_31, s_166_33, s_166_34, s_166_37, s_166_38, s_166_39, s_166_43, s_166_44, s_166_47, s_166_48, s_166_49, s_166_50, s_166_51, s_166_54, s_166_55, s_166_58, s_166_60, s_166_61, s_166_62, s_166_65, s_166_68, s_166_70, s_166_71, s_166_74, s_166_76, s_166_77, s_166_80, s_166_81, s_166_84, s_166_86, s_166_87, s_166_88, s_166_90, s_166_91, s_166_94, s_166_96, s_166_97, s_166_98, s_166_100, s_166_103, s_166_106, s_166_107, s_124_0, s_124_1, s_124_2, s_124_5, s_124_6, s_124_7, s_124_10, s_124_11, s_124_14, s_124_15, b_res, b_resN, b_nm0, b_nm1, b_nm2, b_ns0, b_ns1, b_l0, b_l1, b_l2, b_l3, b_l4, b_l5, b_l6, Bool.true_and, Bool.and_true, cond_true, b01_0, b01_1, i10, true_and, and_true, true_or, or_true, u_rd, u_2, u_at, reduceIte, eq_self, not_true_eq_false, not_false_eq_true, false_imp_iff, true_imp_iff, forall_const, b_nm3_0, b_nm3_1, b_nm3_2, b_nm3_3, b_nm3_4, b_nm3_5, b_nm3_6, b_nm3_7, b_nm3_8, b_nm3_9, b_nm3_10, b_nm3_11, b_nm3_100, b_nm3_101, b_nm3_102, b_nm3_200, b_nm3_201, b_nm3_202, b_nm3_203, b_nm3_204, b_nm3_205, b_nm3_206, b_nm3_207, b_nm3_208, b_ns2_0, b_ns2_1, b_ns2_2, b_ns2_3, b_ns2_4, b_ns2_5, b_ns2_6, b_ns2_7, b_ns2_8, b_ns2_9, b_ns2_10, b_ns2_11, b_ns2_12, b_ns2_13, b_ns2_14, b_ns2_15, b_ns2_16, b_ns2_17, b_ns2_18, b_ns2_19, b_ns2_20, b_ns2_21, b_ns2_22, b_ns2_23, b_ns2_24, b_ns2_25, b_ns2_26, b_ns2_27, b_ns2_28, b_ns2_29, b_ns2_30, b_ns2_31, b_ns2_32, b_ns2_33, b_ns2_34, b_ns2_35, b_ns2_36, b_ns2_37, b_ns2_38, b_ns2_39, b_ns2_40, b_ns2_41, b_ns2_42, b_ns2_43, b_ns2_44, b_ns2_45, b_ns2_50, b_ns2_51, b_ns2_52, b_ns2_53, b_ns2_54, b_ns2_55, b_ns2_56, b_ns2_57, b_ns2_58, b_ns2_59, b_ns2_60, b_ns2_61, b_ns2_62, b_ns2_63, b_ns2_64, b_ns2_65, b_ns2_66, b_ns2_67, b_ns2_68, b_ns2_69, b_ns2_70, b_ns2_71, b_ns2_72, b_ns2_73, b_ns2_74, b_ns2_75, b_ns2_76, b_ns2_77, b_ns2_78, b_ns2_79, b_ns2_80, b_ns2_81, b_ns2_82, b_ns2_83, b_ns2_84, b_ns2_85, b_ns2_86, b_ns2_87, b_ns2_88, hT', t1, l0, g1, g2, g3, g4, g7, g8, g9, gi, gi2, e1, r4]
    refine m_from_lp (m := k) (t := s + n) (by omega) (by rw [hl]; rfl) (by rw [hl]; rfl) (by rw [hl]; rfl) (by rw [hl]; rfl) r5 hng n s i rfl ⟨?_, h0⟩
    rw [fr_find_cong n s i (fun j h1 h2 => ?_)]
    have := r6 (j - s) (by omega)
    rw [show s + (j - s) = j by omega] at this
    exact ⟨this.1.symm, this.2.2.1.symm, this.2.1.symm⟩
