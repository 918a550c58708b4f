theorem i_add {x y : Int32} (h1 : -2147483648 ≤ x.toInt + y.toInt) (h2 : x.toInt + y.toInt < 2147483648) : (x + y).toInt = x.toInt + y.toInt := by
  rw [Int32.toInt_add]
  exact Int.bmod_eq_of_le (by omega) (by omega)
theorem i_sub {x y : Int32} (h1 : -2147483648 ≤ x.toInt - y.toInt) (h2 : x.toInt - y.toInt < 2147483648) : (x - y).toInt = x.toInt - y.toInt := by
  rw [Int32.toInt_sub]
  exact Int.bmod_eq_of_le (by omega) (by omega)
theorem pu_le {f : Nat → Int} : ∀ {n : Nat}, (∀ j, j < n → 0 ≤ f j ∧ f j ≤ 3000) → 0 ≤ pu_sum f n ∧ pu_sum f n ≤ 3000 * (n : Int)
  | 0, _ => by simp [pu_sum]
  | n + 1, h => by
    have h1 := pu_le (n := n) (fun j hj => h j (by omega))
    have h2 := h n (by omega)
    rw [pu_sum]
    omega
theorem pu_cong {f g : Nat → Int} : ∀ {n : Nat}, (∀ j, j < n → f j = g j) → pu_sum f n = pu_sum g n
  | 0, _ => rfl
  | n + 1, h => by rw [pu_sum, pu_sum, pu_cong (fun j hj => h j (by omega)), h n (by omega)]
-- what lies in a granary, by the reference
theorem m_lies_lp {μ : ab_S} {g : Int32} {b : ab_B} {Q : ab_Q} {n : Nat} (hn : μ.1 11 18 = nI n) (hn2 : n ≤ 100) (l1 : μ.2 65 = 100) (l2 : μ.2 68 = 100) (hb : ∀ j, j < n → 0 ≤ (μ.1 68 j).toInt ∧ (μ.1 68 j).toInt ≤ 3000) (hQ : ∀ v : Int32, v.toInt = pu_sum (fun j => if (μ.1 65 j).toInt = g.toInt then (μ.1 68 j).toInt else 0) n → Q (some v) μ) :
    ∀ (k i : Nat) (acc : Int32), i + k = n → acc.toInt = pu_sum (fun j => if (μ.1 65 j).toInt = g.toInt then (μ.1 68 j).toInt else 0) i → gd_run 151 4 [some (.inr 11), some (.inl g), some (.inl acc), some (.inl (nI i))] [] μ b Q := by
  intro k
  induction k with
  | zero =>
    intro i acc hi ha
    have : i = n := by omega
    subst this
    rw [s_151_4]
    simp +decide only [s_151_0, s_151_1, s_151_2, s_151_3, s_151_5, s_151_6, s_151_9, s_151_12, s_151_13, s_151_14, s_151_17, s_151_18, s_151_19, s_151_20, s_151_23, s_151_24, s_151_27, s_151_28, s_151_29, s_151_32, s_151_33, s_151_34, s_151_35, s_151_38, s_151_41, s_151_42, b_res, b_resN, b_nm0, b_nm1, b_nm2, b_ns0, b_ns1, b_l0, b_l1, b_l2, b_l3, b_l4, b_l5, b_l6, Bool.true_and, Bool.and_true, cond_true, b01_0, b01_1, i10, true_and, and_true, true_or, or_true, u_rd, u_2, u_at, reduceIte, eq_self, not_true_eq_false, not_false_eq_true, false_imp_iff, true_imp_iff, forall_const, b_nm3_0, b_nm3_1, b_nm3_2, b_nm3_3, b_nm3_4, b_nm3_5, b_nm3_6, b_nm3_7, b_nm3_8, b_nm3_9, b_nm3_10, b_nm3_11, b_nm3_100, b_nm3_101, b_nm3_102, b_nm3_200, b_nm3_201, b_nm3_202, b_nm3_203, b_nm3_204, b_nm3_205, b_nm3_206, b_nm3_207, b_nm3_208, b_ns2_0, b_ns2_1, b_ns2_2, b_ns2_3, b_ns2_4, b_ns2_5, b_ns2_6, b_ns2_7, b_ns2_8, b_ns2_9, b_ns2_10, b_ns2_11, b_ns2_12, b_ns2_13, b_ns2_14, b_ns2_15, b_ns2_16, b_ns2_17, b_ns2_18, b_ns2_19, b_ns2_20, b_ns2_21, b_ns2_22, b_ns2_23, b_ns2_24, b_ns2_25, b_ns2_26, b_ns2_27, b_ns2_28, b_ns2_29, b_ns2_30, b_ns2_31, b_ns2_32, b_ns2_33, b_ns2_34, b_ns2_35, b_ns2_36, b_ns2_37, b_ns2_38, b_ns2_39, b_ns2_40, b_ns2_41, b_ns2_42, b_ns2_43, b_ns2_44, b_ns2_45, b_ns2_50, b_ns2_51, b_ns2_52, b_ns2_53, b_ns2_54, b_ns2_55, b_ns2_56, b_ns2_57, b_ns2_58, b_ns2_59, b_ns2_60, b_ns2_61, b_ns2_62, b_ns2_63, b_ns2_64, b_ns2_65, b_ns2_66, b_ns2_67, b_ns2_68, b_ns2_69, b_ns2_70, b_ns2_71, b_ns2_72, b_ns2_73, b_ns2_74, b_ns2_75, b_ns2_76, b_ns2_77, b_ns2_78, b_ns2_79, b_ns2_80, b_ns2_81, b_ns2_82, b_ns2_83, b_ns2_84, b_ns2_85, b_ns2_86, b_ns2_87, b_ns2_88, hn]
    exact ⟨fun _ => hQ acc ha, fun h => absurd (Int32.le_refl _) h⟩
  | succ k ih =>
    intro i acc hi ha
    have e1 : (nI i).toNatClampNeg = i := nI_clamp (by omega)
    have hs := pu_le (f := fun j => if (μ.1 65 j).toInt = g.toInt then (μ.1 68 j).toInt else 0) (n := i) (fun j hj => by
      have := hb j (by omega)
      try dsimp only
      split <;> omega)
    have hbi := hb i (by omega)
    rw [s_151_4]
    simp +decide only [s_151_0, s_151_1, s_151_2, s_151_3, s_151_5, s_151_6, s_151_9, s_151_12, s_151_13, s_151_14, s_151_17, s_151_18, s_151_19, s_151_20, s_151_23, s_151_24, s_151_27, s_151_28, s_151_29, s_151_32, s_151_33, s_151_34, s_151_35, s_151_38, s_151_41, s_151_42, b_res, b_resN, b_nm0, b_nm1, b_nm2, b_ns0, b_ns1, b_l0, b_l1, b_l2, b_l3, b_l4, b_l5, b_l6, Bool.true_and, Bool.and_true, cond_true, b01_0, b01_1, i10, true_and, and_true, true_or, or_true, u_rd, u_2, u_at, reduceIte, eq_self, not_true_eq_false, not_false_eq_true, false_imp_iff, true_imp_iff, forall_const, b_nm3_0, b_nm3_1, b_nm3_2, b_nm3_3, b_nm3_4, b_nm3_5, b_nm3_6, b_nm3_7, b_nm3_8, b_nm3_9, b_nm3_10, b_nm3_11, b_nm3_100, b_nm3_101, b_nm3_102, b_nm3_200, b_nm3_201, b_nm3_202, b_nm3_203, b_nm3_204, b_nm3_205, b_nm3_206, b_nm3_207, b_nm3_208, b_ns2_0, b_ns2_1, b_ns2_2, b_ns2_3, b_ns2_4, b_ns2_5, b_ns2_6, b_ns2_7, b_ns2_8, b_ns2_9, b_ns2_10, b_ns2_11, b_ns2_12, b_ns2_13, b_ns2_14, b_ns2_15, b_ns2_16, b_ns2_17, b_ns2_18, b_ns2_19, b_ns2_20, b_ns2_21, b_ns2_22, b_ns2_23, b_ns2_24, b_ns2_25, b_ns2_26, b_ns2_27, b_ns2_28, b_ns2_29, b_ns2_30, b_ns2_31, b_ns2_32, b_ns2_33, b_ns2_34, b_ns2_35, b_ns2_36, b_ns2_37, b_ns2_38, b_ns2_39, b_ns2_40, b_ns2_41, b_ns2_42, b_ns2_43, b_ns2_44, b_ns2_45, b_ns2_50, b_ns2_51, b_ns2_52, b_ns2_53, b_ns2_54, b_ns2_55, b_ns2_56, b_ns2_57, b_ns2_58, b_ns2_59, b_ns2_60, b_ns2_61, b_ns2_62, b_ns2_63, b_ns2_64, b_ns2_65, b_ns2_66, b_ns2_67, b_ns2_68, b_ns2_69, b_ns2_70, b_ns2_71, b_ns2_72, b_ns2_73, b_ns2_74, b_ns2_75, b_ns2_76, b_ns2_77, b_ns2_78, b_ns2_79, b_ns2_80, b_ns2_81, b_ns2_82, b_ns2_83, b_ns2_84, b_ns2_85, b_ns2_86, b_ns2_87, b_ns2_88, hn, l1, l2, e1, nI_1]
    refine ⟨fun h => absurd h (nI_ge (by omega) (by omega)), fun _ => ⟨v_nI (by omega) (by omega), fun h => ⟨v_nI (by omega) (by omega), ih (i + 1) _ (by omega) ?_⟩, fun h => ih (i + 1) _ (by omega) ?_⟩⟩
    · rw [pu_sum, i_add (by omega) (by omega), ha]
      try dsimp only
      rw [if_pos (by rw [h])]
    · rw [pu_sum, i_add (by rw [kI_0]; omega) (by rw [kI_0]; omega), ha]
      try dsimp only
      rw [if_neg (fun q => h (Int32.toInt_inj.mp q)), kI_0]
theorem m_lies {μ : ab_S} {g : Int32} {b : ab_B} {Q : ab_Q} {n : Nat} (hn : μ.1 11 18 = nI n) (hn2 : n ≤ 100) (l1 : μ.2 65 = 100) (l2 : μ.2 68 = 100) (hb : ∀ j, j < n → 0 ≤ (μ.1 68 j).toInt ∧ (μ.1 68 j).toInt ≤ 3000) (hQ : ∀ v : Int32, v.toInt = pu_sum (fun j => if (μ.1 65 j).toInt = g.toInt then (μ.1 68 j).toInt else 0) n → Q (some v) μ) : gd_run 151 0 [some (.inr 11), some (.inl g), none, none] [] μ b Q := by
  simp +decide only [s_151_0, s_151_1, s_151_2, s_151_3, s_151_5, s_151_6, s_151_9, s_151_12, s_151_13, s_151_14, s_151_17, s_151_18, s_151_19, s_151_20, s_151_23, s_151_24, s_151_27, s_151_28, s_151_29, s_151_32, s_151_33, s_151_34, s_151_35, s_151_38, s_151_41, s_151_42, b_res, b_resN, b_nm0, b_nm1, b_nm2, b_ns0, b_ns1, b_l0, b_l1, b_l2, b_l3, b_l4, b_l5, b_l6, Bool.true_and, Bool.and_true, cond_true, b01_0, b01_1, i10, true_and, and_true, true_or, or_true, u_rd, u_2, u_at, reduceIte, eq_self, not_true_eq_false, not_false_eq_true, false_imp_iff, true_imp_iff, forall_const, b_nm3_0, b_nm3_1, b_nm3_2, b_nm3_3, b_nm3_4, b_nm3_5, b_nm3_6, b_nm3_7, b_nm3_8, b_nm3_9, b_nm3_10, b_nm3_11, b_nm3_100, b_nm3_101, b_nm3_102, b_nm3_200, b_nm3_201, b_nm3_202, b_nm3_203, b_nm3_204, b_nm3_205, b_nm3_206, b_nm3_207, b_nm3_208, b_ns2_0, b_ns2_1, b_ns2_2, b_ns2_3, b_ns2_4, b_ns2_5, b_ns2_6, b_ns2_7, b_ns2_8, b_ns2_9, b_ns2_10, b_ns2_11, b_ns2_12, b_ns2_13, b_ns2_14, b_ns2_15, b_ns2_16, b_ns2_17, b_ns2_18, b_ns2_19, b_ns2_20, b_ns2_21, b_ns2_22, b_ns2_23, b_ns2_24, b_ns2_25, b_ns2_26, b_ns2_27, b_ns2_28, b_ns2_29, b_ns2_30, b_ns2_31, b_ns2_32, b_ns2_33, b_ns2_34, b_ns2_35, b_ns2_36, b_ns2_37, b_ns2_38, b_ns2_39, b_ns2_40, b_ns2_41, b_ns2_42, b_ns2_43, b_ns2_44, b_ns2_45, b_ns2_50, b_ns2_51, b_ns2_52, b_ns2_53, b_ns2_54, b_ns2_55, b_ns2_56, b_ns2_57, b_ns2_58, b_ns2_59, b_ns2_60, b_ns2_61, b_ns2_62, b_ns2_63, b_ns2_64, b_ns2_65, b_ns2_66, b_ns2_67, b_ns2_68, b_ns2_69, b_ns2_70, b_ns2_71, b_ns2_72, b_ns2_73, b_ns2_74, b_ns2_75, b_ns2_76, b_ns2_77, b_ns2_78, b_ns2_79, b_ns2_80, b_ns2_81, b_ns2_82, b_ns2_83, b_ns2_84, b_ns2_85, b_ns2_86, b_ns2_87, b_ns2_88]
  exact m_lies_lp hn hn2 l1 l2 hb hQ n 0 0 (by omega) rfl
