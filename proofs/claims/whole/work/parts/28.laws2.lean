theorem m_lawOf {μ : ab_S} {month known : Int32} {b : ab_B} {Q : ab_Q} {n : Nat} (hn : μ.1 11 3 = nI n) (hn2 : n ≤ 8) (l1 : μ.2 52 = 9) (l2 : μ.2 53 = 9) (hQ : Q (some (bI (lw_best (μ.1 52) (μ.1 53) month known n))) μ) : gd_run 138 0 [some (.inr 11), some (.inl month), some (.inl known), none, none] [] μ b Q := by
  simp +decide only [s_138_0, s_138_1, s_138_2, s_138_3, s_138_7, s_138_8, s_138_11, s_138_14, s_138_15, s_138_18, s_138_20, s_138_21, s_138_22, s_138_25, s_138_26, s_138_29, s_138_31, s_138_32, s_138_33, s_138_36, s_138_37, s_138_40, s_138_41, s_138_44, s_138_46, s_138_47, s_138_48, s_138_51, s_138_52, s_138_53, s_138_56, s_138_58, s_138_59, s_138_62, s_138_65, s_138_66, b_res, b_resN, b_nm0, b_nm1, b_nm2, b_ns0, b_ns1, b_l0, b_l1, b_l2, b_l3, b_l4, b_l5, b_l6, Bool.true_and, Bool.and_true, cond_true, b01_0, b01_1, i10, true_and, and_true, true_or, or_true, u_rd, u_2, u_at, reduceIte, eq_self, not_true_eq_false, not_false_eq_true, false_imp_iff, true_imp_iff, forall_const, b_nm3_0, b_nm3_1, b_nm3_2, b_nm3_3, b_nm3_4, b_nm3_5, b_nm3_6, b_nm3_7, b_nm3_8, b_nm3_9, b_nm3_10, b_nm3_11, b_nm3_100, b_nm3_101, b_nm3_102, b_nm3_200, b_nm3_201, b_nm3_202, b_nm3_203, b_nm3_204, b_nm3_205, b_nm3_206, b_nm3_207, b_nm3_208, b_ns2_0, b_ns2_1, b_ns2_2, b_ns2_3, b_ns2_4, b_ns2_5, b_ns2_6, b_ns2_7, b_ns2_8, b_ns2_9, b_ns2_10, b_ns2_11, b_ns2_12, b_ns2_13, b_ns2_14, b_ns2_15, b_ns2_16, b_ns2_17, b_ns2_18, b_ns2_19, b_ns2_20, b_ns2_21, b_ns2_22, b_ns2_23, b_ns2_24, b_ns2_25, b_ns2_26, b_ns2_27, b_ns2_28, b_ns2_29, b_ns2_30, b_ns2_31, b_ns2_32, b_ns2_33, b_ns2_34, b_ns2_35, b_ns2_36, b_ns2_37, b_ns2_38, b_ns2_39, b_ns2_40, b_ns2_41, b_ns2_42, b_ns2_43, b_ns2_44, b_ns2_45, b_ns2_50, b_ns2_51, b_ns2_52, b_ns2_53, b_ns2_54, b_ns2_55, b_ns2_56, b_ns2_57, b_ns2_58, b_ns2_59, b_ns2_60, b_ns2_61, b_ns2_62, b_ns2_63, b_ns2_64, b_ns2_65, b_ns2_66, b_ns2_67, b_ns2_68, b_ns2_69, b_ns2_70, b_ns2_71, b_ns2_72, b_ns2_73, b_ns2_74, b_ns2_75, b_ns2_76, b_ns2_77, b_ns2_78, b_ns2_79, b_ns2_80, b_ns2_81, b_ns2_82, b_ns2_83, b_ns2_84, b_ns2_85, b_ns2_86, b_ns2_87, b_ns2_88]
  exact m_lawOf_lp hn hn2 l1 l2 hQ n 0 (by omega)
theorem c_inForce_lp {μ : ab_S} {month known : Int32} {b : ab_B} {Q : ab_Q} {n : Nat} (hn : μ.1 3 3 = nI n) (hn2 : n ≤ 8) (l1 : μ.2 16 = 8) (l2 : μ.2 17 = 8) (hQ : Q (some (bI (lw_best (μ.1 16) (μ.1 17) month known n))) μ) :
    ∀ (k i : Nat) (x5 : Option ab_V), i + k = n → gd_run 9 5 [some (.inr 3), some (.inl month), some (.inl known), some (.inl (bI (lw_best (μ.1 16) (μ.1 17) month known i))), some (.inl (nI i)), x5] [] μ b Q := by
  intro k
  induction k with
  | zero =>
    intro i x5 hi
    have : i = n := by omega
    subst this
    rw [s_9_5]
    simp +decide only [s_9_0, s_9_1, s_9_2, s_9_3, s_9_7, s_9_8, s_9_11, s_9_14, s_9_15, s_9_18, s_9_20, s_9_21, s_9_22, s_9_25, s_9_26, s_9_29, s_9_31, s_9_32, s_9_33, s_9_36, s_9_37, s_9_40, s_9_41, s_9_43, s_9_45, s_9_48, s_9_49, s_9_50, s_9_53, s_9_54, s_9_57, s_9_59, s_9_60, s_9_61, s_9_64, s_9_65, s_9_66, s_9_69, s_9_71, s_9_72, s_9_75, s_9_78, s_9_79, b_res, b_resN, b_nm0, b_nm1, b_nm2, b_ns0, b_ns1, b_l0, b_l1, b_l2, b_l3, b_l4, b_l5, b_l6, Bool.true_and, Bool.and_true, cond_true, b01_0, b01_1, i10, true_and, and_true, true_or, or_true, u_rd, u_2, u_at, reduceIte, eq_self, not_true_eq_false, not_false_eq_true, false_imp_iff, true_imp_iff, forall_const, b_nm3_0, b_nm3_1, b_nm3_2, b_nm3_3, b_nm3_4, b_nm3_5, b_nm3_6, b_nm3_7, b_nm3_8, b_nm3_9, b_nm3_10, b_nm3_11, b_nm3_100, b_nm3_101, b_nm3_102, b_nm3_200, b_nm3_201, b_nm3_202, b_nm3_203, b_nm3_204, b_nm3_205, b_nm3_206, b_nm3_207, b_nm3_208, b_ns2_0, b_ns2_1, b_ns2_2, b_ns2_3, b_ns2_4, b_ns2_5, b_ns2_6, b_ns2_7, b_ns2_8, b_ns2_9, b_ns2_10, b_ns2_11, b_ns2_12, b_ns2_13, b_ns2_14, b_ns2_15, b_ns2_16, b_ns2_17, b_ns2_18, b_ns2_19, b_ns2_20, b_ns2_21, b_ns2_22, b_ns2_23, b_ns2_24, b_ns2_25, b_ns2_26, b_ns2_27, b_ns2_28, b_ns2_29, b_ns2_30, b_ns2_31, b_ns2_32, b_ns2_33, b_ns2_34, b_ns2_35, b_ns2_36, b_ns2_37, b_ns2_38, b_ns2_39, b_ns2_40, b_ns2_41, b_ns2_42, b_ns2_43, b_ns2_44, b_ns2_45, b_ns2_50, b_ns2_51, b_ns2_52, b_ns2_53, b_ns2_54, b_ns2_55, b_ns2_56, b_ns2_57, b_ns2_58, b_ns2_59, b_ns2_60, b_ns2_61, b_ns2_62, b_ns2_63, b_ns2_64, b_ns2_65, b_ns2_66, b_ns2_67, b_ns2_68, b_ns2_69, b_ns2_70, b_ns2_71, b_ns2_72, b_ns2_73, b_ns2_74, b_ns2_75, b_ns2_76, b_ns2_77, b_ns2_78, b_ns2_79, b_ns2_80, b_ns2_81, b_ns2_82, b_ns2_83, b_ns2_84, b_ns2_85, b_ns2_86, b_ns2_87, b_ns2_88, hn]
    exact ⟨fun _ => hQ, fun h => absurd (Int32.le_refl _) h⟩
  | succ k ih =>
    intro i x5 hi
    have e1 : (nI i).toNatClampNeg = i := nI_clamp (by omega)
    have ih := fun x5 => ih (i + 1) x5 (by omega)
    rw [s_9_5]
    simp +decide only [s_9_0, s_9_1, s_9_2, s_9_3, s_9_7, s_9_8, s_9_11, s_9_14, s_9_15, s_9_18, s_9_20, s_9_21, s_9_22, s_9_25, s_9_26, s_9_29, s_9_31, s_9_32, s_9_33, s_9_36, s_9_37, s_9_40, s_9_41, s_9_43, s_9_45, s_9_48, s_9_49, s_9_50, s_9_53, s_9_54, s_9_57, s_9_59, s_9_60, s_9_61, s_9_64, s_9_65, s_9_66, s_9_69, s_9_71, s_9_72, s_9_75, s_9_78, s_9_79, b_res, b_resN, b_nm0, b_nm1, b_nm2, b_ns0, b_ns1, b_l0, b_l1, b_l2, b_l3, b_l4, b_l5, b_l6, Bool.true_and, Bool.and_true, cond_true, b01_0, b01_1, i10, true_and, and_true, true_or, or_true, u_rd, u_2, u_at, reduceIte, eq_self, not_true_eq_false, not_false_eq_true, false_imp_iff, true_imp_iff, forall_const, b_nm3_0, b_nm3_1, b_nm3_2, b_nm3_3, b_nm3_4, b_nm3_5, b_nm3_6, b_nm3_7, b_nm3_8, b_nm3_9, b_nm3_10, b_nm3_11, b_nm3_100, b_nm3_101, b_nm3_102, b_nm3_200, b_nm3_201, b_nm3_202, b_nm3_203, b_nm3_204, b_nm3_205, b_nm3_206, b_nm3_207, b_nm3_208, b_ns2_0, b_ns2_1, b_ns2_2, b_ns2_3, b_ns2_4, b_ns2_5, b_ns2_6, b_ns2_7, b_ns2_8, b_ns2_9, b_ns2_10, b_ns2_11, b_ns2_12, b_ns2_13, b_ns2_14, b_ns2_15, b_ns2_16, b_ns2_17, b_ns2_18, b_ns2_19, b_ns2_20, b_ns2_21, b_ns2_22, b_ns2_23, b_ns2_24, b_ns2_25, b_ns2_26, b_ns2_27, b_ns2_28, b_ns2_29, b_ns2_30, b_ns2_31, b_ns2_32, b_ns2_33, b_ns2_34, b_ns2_35, b_ns2_36, b_ns2_37, b_ns2_38, b_ns2_39, b_ns2_40, b_ns2_41, b_ns2_42, b_ns2_43, b_ns2_44, b_ns2_45, b_ns2_50, b_ns2_51, b_ns2_52, b_ns2_53, b_ns2_54, b_ns2_55, b_ns2_56, b_ns2_57, b_ns2_58, b_ns2_59, b_ns2_60, b_ns2_61, b_ns2_62, b_ns2_63, b_ns2_64, b_ns2_65, b_ns2_66, b_ns2_67, b_ns2_68, b_ns2_69, b_ns2_70, b_ns2_71, b_ns2_72, b_ns2_73, b_ns2_74, b_ns2_75, b_ns2_76, b_ns2_77, b_ns2_78, b_ns2_79, b_ns2_80, b_ns2_81, b_ns2_82, b_ns2_83, b_ns2_84, b_ns2_85, b_ns2_86, b_ns2_87, b_ns2_88, hn, l1, l2, e1, nI_1]
    refine ⟨fun h => absurd h (nI_ge (by omega) (by omega)), fun _ => ⟨v_nI (by omega) (by omega), fun h => ?_, fun hk => ⟨v_nI (by omega) (by omega), fun h => ?_, fun hm => ?_⟩⟩⟩
    · rw [lw_best_no (fun q => q.1 h)] at ih
      exact ih _
    · rw [lw_best_no (fun q => q.2.1 h)] at ih
      exact ih _
    · cases hp : lw_best (μ.1 16) (μ.1 17) month known i with
      | none =>
        rw [lw_best_yes ⟨hk, hm, Or.inl hp⟩] at ih
        exact ⟨fun _ => ih _, fun h => absurd rfl h⟩
      | some q =>
        have hq := lw_best_lt _ _ _ _ _ _ hp
        have e2 : (bI (some q)).toNatClampNeg = q := nI_clamp (by omega)
        have e3 : (bI (some q)).toInt = (q : Int) := nI_toInt (by omega)
        refine ⟨fun h => absurd (congrArg Int32.toInt h) (by rw [e3, kI_m1]; omega), fun _ => ⟨v_nI (by omega) (by omega), v_nI (by omega) (by omega), fun h => ?_, fun h => ?_⟩⟩
        · rw [e2] at h
          rw [lw_best_no (fun z => by rcases z.2.2 with z | ⟨r, z, w⟩ <;> rw [hp] at z <;> cases z; exact w h), hp] at ih
          exact ih _
        · rw [e2] at h
          rw [lw_best_yes ⟨hk, hm, Or.inr ⟨q, hp, h⟩⟩] at ih
          exact ih _
theorem c_inForce {μ : ab_S} {month known : Int32} {b : ab_B} {Q : ab_Q} {n : Nat} (hn : μ.1 3 3 = nI n) (hn2 : n ≤ 8) (l1 : μ.2 16 = 8) (l2 : μ.2 17 = 8) (hQ : Q (some (bI (lw_best (μ.1 16) (μ.1 17) month known n))) μ) : gd_run 9 0 [some (.inr 3), some (.inl month), some (.inl known), none, none, none] [] μ b Q := by
  simp +decide only [s_9_0, s_9_1, s_9_2, s_9_3, s_9_7, s_9_8, s_9_11, s_9_14, s_9_15, s_9_18, s_9_20, s_9_21, s_9_22, s_9_25, s_9_26, s_9_29, s_9_31, s_9_32, s_9_33, s_9_36, s_9_37, s_9_40, s_9_41, s_9_43, s_9_45, s_9_48, s_9_49, s_9_50, s_9_53, s_9_54, s_9_57, s_9_59, s_9_60, s_9_61, s_9_64, s_9_65, s_9_66, s_9_69, s_9_71, s_9_72, s_9_75, s_9_78, s_9_79, b_res, b_resN, b_nm0, b_nm1, b_nm2, b_ns0, b_ns1, b_l0, b_l1, b_l2, b_l3, b_l4, b_l5, b_l6, Bool.true_and, Bool.and_true, cond_true, b01_0, b01_1, i10, true_and, and_true, true_or, or_true, u_rd, u_2, u_at, reduceIte, eq_self, not_true_eq_false, not_false_eq_true, false_imp_iff, true_imp_iff, forall_const, b_nm3_0, b_nm3_1, b_nm3_2, b_nm3_3, b_nm3_4, b_nm3_5, b_nm3_6, b_nm3_7, b_nm3_8, b_nm3_9, b_nm3_10, b_nm3_11, b_nm3_100, b_nm3_101, b_nm3_102, b_nm3_200, b_nm3_201, b_nm3_202, b_nm3_203, b_nm3_204, b_nm3_205, b_nm3_206, b_nm3_207, b_nm3_208, b_ns2_0, b_ns2_1, b_ns2_2, b_ns2_3, b_ns2_4, b_ns2_5, b_ns2_6, b_ns2_7, b_ns2_8, b_ns2_9, b_ns2_10, b_ns2_11, b_ns2_12, b_ns2_13, b_ns2_14, b_ns2_15, b_ns2_16, b_ns2_17, b_ns2_18, b_ns2_19, b_ns2_20, b_ns2_21, b_ns2_22, b_ns2_23, b_ns2_24, b_ns2_25, b_ns2_26, b_ns2_27, b_ns2_28, b_ns2_29, b_ns2_30, b_ns2_31, b_ns2_32, b_ns2_33, b_ns2_34, b_ns2_35, b_ns2_36, b_ns2_37, b_ns2_38, b_ns2_39, b_ns2_40, b_ns2_41, b_ns2_42, b_ns2_43, b_ns2_44, b_ns2_45, b_ns2_50, b_ns2_51, b_ns2_52, b_ns2_53, b_ns2_54, b_ns2_55, b_ns2_56, b_ns2_57, b_ns2_58, b_ns2_59, b_ns2_60, b_ns2_61, b_ns2_62, b_ns2_63, b_ns2_64, b_ns2_65, b_ns2_66, b_ns2_67, b_ns2_68, b_ns2_69, b_ns2_70, b_ns2_71, b_ns2_72, b_ns2_73, b_ns2_74, b_ns2_75, b_ns2_76, b_ns2_77, b_ns2_78, b_ns2_79, b_ns2_80, b_ns2_81, b_ns2_82, b_ns2_83, b_ns2_84, b_ns2_85, b_ns2_86, b_ns2_87, b_ns2_88]
  exact c_inForce_lp hn hn2 l1 l2 hQ n 0 none (by omega)
theorem lw_best_cong {mon kn mon' kn' : Nat → Int32} {month known : Int32} : ∀ {n : Nat}, (∀ j, j < n → mon j = mon' j ∧ kn j = kn' j) → lw_best mon kn month known n = lw_best mon' kn' month known n
  | 0, _ => rfl
  | n + 1, h => by
    have ih := lw_best_cong (month := month) (known := known) (n := n) (fun j hj => h j (by omega))
    have e : lw_better mon kn month known n (lw_best mon kn month known n) = lw_better mon' kn' month known n (lw_best mon' kn' month known n) := by
      unfold lw_better
      rw [← ih, (h n (by omega)).1, (h n (by omega)).2]
      refine propext ⟨fun ⟨a, b, c⟩ => ⟨a, b, c.imp id (fun ⟨q, c1, c2⟩ => ⟨q, c1, ?_⟩)⟩, fun ⟨a, b, c⟩ => ⟨a, b, c.imp id (fun ⟨q, c1, c2⟩ => ⟨q, c1, ?_⟩)⟩⟩
      · rw [← (h q (by have := lw_best_lt _ _ _ _ _ _ c1; omega)).1]
        exact c2
      · rw [(h q (by have := lw_best_lt _ _ _ _ _ _ c1; omega)).1]
        exact c2
    by_cases hc : lw_better mon kn month known n (lw_best mon kn month known n)
    · rw [lw_best_yes hc, lw_best_yes (by rw [← e]; exact hc)]
    · rw [lw_best_no hc, lw_best_no (by rw [← e]; exact hc), ih]
