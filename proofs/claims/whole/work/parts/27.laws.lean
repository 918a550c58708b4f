-- the law in force: the latest month not behind, of several the one told last
def bI (p : Option Nat) : Int32 := match p with
  | none => -1
  | some k => nI k
def lw_better (mon kn : Nat → Int32) (month known : Int32) (k : Nat) (p : Option Nat) : Prop := ¬ known < kn k ∧ ¬ month < mon k ∧ (p = none ∨ ∃ q, p = some q ∧ ¬ mon k < mon q)
noncomputable def lw_best (mon kn : Nat → Int32) (month known : Int32) : Nat → Option Nat
  | 0 => none
  | k + 1 => @ite _ (lw_better mon kn month known k (lw_best mon kn month known k)) (Classical.propDecidable _) (some k) (lw_best mon kn month known k)
theorem lw_best_lt (mon kn : Nat → Int32) (month known : Int32) : ∀ n q, lw_best mon kn month known n = some q → q < n
  | 0, q, h => by cases h
  | n + 1, q, h => by
    rw [lw_best] at h
    split at h
    · cases h
      exact Nat.lt_succ_self n
    · exact Nat.lt_succ_of_lt (lw_best_lt mon kn month known n q h)
theorem lw_best_yes {mon kn : Nat → Int32} {month known : Int32} {k : Nat} (h : lw_better mon kn month known k (lw_best mon kn month known k)) : lw_best mon kn month known (k + 1) = some k := by
  rw [lw_best, if_pos h]
theorem lw_best_no {mon kn : Nat → Int32} {month known : Int32} {k : Nat} (h : ¬ lw_better mon kn month known k (lw_best mon kn month known k)) : lw_best mon kn month known (k + 1) = lw_best mon kn month known k := by
  rw [lw_best, if_neg h]
theorem m_lawOf_lp {μ : ab_S} {month known : Int32} {b : ab_B} {Q : ab_Q} {n : Nat} (hn : μ.1 11 3 = nI n) (hn2 : n ≤ 8) (l1 : μ.2 52 = 9) (l2 : μ.2 53 = 9) (hQ : Q (some (bI (lw_best (μ.1 52) (μ.1 53) month known n))) μ) :
    ∀ (k i : Nat), i + k = n → gd_run 138 5 [some (.inr 11), some (.inl month), some (.inl known), some (.inl (bI (lw_best (μ.1 52) (μ.1 53) month known i))), some (.inl (nI i))] [] μ b Q := by
  intro k
  induction k with
  | zero =>
    intro i hi
    have : i = n := by omega
    subst this
    rw [s_138_5]
    simp +decide only [s_138_0, s_138_1, s_138_2, s_138_3, s_138_7, s_138_8, s_138_11, s_138_14, s_138_15, s_138_18, s_138_20, s_138_21, s_138_22, s_138_25, s_138_26, s_138_29, s_138_31, s_138_32, s_138_33, s_138_36, s_138_37, s_138_40, s_138_41, s_138_44, s_138_46, s_138_47, s_138_48, s_138_51, s_138_52, s_138_53, s_138_56, s_138_58, s_138_59, s_138_62, s_138_65, s_138_66, b_res, b_resN, b_nm0, b_nm1, b_nm2, b_ns0, b_ns1, b_l0, b_l1, b_l2, b_l3, b_l4, b_l5, b_l6, Bool.true_and, Bool.and_true, cond_true, b01_0, b01_1, i10, true_and, and_true, true_or, or_true, u_rd, u_2, u_at, reduceIte, eq_self, not_true_eq_false, not_false_eq_true, false_imp_iff, true_imp_iff, forall_const, b_nm3_0, b_nm3_1, b_nm3_2, b_nm3_3, b_nm3_4, b_nm3_5, b_nm3_6, b_nm3_7, b_nm3_8, b_nm3_9, b_nm3_10, b_nm3_11, b_nm3_100, b_nm3_101, b_nm3_102, b_nm3_200, b_nm3_201, b_nm3_202, b_nm3_203, b_nm3_204, b_nm3_205, b_nm3_206, b_nm3_207, b_nm3_208, b_ns2_0, b_ns2_1, b_ns2_2, b_ns2_3, b_ns2_4, b_ns2_5, b_ns2_6, b_ns2_7, b_ns2_8, b_ns2_9, b_ns2_10, b_ns2_11, b_ns2_12, b_ns2_13, b_ns2_14, b_ns2_15, b_ns2_16, b_ns2_17, b_ns2_18, b_ns2_19, b_ns2_20, b_ns2_21, b_ns2_22, b_ns2_23, b_ns2_24, b_ns2_25, b_ns2_26, b_ns2_27, b_ns2_28, b_ns2_29, b_ns2_30, b_ns2_31, b_ns2_32, b_ns2_33, b_ns2_34, b_ns2_35, b_ns2_36, b_ns2_37, b_ns2_38, b_ns2_39, b_ns2_40, b_ns2_41, b_ns2_42, b_ns2_43, b_ns2_44, b_ns2_45, b_ns2_50, b_ns2_51, b_ns2_52, b_ns2_53, b_ns2_54, b_ns2_55, b_ns2_56, b_ns2_57, b_ns2_58, b_ns2_59, b_ns2_60, b_ns2_61, b_ns2_62, b_ns2_63, b_ns2_64, b_ns2_65, b_ns2_66, b_ns2_67, b_ns2_68, b_ns2_69, b_ns2_70, b_ns2_71, b_ns2_72, b_ns2_73, b_ns2_74, b_ns2_75, b_ns2_76, b_ns2_77, b_ns2_78, b_ns2_79, b_ns2_80, b_ns2_81, b_ns2_82, b_ns2_83, b_ns2_84, b_ns2_85, b_ns2_86, b_ns2_87, b_ns2_88, hn]
    exact ⟨fun _ => hQ, fun h => absurd (Int32.le_refl _) h⟩
  | succ k ih =>
    intro i hi
    have e1 : (nI i).toNatClampNeg = i := nI_clamp (by omega)
    have ih := ih (i + 1) (by omega)
    rw [s_138_5]
    simp +decide only [s_138_0, s_138_1, s_138_2, s_138_3, s_138_7, s_138_8, s_138_11, s_138_14, s_138_15, s_138_18, s_138_20, s_138_21, s_138_22, s_138_25, s_138_26, s_138_29, s_138_31, s_138_32, s_138_33, s_138_36, s_138_37, s_138_40, s_138_41, s_138_44, s_138_46, s_138_47, s_138_48, s_138_51, s_138_52, s_138_53, s_138_56, s_138_58, s_138_59, s_138_62, s_138_65, s_138_66, b_res, b_resN, b_nm0, b_nm1, b_nm2, b_ns0, b_ns1, b_l0, b_l1, b_l2, b_l3, b_l4, b_l5, b_l6, Bool.true_and, Bool.and_true, cond_true, b01_0, b01_1, i10, true_and, and_true, true_or, or_true, u_rd, u_2, u_at, reduceIte, eq_self, not_true_eq_false, not_false_eq_true, false_imp_iff, true_imp_iff, forall_const, b_nm3_0, b_nm3_1, b_nm3_2, b_nm3_3, b_nm3_4, b_nm3_5, b_nm3_6, b_nm3_7, b_nm3_8, b_nm3_9, b_nm3_10, b_nm3_11, b_nm3_100, b_nm3_101, b_nm3_102, b_nm3_200, b_nm3_201, b_nm3_202, b_nm3_203, b_nm3_204, b_nm3_205, b_nm3_206, b_nm3_207, b_nm3_208, b_ns2_0, b_ns2_1, b_ns2_2, b_ns2_3, b_ns2_4, b_ns2_5, b_ns2_6, b_ns2_7, b_ns2_8, b_ns2_9, b_ns2_10, b_ns2_11, b_ns2_12, b_ns2_13, b_ns2_14, b_ns2_15, b_ns2_16, b_ns2_17, b_ns2_18, b_ns2_19, b_ns2_20, b_ns2_21, b_ns2_22, b_ns2_23, b_ns2_24, b_ns2_25, b_ns2_26, b_ns2_27, b_ns2_28, b_ns2_29, b_ns2_30, b_ns2_31, b_ns2_32, b_ns2_33, b_ns2_34, b_ns2_35, b_ns2_36, b_ns2_37, b_ns2_38, b_ns2_39, b_ns2_40, b_ns2_41, b_ns2_42, b_ns2_43, b_ns2_44, b_ns2_45, b_ns2_50, b_ns2_51, b_ns2_52, b_ns2_53, b_ns2_54, b_ns2_55, b_ns2_56, b_ns2_57, b_ns2_58, b_ns2_59, b_ns2_60, b_ns2_61, b_ns2_62, b_ns2_63, b_ns2_64, b_ns2_65, b_ns2_66, b_ns2_67, b_ns2_68, b_ns2_69, b_ns2_70, b_ns2_71, b_ns2_72, b_ns2_73, b_ns2_74, b_ns2_75, b_ns2_76, b_ns2_77, b_ns2_78, b_ns2_79, b_ns2_80, b_ns2_81, b_ns2_82, b_ns2_83, b_ns2_84, b_ns2_85, b_ns2_86, b_ns2_87, b_ns2_88, hn, l1, l2, e1, nI_1]
    refine ⟨fun h => absurd h (nI_ge (by omega) (by omega)), fun _ => ⟨v_nI (by omega) (by omega), fun h => ?_, fun hm => ⟨v_nI (by omega) (by omega), fun h => ?_, fun hk => ?_⟩⟩⟩
    · rw [lw_best_no (fun q => q.2.1 h)] at ih
      exact ih
    · rw [lw_best_no (fun q => q.1 h)] at ih
      exact ih
    · cases hp : lw_best (μ.1 52) (μ.1 53) month known i with
      | none =>
        rw [lw_best_yes ⟨hk, hm, Or.inl hp⟩] at ih
        exact ⟨fun _ => ih, fun h => absurd (by decide) h⟩
      | some q =>
        have hq := lw_best_lt _ _ _ _ _ _ hp
        have e2 : (bI (some q)).toNatClampNeg = q := nI_clamp (by omega)
        refine ⟨fun h => absurd h (nI_pos (by omega)), fun _ => ⟨v_nI (by omega) (by omega), v_nI (by omega) (by omega), fun h => ?_, fun h => ?_⟩⟩
        · rw [e2] at h
          rw [lw_best_no (fun z => by rcases z.2.2 with z | ⟨r, z, w⟩ <;> rw [hp] at z <;> cases z; exact w h), hp] at ih
          exact ih
        · rw [e2] at h
          rw [lw_best_yes ⟨hk, hm, Or.inr ⟨q, hp, h⟩⟩] at ih
          exact ih
