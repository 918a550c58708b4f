-- frauds
def x_frauds (f : Nat → Int32) (g : Int32) : Int32 := if g.toInt < 0 ∨ 3 < g.toInt then -1 else f g.toNatClampNeg
theorem c_frauds {μ : ab_S} {g : Int32} {b : ab_B} {Q : ab_Q} (l1 : μ.2 43 = 4) (hQ : ∀ v, v = x_frauds (μ.1 43) g → Q (some v) μ) : gd_run 108 0 [some (.inr 0), some (.inl g)] [] μ b Q := by
  simp +decide only [s_108_0, s_108_1, s_108_4, s_108_7, s_108_8, s_108_11, s_108_12, s_108_15, s_108_18, s_108_19, s_122_0, s_122_1, s_122_4, s_122_5, s_122_6, s_122_9, s_122_10, s_122_13, s_122_14, s_91_0, s_91_1, s_91_4, s_91_7, s_91_8, s_91_11, s_91_12, s_91_13, s_91_16, s_91_17, b_res, b_resN, b_nm0, b_nm1, b_nm2, b_ns0, b_ns1, b_l0, b_l1, b_l2, b_l3, b_l4, b_l5, b_l6, Bool.true_and, Bool.and_true, cond_true, b01_0, b01_1, i10, true_and, and_true, true_or, or_true, u_rd, u_2, u_at, reduceIte, eq_self, not_true_eq_false, not_false_eq_true, false_imp_iff, true_imp_iff, forall_const, b_nm3_0, b_nm3_1, b_nm3_2, b_nm3_3, b_nm3_4, b_nm3_5, b_nm3_6, b_nm3_7, b_nm3_8, b_nm3_9, b_nm3_10, b_nm3_11, b_nm3_100, b_nm3_101, b_nm3_102, b_nm3_200, b_nm3_201, b_nm3_202, b_nm3_203, b_nm3_204, b_nm3_205, b_nm3_206, b_nm3_207, b_nm3_208, b_ns2_0, b_ns2_1, b_ns2_2, b_ns2_3, b_ns2_4, b_ns2_5, b_ns2_6, b_ns2_7, b_ns2_8, b_ns2_9, b_ns2_10, b_ns2_11, l1]
  simp only [i_lt, i_le, kI_m1, kI_0, kI_1, kI_2, kI_3, kI_4, kI_5, kI_6, kI_7, kI_8, kI_9, kI_10, kI_12, kI_13, kI_19, kI_20, kI_24, kI_29, kI_30, kI_31, kI_32, kI_48, kI_57, kI_59, kI_60, kI_97, kI_99, kI_100, kI_119, kI_120, kI_122, kI_149, kI_150, kI_199, kI_200, kI_255, kI_1000, kI_3000, kI_3700, kI_5000]
  repeat' first | exact v_in (by omega) (by omega) | (apply hQ; unfold x_frauds; (repeat' split) <;> first | rfl | (exfalso; omega)) | apply And.intro | intro _
theorem m_frauds {μ : ab_S} {g : Int32} {b : ab_B} {Q : ab_Q} (l1 : μ.2 73 = 4) (hQ : ∀ v, v = x_frauds (μ.1 73) g → Q (some v) μ) : gd_run 158 0 [some (.inr 11), some (.inl g)] [] μ b Q := by
  simp +decide only [s_158_0, s_158_1, s_158_2, s_158_3, s_158_6, s_158_9, s_158_10, s_158_13, s_158_14, s_158_15, s_158_18, s_158_19, s_124_0, s_124_1, s_124_2, s_124_5, s_124_6, s_124_7, s_124_10, s_124_11, s_124_14, s_124_15, b_res, b_resN, b_nm0, b_nm1, b_nm2, b_ns0, b_ns1, b_l0, b_l1, b_l2, b_l3, b_l4, b_l5, b_l6, Bool.true_and, Bool.and_true, cond_true, b01_0, b01_1, i10, true_and, and_true, true_or, or_true, u_rd, u_2, u_at, reduceIte, eq_self, not_true_eq_false, not_false_eq_true, false_imp_iff, true_imp_iff, forall_const, b_nm3_0, b_nm3_1, b_nm3_2, b_nm3_3, b_nm3_4, b_nm3_5, b_nm3_6, b_nm3_7, b_nm3_8, b_nm3_9, b_nm3_10, b_nm3_11, b_nm3_100, b_nm3_101, b_nm3_102, b_nm3_200, b_nm3_201, b_nm3_202, b_nm3_203, b_nm3_204, b_nm3_205, b_nm3_206, b_nm3_207, b_nm3_208, b_ns2_0, b_ns2_1, b_ns2_2, b_ns2_3, b_ns2_4, b_ns2_5, b_ns2_6, b_ns2_7, b_ns2_8, b_ns2_9, b_ns2_10, b_ns2_11, l1]
  simp only [i_lt, i_le, kI_m1, kI_0, kI_1, kI_2, kI_3, kI_4, kI_5, kI_6, kI_7, kI_8, kI_9, kI_10, kI_12, kI_13, kI_19, kI_20, kI_24, kI_29, kI_30, kI_31, kI_32, kI_48, kI_57, kI_59, kI_60, kI_97, kI_99, kI_100, kI_119, kI_120, kI_122, kI_149, kI_150, kI_199, kI_200, kI_255, kI_1000, kI_3000, kI_3700, kI_5000]
  repeat' first | exact v_in (by omega) (by omega) | (apply hQ; unfold x_frauds; (repeat' split) <;> first | rfl | (exfalso; omega)) | apply And.intro | intro _
theorem sim_frauds {T : Nat} {μ : ab_S} (g : Int32) (h : gd_rel T μ) : lw_sim1 gd_rel 108 158 T (0, 0) [g] μ := by
  have h0 := h
  obtain ⟨hT2, hT, hT', L, hL, hl, h1, h2, h3, h4, h5, h6, h7⟩ := h
  show gd_run 108 0 [some (.inr 0), some (.inl g)] [] μ (0, 0) _
  refine c_frauds (by rw [hl]; rfl) (fun v hv => ⟨v, rfl, ?_⟩)
  show gd_run 158 0 [some (.inr 11), some (.inl g)] [] μ (0, 0) _
  refine m_frauds (by rw [hl]; rfl) (fun w hw => ⟨?_, h0⟩)
  rw [hw, hv]
  unfold x_frauds
  split
  · rfl
  · rw [h6.2 g.toNatClampNeg (by show g.toInt.toNat < 4; omega)]
-- lot
def x_lot (n : Nat) (f0 f1 f2 f3 f4 f5 : Nat → Int32) (k w : Int32) : Int32 := if k.toInt < 0 ∨ (n : Int) ≤ k.toInt then -1 else if w.toInt = 0 then f0 k.toNatClampNeg else if w.toInt = 1 then f1 k.toNatClampNeg else if w.toInt = 2 then f2 k.toNatClampNeg else if w.toInt = 3 then f3 k.toNatClampNeg else if w.toInt = 4 then f4 k.toNatClampNeg else if w.toInt = 5 then f5 k.toNatClampNeg else -1
theorem c_lot {μ : ab_S} {k w : Int32} {b : ab_B} {Q : ab_Q} {n : Nat} (hn : μ.1 7 9 = nI n) (hn2 : n ≤ 100) (l0 : μ.2 34 = 100) (l1 : μ.2 35 = 100) (l2 : μ.2 36 = 100) (l3 : μ.2 37 = 100) (l4 : μ.2 38 = 100) (l5 : μ.2 39 = 100) (hQ : ∀ v, v = x_lot n (μ.1 34) (μ.1 35) (μ.1 36) (μ.1 37) (μ.1 38) (μ.1 39) k w → Q (some v) μ) : gd_run 104 0 [some (.inr 0), some (.inl k), some (.inl w)] [] μ b Q := by
  have t1 : (nI n).toInt = (n : Int) := nI_toInt (by omega)
  simp +decide only [s_104_0, s_104_1, s_104_4, s_104_5, s_104_8, s_104_11, s_104_12, s_104_15, s_104_16, s_104_17, s_104_20, s_104_23, s_104_24, s_71_0, s_71_1, s_71_4, s_71_5, s_71_6, s_71_9, s_71_12, s_71_13, s_71_16, s_71_17, s_77_0, s_77_1, s_77_2, s_77_5, s_77_8, s_77_9, s_77_10, s_77_11, s_77_48, s_77_49, s_77_52, s_77_53, s_77_54, s_77_55, s_77_56, s_77_59, s_77_60, s_77_61, s_77_62, s_77_63, s_77_66, s_77_67, s_77_68, s_77_69, s_77_70, s_77_73, s_77_74, s_77_75, s_77_76, s_77_77, s_77_80, s_77_81, s_77_82, s_77_83, s_77_84, s_77_87, s_77_88, s_77_89, s_77_90, s_77_91, b_res, b_resN, b_nm0, b_nm1, b_nm2, b_ns0, b_ns1, b_l0, b_l1, b_l2, b_l3, b_l4, b_l5, b_l6, Bool.true_and, Bool.and_true, cond_true, b01_0, b01_1, i10, true_and, and_true, true_or, or_true, u_rd, u_2, u_at, reduceIte, eq_self, not_true_eq_false, not_false_eq_true, false_imp_iff, true_imp_iff, forall_const, b_nm3_0, b_nm3_1, b_nm3_2, b_nm3_3, b_nm3_4, b_nm3_5, b_nm3_6, b_nm3_7, b_nm3_8, b_nm3_9, b_nm3_10, b_nm3_11, b_nm3_100, b_nm3_101, b_nm3_102, b_nm3_200, b_nm3_201, b_nm3_202, b_nm3_203, b_nm3_204, b_nm3_205, b_nm3_206, b_nm3_207, b_nm3_208, b_ns2_0, b_ns2_1, b_ns2_2, b_ns2_3, b_ns2_4, b_ns2_5, b_ns2_6, b_ns2_7, b_ns2_8, b_ns2_9, b_ns2_10, b_ns2_11, hn, l0, l1, l2, l3, l4, l5]
  simp only [i_lt, i_le, kI_m1, kI_0, kI_1, kI_2, kI_3, kI_4, kI_5, kI_6, kI_7, kI_8, kI_9, kI_10, kI_12, kI_13, kI_19, kI_20, kI_24, kI_29, kI_30, kI_31, kI_32, kI_48, kI_57, kI_59, kI_60, kI_97, kI_99, kI_100, kI_119, kI_120, kI_122, kI_149, kI_150, kI_199, kI_200, kI_255, kI_1000, kI_3000, kI_3700, kI_5000, t1]
  repeat' first | exact v_in (by omega) (by omega) | (apply hQ; unfold x_lot; (repeat' split) <;> first | rfl | (exfalso; omega)) | apply And.intro | intro _
theorem m_lot {μ : ab_S} {k w : Int32} {b : ab_B} {Q : ab_Q} {n : Nat} (hn : μ.1 11 18 = nI n) (hn2 : n ≤ 100) (l0 : μ.2 64 = 100) (l1 : μ.2 65 = 100) (l2 : μ.2 66 = 100) (l3 : μ.2 67 = 100) (l4 : μ.2 68 = 100) (l5 : μ.2 69 = 100) (hQ : ∀ v, v = x_lot n (μ.1 64) (μ.1 65) (μ.1 66) (μ.1 67) (μ.1 68) (μ.1 69) k w → Q (some v) μ) : gd_run 154 0 [some (.inr 11), some (.inl k), some (.inl w)] [] μ b Q := by
  have t1 : (nI n - 1).toInt = (n : Int) - 1 := pk_sub_toInt (b := 1) (by omega) (by omega)
  simp +decide only [s_154_0, s_154_1, s_154_2, s_154_3, s_154_6, s_154_7, s_154_8, s_154_11, s_154_14, s_154_15, s_154_16, s_154_17, s_154_56, s_154_57, s_154_60, s_154_61, s_154_62, s_154_63, s_154_64, s_154_67, s_154_68, s_154_69, s_154_70, s_154_71, s_154_74, s_154_75, s_154_76, s_154_77, s_154_78, s_154_81, s_154_82, s_154_83, s_154_84, s_154_85, s_154_88, s_154_89, s_154_90, s_154_91, s_154_92, s_154_95, s_154_96, s_154_97, s_154_98, s_154_99, s_124_0, s_124_1, s_124_2, s_124_5, s_124_6, s_124_7, s_124_10, s_124_11, s_124_14, s_124_15, b_res, b_resN, b_nm0, b_nm1, b_nm2, b_ns0, b_ns1, b_l0, b_l1, b_l2, b_l3, b_l4, b_l5, b_l6, Bool.true_and, Bool.and_true, cond_true, b01_0, b01_1, i10, true_and, and_true, true_or, or_true, u_rd, u_2, u_at, reduceIte, eq_self, not_true_eq_false, not_false_eq_true, false_imp_iff, true_imp_iff, forall_const, b_nm3_0, b_nm3_1, b_nm3_2, b_nm3_3, b_nm3_4, b_nm3_5, b_nm3_6, b_nm3_7, b_nm3_8, b_nm3_9, b_nm3_10, b_nm3_11, b_nm3_100, b_nm3_101, b_nm3_102, b_nm3_200, b_nm3_201, b_nm3_202, b_nm3_203, b_nm3_204, b_nm3_205, b_nm3_206, b_nm3_207, b_nm3_208, b_ns2_0, b_ns2_1, b_ns2_2, b_ns2_3, b_ns2_4, b_ns2_5, b_ns2_6, b_ns2_7, b_ns2_8, b_ns2_9, b_ns2_10, b_ns2_11, hn, l0, l1, l2, l3, l4, l5]
  simp only [i_lt, i_le, kI_m1, kI_0, kI_1, kI_2, kI_3, kI_4, kI_5, kI_6, kI_7, kI_8, kI_9, kI_10, kI_12, kI_13, kI_19, kI_20, kI_24, kI_29, kI_30, kI_31, kI_32, kI_48, kI_57, kI_59, kI_60, kI_97, kI_99, kI_100, kI_119, kI_120, kI_122, kI_149, kI_150, kI_199, kI_200, kI_255, kI_1000, kI_3000, kI_3700, kI_5000, t1]
  repeat' first | exact v_in (by omega) (by omega) | (apply hQ; unfold x_lot; (repeat' split) <;> first | rfl | (exfalso; omega)) | apply And.intro | intro _
theorem sim_lot {T : Nat} {μ : ab_S} (k w : Int32) (h : gd_rel T μ) : lw_sim1 gd_rel 104 154 T (0, 0) [k, w] μ := by
  have h0 := h
  obtain ⟨hT2, hT, hT', L, hL, hl, h1, h2, h3, h4, h5, h6, h7⟩ := h
  obtain ⟨n, hn2, hn, hn', -, hj⟩ := h5
  show gd_run 104 0 [some (.inr 0), some (.inl k), some (.inl w)] [] μ (0, 0) _
  refine c_lot hn hn2 (by rw [hl]; rfl) (by rw [hl]; rfl) (by rw [hl]; rfl) (by rw [hl]; rfl) (by rw [hl]; rfl) (by rw [hl]; rfl) (fun v hv => ⟨v, rfl, ?_⟩)
  show gd_run 154 0 [some (.inr 11), some (.inl k), some (.inl w)] [] μ (0, 0) _
  refine m_lot hn' hn2 (by rw [hl]; rfl) (by rw [hl]; rfl) (by rw [hl]; rfl) (by rw [hl]; rfl) (by rw [hl]; rfl) (by rw [hl]; rfl) (fun v2 hw => ⟨?_, h0⟩)
  rw [hw, hv]
  by_cases hk : k.toInt < 0 ∨ (n : Int) ≤ k.toInt
  · unfold x_lot
    rw [if_pos hk, if_pos hk]
  · obtain ⟨g0, g1, g2, g3, g4, g5, -⟩ := hj k.toNatClampNeg (by show k.toInt.toNat < n; omega)
    unfold x_lot
    rw [g0, g1, g2, g3, g4, g5]
-- swear
theorem c_swear {μ : ab_S} {p : Int32} {b : ab_B} {Q : ab_Q} {T : Nat} (hT : μ.1 0 10 = nI T) (hT2 : T ≤ 120) (l1 : μ.2 41 = 30) (hbad : (120 ≤ T ∨ p.toInt < 0 ∨ 29 < p.toInt) → Q (some 0) μ) (hno : ¬ (120 ≤ T ∨ p.toInt < 0 ∨ 29 < p.toInt) → ¬ μ.1 41 p.toNatClampNeg = 0 → Q (some 0) μ) (h01 : ¬ (120 ≤ T ∨ p.toInt < 0 ∨ 29 < p.toInt) → μ.1 41 p.toNatClampNeg = 0 ∨ μ.1 41 p.toNatClampNeg = 1) (hok : ¬ (120 ≤ T ∨ p.toInt < 0 ∨ 29 < p.toInt) → μ.1 41 p.toNatClampNeg = 0 → Q (some 1) (ab_up μ 41 p.toNatClampNeg 1)) : gd_run 106 0 [some (.inr 0), some (.inl p)] [] μ b Q := by
  have t1 : (nI T).toInt = (T : Int) := nI_toInt (by omega)
  have n1 : vp_nar .boolean 1 = 1 := by decide
  simp +decide only [s_106_0, s_106_1, s_106_4, s_106_7, s_106_8, s_106_11, s_106_14, s_106_15, s_106_18, s_106_19, s_106_22, s_106_25, s_106_26, s_106_27, s_106_28, s_106_31, s_106_32, s_106_35, s_106_36, s_115_0, s_115_1, s_115_4, s_115_6, s_115_9, s_115_10, s_115_13, s_115_14, s_118_0, s_118_1, s_118_4, s_118_5, s_118_7, s_118_10, s_118_11, s_118_14, s_118_15, s_86_0, s_86_1, s_86_4, s_86_7, s_86_8, s_86_11, s_86_12, s_86_13, s_86_16, s_86_17, s_86_20, s_86_21, s_87_0, s_87_1, s_87_4, s_87_7, s_87_8, s_87_11, s_87_12, s_87_13, s_87_14, b_res, b_resN, b_nm0, b_nm1, b_nm2, b_ns0, b_ns1, b_l0, b_l1, b_l2, b_l3, b_l4, b_l5, b_l6, Bool.true_and, Bool.and_true, cond_true, b01_0, b01_1, i10, true_and, and_true, true_or, or_true, u_rd, u_2, u_at, reduceIte, eq_self, not_true_eq_false, not_false_eq_true, false_imp_iff, true_imp_iff, forall_const, b_nm3_0, b_nm3_1, b_nm3_2, b_nm3_3, b_nm3_4, b_nm3_5, b_nm3_6, b_nm3_7, b_nm3_8, b_nm3_9, b_nm3_10, b_nm3_11, b_nm3_100, b_nm3_101, b_nm3_102, b_nm3_200, b_nm3_201, b_nm3_202, b_nm3_203, b_nm3_204, b_nm3_205, b_nm3_206, b_nm3_207, b_nm3_208, b_ns2_0, b_ns2_1, b_ns2_2, b_ns2_3, b_ns2_4, b_ns2_5, b_ns2_6, b_ns2_7, b_ns2_8, b_ns2_9, b_ns2_10, b_ns2_11, hT, l1, n1]
  simp only [i_lt, i_le, kI_m1, kI_0, kI_1, kI_2, kI_3, kI_4, kI_5, kI_6, kI_7, kI_8, kI_9, kI_10, kI_12, kI_13, kI_19, kI_20, kI_24, kI_29, kI_30, kI_31, kI_32, kI_48, kI_57, kI_59, kI_60, kI_97, kI_99, kI_100, kI_119, kI_120, kI_122, kI_149, kI_150, kI_199, kI_200, kI_255, kI_1000, kI_3000, kI_3700, kI_5000, t1]
  repeat' first | exact hbad (by omega) | exact hno (by omega) (by assumption) | exact hok (by omega) (by assumption) | exact h01 (by omega) | exact v_in (by omega) (by omega) | (exfalso; omega) | apply And.intro | intro _
theorem m_swear {μ : ab_S} {p : Int32} {b : ab_B} {Q : ab_Q} {T : Nat} (hT : μ.1 11 0 = nI T) (hT2 : T ≤ 120) (l1 : μ.2 71 = 30) (hbad : (120 ≤ T ∨ p.toInt < 0 ∨ 29 < p.toInt) → Q (some 0) μ) (hno : ¬ (120 ≤ T ∨ p.toInt < 0 ∨ 29 < p.toInt) → ¬ μ.1 71 p.toNatClampNeg = 0 → Q (some 0) μ) (hok : ¬ (120 ≤ T ∨ p.toInt < 0 ∨ 29 < p.toInt) → μ.1 71 p.toNatClampNeg = 0 → Q (some 1) (ab_up μ 71 p.toNatClampNeg 1)) : gd_run 156 0 [some (.inr 11), some (.inl p)] [] μ b Q := by
  have t1 : (nI T).toInt = (T : Int) := nI_toInt (by omega)
  have n1 : vp_nar .boolean 1 = 1 := by decide
  have e1 : (nI T = 120) = (T = 120) := propext ⟨fun h => by have := congrArg Int32.toInt h; rw [t1] at this; have k := kI_120; omega, fun h => by rw [h]; rfl⟩
  simp +decide only [s_156_0, s_156_1, s_156_2, s_156_4, s_156_7, s_156_10, s_156_11, s_156_14, s_156_16, s_156_19, s_156_20, s_156_23, s_156_24, s_156_25, s_156_28, s_156_29, s_156_30, s_156_31, s_156_34, s_156_35, s_156_36, s_156_37, s_156_38, s_124_0, s_124_1, s_124_2, s_124_5, s_124_6, s_124_7, s_124_10, s_124_11, s_124_14, s_124_15, b_res, b_resN, b_nm0, b_nm1, b_nm2, b_ns0, b_ns1, b_l0, b_l1, b_l2, b_l3, b_l4, b_l5, b_l6, Bool.true_and, Bool.and_true, cond_true, b01_0, b01_1, i10, true_and, and_true, true_or, or_true, u_rd, u_2, u_at, reduceIte, eq_self, not_true_eq_false, not_false_eq_true, false_imp_iff, true_imp_iff, forall_const, b_nm3_0, b_nm3_1, b_nm3_2, b_nm3_3, b_nm3_4, b_nm3_5, b_nm3_6, b_nm3_7, b_nm3_8, b_nm3_9, b_nm3_10, b_nm3_11, b_nm3_100, b_nm3_101, b_nm3_102, b_nm3_200, b_nm3_201, b_nm3_202, b_nm3_203, b_nm3_204, b_nm3_205, b_nm3_206, b_nm3_207, b_nm3_208, b_ns2_0, b_ns2_1, b_ns2_2, b_ns2_3, b_ns2_4, b_ns2_5, b_ns2_6, b_ns2_7, b_ns2_8, b_ns2_9, b_ns2_10, b_ns2_11, hT, l1, n1, e1]
  simp only [i_lt, i_le, kI_m1, kI_0, kI_1, kI_2, kI_3, kI_4, kI_5, kI_6, kI_7, kI_8, kI_9, kI_10, kI_12, kI_13, kI_19, kI_20, kI_24, kI_29, kI_30, kI_31, kI_32, kI_48, kI_57, kI_59, kI_60, kI_97, kI_99, kI_100, kI_119, kI_120, kI_122, kI_149, kI_150, kI_199, kI_200, kI_255, kI_1000, kI_3000, kI_3700, kI_5000, t1]
  repeat' first | exact hbad (by omega) | exact hno (by omega) (by assumption) | exact hok (by omega) (by assumption) | exact v_in (by omega) (by omega) | apply And.intro | intro _
theorem sim_swear {T : Nat} {μ : ab_S} (p : Int32) (h : gd_rel T μ) : lw_sim1 gd_rel 106 156 T (0, 0) [p] μ := by
  have h0 := h
  obtain ⟨hT2, hT, hT', L, hL, hl, h1, h2, h3, h4, h5, h6, h7⟩ := h
  have hp : ¬ (120 ≤ T ∨ p.toInt < 0 ∨ 29 < p.toInt) → p.toNatClampNeg < 30 := fun q => by show p.toInt.toNat < 30; omega
  show gd_run 106 0 [some (.inr 0), some (.inl p)] [] μ (0, 0) _
  refine c_swear hT hT2 (by rw [hl]; rfl) (fun hb => ⟨_, rfl, ?_⟩) (fun hb hs => ⟨_, rfl, ?_⟩) (fun hb => (h6.1 _ (hp hb)).2.1) (fun hb hs => ⟨_, rfl, ?_⟩)
  · show gd_run 156 0 [some (.inr 11), some (.inl p)] [] μ (0, 0) _
    exact m_swear hT' hT2 (by rw [hl]; rfl) (fun _ => ⟨rfl, h0⟩) (fun q => absurd hb q) (fun q => absurd hb q)
  · show gd_run 156 0 [some (.inr 11), some (.inl p)] [] μ (0, 0) _
    exact m_swear hT' hT2 (by rw [hl]; rfl) (fun q => absurd q hb) (fun _ _ => ⟨rfl, h0⟩) (fun _ q => absurd ((h6.1 _ (hp hb)).1.trans q) hs)
  · show gd_run 156 0 [some (.inr 11), some (.inl p)] [] _ (0, 0) _
    have e := (h6.1 _ (hp hb)).1
    refine m_swear (T := T) ?_ hT2 ?_ (fun q => absurd q hb) (fun _ q => absurd ?_ q) (fun _ _ => ⟨rfl, ?_⟩)
    · simp +decide only [b_res, b_resN, b_nm0, b_nm1, b_nm2, b_ns0, b_ns1, b_l0, b_l1, b_l2, b_l3, b_l4, b_l5, b_l6, Bool.true_and, Bool.and_true, cond_true, b01_0, b01_1, i10, true_and, and_true, true_or, or_true, u_rd, u_2, u_at, reduceIte, eq_self, not_true_eq_false, not_false_eq_true, false_imp_iff, true_imp_iff, forall_const, b_nm3_0, b_nm3_1, b_nm3_2, b_nm3_3, b_nm3_4, b_nm3_5, b_nm3_6, b_nm3_7, b_nm3_8, b_nm3_9, b_nm3_10, b_nm3_11, b_nm3_100, b_nm3_101, b_nm3_102, b_nm3_200, b_nm3_201, b_nm3_202, b_nm3_203, b_nm3_204, b_nm3_205, b_nm3_206, b_nm3_207, b_nm3_208, b_ns2_0, b_ns2_1, b_ns2_2, b_ns2_3, b_ns2_4, b_ns2_5, b_ns2_6, b_ns2_7, b_ns2_8, b_ns2_9, b_ns2_10, b_ns2_11, hT']
    · rw [u_2, hl]; rfl
    · simp +decide only [b_res, b_resN, b_nm0, b_nm1, b_nm2, b_ns0, b_ns1, b_l0, b_l1, b_l2, b_l3, b_l4, b_l5, b_l6, Bool.true_and, Bool.and_true, cond_true, b01_0, b01_1, i10, true_and, and_true, true_or, or_true, u_rd, u_2, u_at, reduceIte, eq_self, not_true_eq_false, not_false_eq_true, false_imp_iff, true_imp_iff, forall_const, b_nm3_0, b_nm3_1, b_nm3_2, b_nm3_3, b_nm3_4, b_nm3_5, b_nm3_6, b_nm3_7, b_nm3_8, b_nm3_9, b_nm3_10, b_nm3_11, b_nm3_100, b_nm3_101, b_nm3_102, b_nm3_200, b_nm3_201, b_nm3_202, b_nm3_203, b_nm3_204, b_nm3_205, b_nm3_206, b_nm3_207, b_nm3_208, b_ns2_0, b_ns2_1, b_ns2_2, b_ns2_3, b_ns2_4, b_ns2_5, b_ns2_6, b_ns2_7, b_ns2_8, b_ns2_9, b_ns2_10, b_ns2_11]
      rw [← e, hs]
    · unfold gd_rel
      simp +decide only [b_res, b_resN, b_nm0, b_nm1, b_nm2, b_ns0, b_ns1, b_l0, b_l1, b_l2, b_l3, b_l4, b_l5, b_l6, Bool.true_and, Bool.and_true, cond_true, b01_0, b01_1, i10, true_and, and_true, true_or, or_true, u_rd, u_2, u_at, reduceIte, eq_self, not_true_eq_false, not_false_eq_true, false_imp_iff, true_imp_iff, forall_const, b_nm3_0, b_nm3_1, b_nm3_2, b_nm3_3, b_nm3_4, b_nm3_5, b_nm3_6, b_nm3_7, b_nm3_8, b_nm3_9, b_nm3_10, b_nm3_11, b_nm3_100, b_nm3_101, b_nm3_102, b_nm3_200, b_nm3_201, b_nm3_202, b_nm3_203, b_nm3_204, b_nm3_205, b_nm3_206, b_nm3_207, b_nm3_208, b_ns2_0, b_ns2_1, b_ns2_2, b_ns2_3, b_ns2_4, b_ns2_5, b_ns2_6, b_ns2_7, b_ns2_8, b_ns2_9, b_ns2_10, b_ns2_11]
      refine ⟨hT2, hT, hT', L, hL, hl, h1, h2, h3, h4, h5, ⟨fun q hq => ?_, h6.2⟩, h7⟩
      obtain ⟨g1, g2, g3⟩ := h6.1 q hq
      by_cases e2 : q = p.toNatClampNeg
      · subst e2
        simp only [u_at, reduceIte]
        exact ⟨trivial, Or.inr trivial, g3⟩
      · simp only [u_at, if_neg e2]
        exact ⟨g1, g2, g3⟩
