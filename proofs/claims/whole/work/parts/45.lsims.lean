theorem fw_c {cs : List Nat} {fs : List (Nat × Nat)} {c : Nat} (h : c ∉ cs ∧ ∀ q ∈ fs, q.1 ≠ c) (j : Nat) : fw cs fs c j = false := by
  unfold fw
  rw [Bool.or_eq_false_iff, List.any_eq_false, List.any_eq_false]
  refine ⟨fun x hx z => h.1 ?_, fun q hq z => h.2 q hq ?_⟩
  · rw [Nat.eq_of_beq_eq_true z]
    exact hx
  · rw [Bool.and_eq_true] at z
    exact (Nat.eq_of_beq_eq_true z.1).symm
def ls_ctx (T : Nat) (μ : ab_S) (n : Nat) (q : Nat → Nat) : Prop := gd_env T μ ∧ μ.1 4 7 = nI n ∧ n ≤ 150 ∧ (∀ i, i < n → q i < n ∧ μ.1 24 i = nI (q i)) ∧ (∀ e, e < n → ∃ i, i < n ∧ q i = e) ∧ ∀ i k, i < k → k < n → or_lt (μ.1 19) (q i) (q k)
theorem ctx_of {T : Nat} {μ : ab_S} (h : gd_rel T μ) : ∃ n q, ls_ctx T μ n q := by
  have E := env_of h
  obtain ⟨-, -, n, hn2, hn, -, -, q, a1, a2, a3⟩ := id E
  exact ⟨n, q, E, hn, hn2, a1, a2, a3⟩
theorem ctx_fr {T n : Nat} {μ μ1 : ab_S} {q : Nat → Nat} {cs : List Nat} {fs : List (Nat × Nat)} (C : ls_ctx T μ n q) (f : ab_fr (fw cs fs) μ μ1) (hc : ∀ c ∈ [15, 16, 17, 18, 19, 20, 21, 22, 23, 24, 52, 53, 54, 55, 56, 57, 58, 59, 60], c ∉ cs ∧ ∀ q ∈ fs, q.1 ≠ c) (h1 : fw cs fs 3 3 = false) (h2 : fw cs fs 4 7 = false) (h3 : fw cs fs 11 3 = false) (h4 : fw cs fs 11 7 = false) : ls_ctx T μ1 n q ∧ ∀ m known, gd_lst μ1 m known q n = gd_lst μ m known q n ∧ ls_lst q (ls_PP μ1 m known) n = ls_lst q (ls_PP μ m known) n ∧ ∀ w, gd_law μ1 m known w = gd_law μ m known w := by
  have r : ∀ c ∈ [15, 16, 17, 18, 19, 20, 21, 22, 23, 24, 52, 53, 54, 55, 56, 57, 58, 59, 60], μ1.1 c = μ.1 c := fun c h => fr_c f c (fw_c (hc c h))
  have k1 := f.2 _ _ h1
  have k2 := f.2 _ _ h2
  have k3 := f.2 _ _ h3
  have k4 := f.2 _ _ h4
  obtain ⟨⟨⟨L, hL, hl⟩, e1, e2⟩, hn, hn2, a1, a2, a3⟩ := C
  have r15 := r 15 (by decide)
  have r16 := r 16 (by decide)
  have r17 := r 17 (by decide)
  have r18 := r 18 (by decide)
  have r19 := r 19 (by decide)
  have r20 := r 20 (by decide)
  have r21 := r 21 (by decide)
  have r22 := r 22 (by decide)
  have r23 := r 23 (by decide)
  have r24 := r 24 (by decide)
  refine ⟨⟨⟨⟨L, hL, f.1.trans hl⟩, ?_, ?_⟩, k2.trans hn, hn2, ?_, a2, ?_⟩, fun m known => ⟨?_, ?_, fun w => ?_⟩⟩
  · rw [k1, r15, r16, r17, k3, r 52 (by decide), r 53 (by decide), r 54 (by decide)]
    exact e1
  · rw [k2, r18, r19, r20, r21, r22, r23, r24, k4, r 55 (by decide), r 56 (by decide), r 57 (by decide), r 58 (by decide), r 59 (by decide), r 60 (by decide)]
    exact e2
  · rw [r24]
    exact a1
  · rw [r19]
    exact a3
  · unfold gd_lst gd_st gd_law ls_PP
    rw [r15, r16, r17, r18, r19, r20, r21, r22, r23, k1]
  · unfold ls_PP
    rw [r19, r23]
  · unfold gd_law
    rw [r15, r16, r17, k1]
theorem rel_ls {T : Nat} {μ ν : ab_S} (h : gd_rel T μ) (fz : ab_fr (fw [25, 26, 27, 28, 29, 82, 83, 84, 85, 86] [(5, 7), (5, 8), (11, 49)]) μ ν) : gd_rel T ν := by
  obtain ⟨hT2, hT, hT', L, hL, hl, h1, h2, h3, h4, h5, h6, h7⟩ := h
  exact ⟨hT2, (fz.2 0 10 rfl).trans hT, (fz.2 11 0 rfl).trans hT', L, hL, fz.1.trans hl, (by rw [fz.2 1 1 rfl, fr_c fz 12 (fun _ => rfl), fz.2 11 2 rfl, fr_c fz 51 (fun _ => rfl)]; exact h1), (by rw [fz.2 3 3 rfl, fr_c fz 15 (fun _ => rfl), fr_c fz 16 (fun _ => rfl), fr_c fz 17 (fun _ => rfl), fz.2 11 3 rfl, fr_c fz 52 (fun _ => rfl), fr_c fz 53 (fun _ => rfl), fr_c fz 54 (fun _ => rfl)]; exact h2), (by rw [fz.2 4 7 rfl, fr_c fz 18 (fun _ => rfl), fr_c fz 19 (fun _ => rfl), fr_c fz 20 (fun _ => rfl), fr_c fz 21 (fun _ => rfl), fr_c fz 22 (fun _ => rfl), fr_c fz 23 (fun _ => rfl), fr_c fz 24 (fun _ => rfl), fz.2 11 7 rfl, fr_c fz 55 (fun _ => rfl), fr_c fz 56 (fun _ => rfl), fr_c fz 57 (fun _ => rfl), fr_c fz 58 (fun _ => rfl), fr_c fz 59 (fun _ => rfl), fr_c fz 60 (fun _ => rfl)]; exact h3), (by rw [fz.2 6 2 rfl, fr_c fz 30 (fun _ => rfl), fr_c fz 31 (fun _ => rfl), fz.2 11 14 rfl, fr_c fz 61 (fun _ => rfl), fr_c fz 62 (fun _ => rfl)]; exact h4), (by rw [fz.2 7 9 rfl, fr_c fz 32 (fun _ => rfl), fr_c fz 33 (fun _ => rfl), fr_c fz 34 (fun _ => rfl), fr_c fz 35 (fun _ => rfl), fr_c fz 36 (fun _ => rfl), fr_c fz 37 (fun _ => rfl), fr_c fz 38 (fun _ => rfl), fr_c fz 39 (fun _ => rfl), fr_c fz 40 (fun _ => rfl), fz.2 11 18 rfl, fr_c fz 63 (fun _ => rfl), fr_c fz 64 (fun _ => rfl), fr_c fz 65 (fun _ => rfl), fr_c fz 66 (fun _ => rfl), fr_c fz 67 (fun _ => rfl), fr_c fz 68 (fun _ => rfl), fr_c fz 69 (fun _ => rfl), fr_c fz 70 (fun _ => rfl)]; exact h5), (by rw [fr_c fz 41 (fun _ => rfl), fr_c fz 42 (fun _ => rfl), fr_c fz 43 (fun _ => rfl), fr_c fz 71 (fun _ => rfl), fr_c fz 72 (fun _ => rfl), fr_c fz 73 (fun _ => rfl)]; exact h6), (by rw [fz.2 7 9 rfl, fr_c fz 38 (fun _ => rfl), fz.2 9 6 rfl, fr_c fz 44 (fun _ => rfl), fr_c fz 45 (fun _ => rfl), fr_c fz 46 (fun _ => rfl), fr_c fz 47 (fun _ => rfl), fr_c fz 48 (fun _ => rfl), fr_c fz 49 (fun _ => rfl), fz.2 11 32 rfl, fr_c fz 74 (fun _ => rfl), fr_c fz 75 (fun _ => rfl), fr_c fz 76 (fun _ => rfl), fr_c fz 77 (fun _ => rfl), fr_c fz 78 (fun _ => rfl), fr_c fz 79 (fun _ => rfl), fr_c fz 80 (fun _ => rfl)]; exact h7)⟩
-- holder
def x_hold (p m k : Int32) : Prop := p.toInt < 0 ∨ 29 < p.toInt ∨ m.toInt < 0 ∨ 119 < m.toInt ∨ k.toInt < 0 ∨ 119 < k.toInt
theorem c_holder {T n : Nat} {μ : ab_S} {q : Nat → Nat} {p m k : Int32} {b : ab_B} {Q : ab_Q} (C : ls_ctx T μ n q) (hbad : x_hold p m k → Q (some (-1)) μ) (hok : ¬ x_hold p m k → ∀ μ', ab_fr w_st μ μ' → Q (some ((gd_lst μ m k q n).1.1 p.toNatClampNeg)) μ') : gd_run 99 0 [some (.inr 0), some (.inl p), some (.inl m), some (.inl k)] [] μ b Q := by
  by_cases hx : x_hold p m k
  · have hbad := hbad hx
    unfold x_hold at hx
    simp +decide only [s_99_0, s_99_1, s_99_4, s_99_7, s_99_8, s_99_11, s_99_14, s_99_15, s_99_18, s_99_21, s_99_22, s_99_23, s_99_24, s_99_27, s_99_28, s_99_29, s_99_32, s_99_33, s_99_36, s_99_37, s_99_40, s_118_0, s_118_1, s_118_4, s_118_5, s_118_7, s_118_10, s_118_11, s_118_14, s_118_15, s_117_0, s_117_1, s_117_4, s_117_5, s_117_7, s_117_10, s_117_11, s_117_14, s_117_15, b_res, b_resN, b_nm0, b_nm1, b_nm2, b_ns0, b_ns1, b_l0, b_l1, b_l2, b_l3, b_l4, b_l5, b_l6, Bool.true_and, Bool.and_true, cond_true, b01_0, b01_1, i10, true_and, and_true, true_or, or_true, u_rd, u_2, u_at, reduceIte, eq_self, not_true_eq_false, not_false_eq_true, false_imp_iff, true_imp_iff, forall_const, b_nm3_0, b_nm3_1, b_nm3_2, b_nm3_3, b_nm3_4, b_nm3_5, b_nm3_6, b_nm3_7, b_nm3_8, b_nm3_9, b_nm3_10, b_nm3_11, b_nm3_100, b_nm3_101, b_nm3_102, b_nm3_200, b_nm3_201, b_nm3_202, b_nm3_203, b_nm3_204, b_nm3_205, b_nm3_206, b_nm3_207, b_nm3_208, b_ns2_0, b_ns2_1, b_ns2_2, b_ns2_3, b_ns2_4, b_ns2_5, b_ns2_6, b_ns2_7, b_ns2_8, b_ns2_9, b_ns2_10, b_ns2_11, b_ns2_12, b_ns2_13, b_ns2_14, b_ns2_15, b_ns2_16, b_ns2_17, b_ns2_18, b_ns2_19, b_ns2_20, b_ns2_21, b_ns2_22, b_ns2_23, b_ns2_24, b_ns2_25, b_ns2_26, b_ns2_27, b_ns2_28, b_ns2_29, b_ns2_30, b_ns2_31, b_ns2_32, b_ns2_33, b_ns2_34, b_ns2_35, b_ns2_36, b_ns2_37, b_ns2_38, b_ns2_39, b_ns2_40, b_ns2_41, b_ns2_42, b_ns2_43, b_ns2_44, b_ns2_45, b_ns2_50, b_ns2_51, b_ns2_52, b_ns2_53, b_ns2_54, b_ns2_55, b_ns2_56, b_ns2_57, b_ns2_58, b_ns2_59, b_ns2_60, b_ns2_61, b_ns2_62, b_ns2_63, b_ns2_64, b_ns2_65, b_ns2_66, b_ns2_67, b_ns2_68, b_ns2_69, b_ns2_70, b_ns2_71, b_ns2_72, b_ns2_73, b_ns2_74, b_ns2_75, b_ns2_76, b_ns2_77, b_ns2_78, b_ns2_79, b_ns2_80, b_ns2_81, b_ns2_82, b_ns2_83, b_ns2_84, b_ns2_85, b_ns2_86, b_ns2_87, b_ns2_88]
    simp only [i_lt, i_le, kI_m2, kI_m1, kI_0, kI_1, kI_2, kI_3, kI_4, kI_5, kI_6, kI_7, kI_8, kI_9, kI_10, kI_11, kI_12, kI_13, kI_14, kI_15, kI_16, kI_19, kI_20, kI_24, kI_29, kI_30, kI_31, kI_32, kI_48, kI_50, kI_57, kI_58, kI_59, kI_60, kI_97, kI_99, kI_100, kI_119, kI_120, kI_122, kI_149, kI_150, kI_199, kI_200, kI_255, kI_1000, kI_3000, kI_3700, kI_5000]
    repeat' first | exact hbad | (exfalso; omega) | apply And.intro | intro _
  · have hok := hok hx
    unfold x_hold at hx
    obtain ⟨⟨⟨L, hL, hl⟩, -⟩, -⟩ := id C
    have g1 : (p < 0) = False := eq_false (by rw [i_lt, kI_0]; omega)
    have g2 : ((30 : Int32) ≤ p) = False := eq_false (by rw [i_le, kI_30]; omega)
    have g3 : (m < 0) = False := eq_false (by rw [i_lt, kI_0]; omega)
    have g4 : ((120 : Int32) ≤ m) = False := eq_false (by rw [i_le, kI_120]; omega)
    have g5 : (k < 0) = False := eq_false (by rw [i_lt, kI_0]; omega)
    have g6 : ((120 : Int32) ≤ k) = False := eq_false (by rw [i_le, kI_120]; omega)
    simp +decide only [s_99_0, s_99_1, s_99_4, s_99_7, s_99_8, s_99_11, s_99_14, s_99_15, s_99_18, s_99_21, s_99_22, s_99_23, s_99_24, s_99_27, s_99_28, s_99_29, s_99_32, s_99_33, s_99_36, s_99_37, s_99_40, s_118_0, s_118_1, s_118_4, s_118_5, s_118_7, s_118_10, s_118_11, s_118_14, s_118_15, s_117_0, s_117_1, s_117_4, s_117_5, s_117_7, s_117_10, s_117_11, s_117_14, s_117_15, b_res, b_resN, b_nm0, b_nm1, b_nm2, b_ns0, b_ns1, b_l0, b_l1, b_l2, b_l3, b_l4, b_l5, b_l6, Bool.true_and, Bool.and_true, cond_true, b01_0, b01_1, i10, true_and, and_true, true_or, or_true, u_rd, u_2, u_at, reduceIte, eq_self, not_true_eq_false, not_false_eq_true, false_imp_iff, true_imp_iff, forall_const, b_nm3_0, b_nm3_1, b_nm3_2, b_nm3_3, b_nm3_4, b_nm3_5, b_nm3_6, b_nm3_7, b_nm3_8, b_nm3_9, b_nm3_10, b_nm3_11, b_nm3_100, b_nm3_101, b_nm3_102, b_nm3_200, b_nm3_201, b_nm3_202, b_nm3_203, b_nm3_204, b_nm3_205, b_nm3_206, b_nm3_207, b_nm3_208, b_ns2_0, b_ns2_1, b_ns2_2, b_ns2_3, b_ns2_4, b_ns2_5, b_ns2_6, b_ns2_7, b_ns2_8, b_ns2_9, b_ns2_10, b_ns2_11, b_ns2_12, b_ns2_13, b_ns2_14, b_ns2_15, b_ns2_16, b_ns2_17, b_ns2_18, b_ns2_19, b_ns2_20, b_ns2_21, b_ns2_22, b_ns2_23, b_ns2_24, b_ns2_25, b_ns2_26, b_ns2_27, b_ns2_28, b_ns2_29, b_ns2_30, b_ns2_31, b_ns2_32, b_ns2_33, b_ns2_34, b_ns2_35, b_ns2_36, b_ns2_37, b_ns2_38, b_ns2_39, b_ns2_40, b_ns2_41, b_ns2_42, b_ns2_43, b_ns2_44, b_ns2_45, b_ns2_50, b_ns2_51, b_ns2_52, b_ns2_53, b_ns2_54, b_ns2_55, b_ns2_56, b_ns2_57, b_ns2_58, b_ns2_59, b_ns2_60, b_ns2_61, b_ns2_62, b_ns2_63, b_ns2_64, b_ns2_65, b_ns2_66, b_ns2_67, b_ns2_68, b_ns2_69, b_ns2_70, b_ns2_71, b_ns2_72, b_ns2_73, b_ns2_74, b_ns2_75, b_ns2_76, b_ns2_77, b_ns2_78, b_ns2_79, b_ns2_80, b_ns2_81, b_ns2_82, b_ns2_83, b_ns2_84, b_ns2_85, b_ns2_86, b_ns2_87, b_ns2_88, g1, g2, g3, g4, g5, g6]
    refine c_draw C.1 C.2.1 C.2.2.1 C.2.2.2.1 C.2.2.2.2.2 (fun μ1 f1 s1 v1 => ?_)
    have l25 : μ1.2 25 = 30 := by rw [f1.1, hl]; rfl
    have g7 : vp_in p 30 = True := eq_true (v_in (by omega) (by omega))
    have g8 := s1.1 p.toNatClampNeg (by show p.toInt.toNat < 30; omega)
    simp +decide only [s_99_0, s_99_1, s_99_4, s_99_7, s_99_8, s_99_11, s_99_14, s_99_15, s_99_18, s_99_21, s_99_22, s_99_23, s_99_24, s_99_27, s_99_28, s_99_29, s_99_32, s_99_33, s_99_36, s_99_37, s_99_40, s_59_0, s_59_1, s_59_4, s_59_7, s_59_8, s_59_11, s_59_12, s_59_13, s_59_16, s_59_17, s_118_0, s_118_1, s_118_4, s_118_5, s_118_7, s_118_10, s_118_11, s_118_14, s_118_15, b_res, b_resN, b_nm0, b_nm1, b_nm2, b_ns0, b_ns1, b_l0, b_l1, b_l2, b_l3, b_l4, b_l5, b_l6, Bool.true_and, Bool.and_true, cond_true, b01_0, b01_1, i10, true_and, and_true, true_or, or_true, u_rd, u_2, u_at, reduceIte, eq_self, not_true_eq_false, not_false_eq_true, false_imp_iff, true_imp_iff, forall_const, b_nm3_0, b_nm3_1, b_nm3_2, b_nm3_3, b_nm3_4, b_nm3_5, b_nm3_6, b_nm3_7, b_nm3_8, b_nm3_9, b_nm3_10, b_nm3_11, b_nm3_100, b_nm3_101, b_nm3_102, b_nm3_200, b_nm3_201, b_nm3_202, b_nm3_203, b_nm3_204, b_nm3_205, b_nm3_206, b_nm3_207, b_nm3_208, b_ns2_0, b_ns2_1, b_ns2_2, b_ns2_3, b_ns2_4, b_ns2_5, b_ns2_6, b_ns2_7, b_ns2_8, b_ns2_9, b_ns2_10, b_ns2_11, b_ns2_12, b_ns2_13, b_ns2_14, b_ns2_15, b_ns2_16, b_ns2_17, b_ns2_18, b_ns2_19, b_ns2_20, b_ns2_21, b_ns2_22, b_ns2_23, b_ns2_24, b_ns2_25, b_ns2_26, b_ns2_27, b_ns2_28, b_ns2_29, b_ns2_30, b_ns2_31, b_ns2_32, b_ns2_33, b_ns2_34, b_ns2_35, b_ns2_36, b_ns2_37, b_ns2_38, b_ns2_39, b_ns2_40, b_ns2_41, b_ns2_42, b_ns2_43, b_ns2_44, b_ns2_45, b_ns2_50, b_ns2_51, b_ns2_52, b_ns2_53, b_ns2_54, b_ns2_55, b_ns2_56, b_ns2_57, b_ns2_58, b_ns2_59, b_ns2_60, b_ns2_61, b_ns2_62, b_ns2_63, b_ns2_64, b_ns2_65, b_ns2_66, b_ns2_67, b_ns2_68, b_ns2_69, b_ns2_70, b_ns2_71, b_ns2_72, b_ns2_73, b_ns2_74, b_ns2_75, b_ns2_76, b_ns2_77, b_ns2_78, b_ns2_79, b_ns2_80, b_ns2_81, b_ns2_82, b_ns2_83, b_ns2_84, b_ns2_85, b_ns2_86, b_ns2_87, b_ns2_88, g1, g2, l25, g7, g8]
    exact hok μ1 f1
theorem m_holder {T n : Nat} {μ : ab_S} {q : Nat → Nat} {p m k : Int32} {b : ab_B} {Q : ab_Q} (C : ls_ctx T μ n q) (hbad : x_hold p m k → Q (some (-1)) μ) (hok : ¬ x_hold p m k → ∀ μ', ab_fr w_ml μ μ' → M_st (μ'.1 82) (μ'.1 83) (μ'.1 84) (gd_lst μ m k q n).1 → Q (some ((gd_lst μ m k q n).1.1 p.toNatClampNeg)) μ') : gd_run 148 0 [some (.inr 11), some (.inl p), some (.inl m), some (.inl k)] [] μ b Q := by
  by_cases hx : x_hold p m k
  · have hbad := hbad hx
    unfold x_hold at hx
    simp +decide only [s_148_0, s_148_1, s_148_2, s_148_4, s_148_7, s_148_10, s_148_11, s_148_14, s_148_17, s_148_18, s_148_21, s_148_24, s_148_25, s_148_26, s_148_27, s_148_28, s_148_29, s_148_32, s_148_33, s_148_36, s_148_37, s_148_38, s_124_0, s_124_1, s_124_2, s_124_5, s_124_6, s_124_7, s_124_10, s_124_11, s_124_14, s_124_15, s_140_0, s_140_1, s_140_2, s_140_4, s_140_7, b_res, b_resN, b_nm0, b_nm1, b_nm2, b_ns0, b_ns1, b_l0, b_l1, b_l2, b_l3, b_l4, b_l5, b_l6, Bool.true_and, Bool.and_true, cond_true, b01_0, b01_1, i10, true_and, and_true, true_or, or_true, u_rd, u_2, u_at, reduceIte, eq_self, not_true_eq_false, not_false_eq_true, false_imp_iff, true_imp_iff, forall_const, b_nm3_0, b_nm3_1, b_nm3_2, b_nm3_3, b_nm3_4, b_nm3_5, b_nm3_6, b_nm3_7, b_nm3_8, b_nm3_9, b_nm3_10, b_nm3_11, b_nm3_100, b_nm3_101, b_nm3_102, b_nm3_200, b_nm3_201, b_nm3_202, b_nm3_203, b_nm3_204, b_nm3_205, b_nm3_206, b_nm3_207, b_nm3_208, b_ns2_0, b_ns2_1, b_ns2_2, b_ns2_3, b_ns2_4, b_ns2_5, b_ns2_6, b_ns2_7, b_ns2_8, b_ns2_9, b_ns2_10, b_ns2_11, b_ns2_12, b_ns2_13, b_ns2_14, b_ns2_15, b_ns2_16, b_ns2_17, b_ns2_18, b_ns2_19, b_ns2_20, b_ns2_21, b_ns2_22, b_ns2_23, b_ns2_24, b_ns2_25, b_ns2_26, b_ns2_27, b_ns2_28, b_ns2_29, b_ns2_30, b_ns2_31, b_ns2_32, b_ns2_33, b_ns2_34, b_ns2_35, b_ns2_36, b_ns2_37, b_ns2_38, b_ns2_39, b_ns2_40, b_ns2_41, b_ns2_42, b_ns2_43, b_ns2_44, b_ns2_45, b_ns2_50, b_ns2_51, b_ns2_52, b_ns2_53, b_ns2_54, b_ns2_55, b_ns2_56, b_ns2_57, b_ns2_58, b_ns2_59, b_ns2_60, b_ns2_61, b_ns2_62, b_ns2_63, b_ns2_64, b_ns2_65, b_ns2_66, b_ns2_67, b_ns2_68, b_ns2_69, b_ns2_70, b_ns2_71, b_ns2_72, b_ns2_73, b_ns2_74, b_ns2_75, b_ns2_76, b_ns2_77, b_ns2_78, b_ns2_79, b_ns2_80, b_ns2_81, b_ns2_82, b_ns2_83, b_ns2_84, b_ns2_85, b_ns2_86, b_ns2_87, b_ns2_88]
    simp only [i_lt, i_le, kI_m2, kI_m1, kI_0, kI_1, kI_2, kI_3, kI_4, kI_5, kI_6, kI_7, kI_8, kI_9, kI_10, kI_11, kI_12, kI_13, kI_14, kI_15, kI_16, kI_19, kI_20, kI_24, kI_29, kI_30, kI_31, kI_32, kI_48, kI_50, kI_57, kI_58, kI_59, kI_60, kI_97, kI_99, kI_100, kI_119, kI_120, kI_122, kI_149, kI_150, kI_199, kI_200, kI_255, kI_1000, kI_3000, kI_3700, kI_5000]
    repeat' first | exact hbad | (exfalso; omega) | apply And.intro | intro _
  · have hok := hok hx
    unfold x_hold at hx
    obtain ⟨⟨⟨L, hL, hl⟩, -⟩, -⟩ := id C
    have g1 : (p < 0) = False := eq_false (by rw [i_lt, kI_0]; omega)
    have g2 : ((29 : Int32) < p) = False := eq_false (by rw [i_lt, kI_29]; omega)
    have g3 : (m < 0) = False := eq_false (by rw [i_lt, kI_0]; omega)
    have g4 : ((119 : Int32) < m) = False := eq_false (by rw [i_lt, kI_119]; omega)
    have g5 : (k < 0) = False := eq_false (by rw [i_lt, kI_0]; omega)
    have g6 : ((119 : Int32) < k) = False := eq_false (by rw [i_lt, kI_119]; omega)
    simp +decide only [s_148_0, s_148_1, s_148_2, s_148_4, s_148_7, s_148_10, s_148_11, s_148_14, s_148_17, s_148_18, s_148_21, s_148_24, s_148_25, s_148_26, s_148_27, s_148_28, s_148_29, s_148_32, s_148_33, s_148_36, s_148_37, s_148_38, s_124_0, s_124_1, s_124_2, s_124_5, s_124_6, s_124_7, s_124_10, s_124_11, s_124_14, s_124_15, s_140_0, s_140_1, s_140_2, s_140_4, s_140_7, b_res, b_resN, b_nm0, b_nm1, b_nm2, b_ns0, b_ns1, b_l0, b_l1, b_l2, b_l3, b_l4, b_l5, b_l6, Bool.true_and, Bool.and_true, cond_true, b01_0, b01_1, i10, true_and, and_true, true_or, or_true, u_rd, u_2, u_at, reduceIte, eq_self, not_true_eq_false, not_false_eq_true, false_imp_iff, true_imp_iff, forall_const, b_nm3_0, b_nm3_1, b_nm3_2, b_nm3_3, b_nm3_4, b_nm3_5, b_nm3_6, b_nm3_7, b_nm3_8, b_nm3_9, b_nm3_10, b_nm3_11, b_nm3_100, b_nm3_101, b_nm3_102, b_nm3_200, b_nm3_201, b_nm3_202, b_nm3_203, b_nm3_204, b_nm3_205, b_nm3_206, b_nm3_207, b_nm3_208, b_ns2_0, b_ns2_1, b_ns2_2, b_ns2_3, b_ns2_4, b_ns2_5, b_ns2_6, b_ns2_7, b_ns2_8, b_ns2_9, b_ns2_10, b_ns2_11, b_ns2_12, b_ns2_13, b_ns2_14, b_ns2_15, b_ns2_16, b_ns2_17, b_ns2_18, b_ns2_19, b_ns2_20, b_ns2_21, b_ns2_22, b_ns2_23, b_ns2_24, b_ns2_25, b_ns2_26, b_ns2_27, b_ns2_28, b_ns2_29, b_ns2_30, b_ns2_31, b_ns2_32, b_ns2_33, b_ns2_34, b_ns2_35, b_ns2_36, b_ns2_37, b_ns2_38, b_ns2_39, b_ns2_40, b_ns2_41, b_ns2_42, b_ns2_43, b_ns2_44, b_ns2_45, b_ns2_50, b_ns2_51, b_ns2_52, b_ns2_53, b_ns2_54, b_ns2_55, b_ns2_56, b_ns2_57, b_ns2_58, b_ns2_59, b_ns2_60, b_ns2_61, b_ns2_62, b_ns2_63, b_ns2_64, b_ns2_65, b_ns2_66, b_ns2_67, b_ns2_68, b_ns2_69, b_ns2_70, b_ns2_71, b_ns2_72, b_ns2_73, b_ns2_74, b_ns2_75, b_ns2_76, b_ns2_77, b_ns2_78, b_ns2_79, b_ns2_80, b_ns2_81, b_ns2_82, b_ns2_83, b_ns2_84, b_ns2_85, b_ns2_86, b_ns2_87, b_ns2_88, g1, g2, g3, g4, g5, g6]
    refine m_list C.1 C.2.1 C.2.2.1 C.2.2.2.1 C.2.2.2.2.1 C.2.2.2.2.2 (fun μ1 f1 s1 v1 => ?_)
    have l82 : μ1.2 82 = 30 := by rw [f1.1, hl]; rfl
    have g7 : vp_in p 30 = True := eq_true (v_in (by omega) (by omega))
    have g8 := s1.1 p.toNatClampNeg (by show p.toInt.toNat < 30; omega)
    simp +decide only [s_148_0, s_148_1, s_148_2, s_148_4, s_148_7, s_148_10, s_148_11, s_148_14, s_148_17, s_148_18, s_148_21, s_148_24, s_148_25, s_148_26, s_148_27, s_148_28, s_148_29, s_148_32, s_148_33, s_148_36, s_148_37, s_148_38, b_res, b_resN, b_nm0, b_nm1, b_nm2, b_ns0, b_ns1, b_l0, b_l1, b_l2, b_l3, b_l4, b_l5, b_l6, Bool.true_and, Bool.and_true, cond_true, b01_0, b01_1, i10, true_and, and_true, true_or, or_true, u_rd, u_2, u_at, reduceIte, eq_self, not_true_eq_false, not_false_eq_true, false_imp_iff, true_imp_iff, forall_const, b_nm3_0, b_nm3_1, b_nm3_2, b_nm3_3, b_nm3_4, b_nm3_5, b_nm3_6, b_nm3_7, b_nm3_8, b_nm3_9, b_nm3_10, b_nm3_11, b_nm3_100, b_nm3_101, b_nm3_102, b_nm3_200, b_nm3_201, b_nm3_202, b_nm3_203, b_nm3_204, b_nm3_205, b_nm3_206, b_nm3_207, b_nm3_208, b_ns2_0, b_ns2_1, b_ns2_2, b_ns2_3, b_ns2_4, b_ns2_5, b_ns2_6, b_ns2_7, b_ns2_8, b_ns2_9, b_ns2_10, b_ns2_11, b_ns2_12, b_ns2_13, b_ns2_14, b_ns2_15, b_ns2_16, b_ns2_17, b_ns2_18, b_ns2_19, b_ns2_20, b_ns2_21, b_ns2_22, b_ns2_23, b_ns2_24, b_ns2_25, b_ns2_26, b_ns2_27, b_ns2_28, b_ns2_29, b_ns2_30, b_ns2_31, b_ns2_32, b_ns2_33, b_ns2_34, b_ns2_35, b_ns2_36, b_ns2_37, b_ns2_38, b_ns2_39, b_ns2_40, b_ns2_41, b_ns2_42, b_ns2_43, b_ns2_44, b_ns2_45, b_ns2_50, b_ns2_51, b_ns2_52, b_ns2_53, b_ns2_54, b_ns2_55, b_ns2_56, b_ns2_57, b_ns2_58, b_ns2_59, b_ns2_60, b_ns2_61, b_ns2_62, b_ns2_63, b_ns2_64, b_ns2_65, b_ns2_66, b_ns2_67, b_ns2_68, b_ns2_69, b_ns2_70, b_ns2_71, b_ns2_72, b_ns2_73, b_ns2_74, b_ns2_75, b_ns2_76, b_ns2_77, b_ns2_78, b_ns2_79, b_ns2_80, b_ns2_81, b_ns2_82, b_ns2_83, b_ns2_84, b_ns2_85, b_ns2_86, b_ns2_87, b_ns2_88, l82, g7, g8]
    exact hok μ1 f1 s1
theorem sim_holder {T : Nat} {μ : ab_S} (p m k : Int32) (h : gd_rel T μ) : lw_sim1 gd_rel 99 148 T (0, 0) [p, m, k] μ := by
  obtain ⟨n, q, C⟩ := ctx_of h
  show gd_run 99 0 [some (.inr 0), some (.inl p), some (.inl m), some (.inl k)] [] μ (0, 0) _
  refine c_holder C (fun hx => ⟨_, rfl, ?_⟩) (fun hx μ1 f1 => ⟨_, rfl, ?_⟩)
  · exact m_holder C (fun _ => ⟨rfl, h⟩) (fun z => absurd hx z)
  · obtain ⟨C1, e1⟩ := ctx_fr C f1 (by decide) rfl rfl rfl rfl
    refine m_holder C1 (fun z => absurd z hx) (fun _ μ2 f2 s2 => ⟨?_, ?_⟩)
    · rw [(e1 m k).1]
    · exact rel_ls h (fr_tr (fr_sub f1 (by decide) (by decide)) (fr_sub f2 (by decide) (by decide)))
-- rank
theorem sim_rank {T : Nat} {μ : ab_S} (p m k : Int32) (h : gd_rel T μ) : lw_sim1 gd_rel 100 149 T (0, 0) [p, m, k] μ := by
  obtain ⟨n, q, C⟩ := ctx_of h
  obtain ⟨y1, y2⟩ := q_neg
  have hc : ∀ (Q : ab_Q) (b : ab_B), (x_hold p m k → Q (some (-1)) μ) → (¬ x_hold p m k → ∀ μ', ab_fr w_st μ μ' → Q (some (if (gd_lst μ m k q n).1.1 p.toNatClampNeg = -1 then -1 else (gd_lst μ m k q n).1.2.1 p.toNatClampNeg)) μ') → gd_run 100 0 [some (.inr 0), some (.inl p), some (.inl m), some (.inl k)] [] μ b Q := by
    intro Q b hbad hok
    by_cases hx : x_hold p m k
    · have hbad := hbad hx
      unfold x_hold at hx
      simp +decide only [s_100_0, s_100_1, s_100_4, s_100_7, s_100_8, s_100_11, s_100_14, s_100_15, s_100_18, s_100_21, s_100_22, s_100_23, s_100_24, s_100_27, s_100_28, s_100_29, s_100_32, s_100_33, s_100_36, s_100_37, s_100_40, s_118_0, s_118_1, s_118_4, s_118_5, s_118_7, s_118_10, s_118_11, s_118_14, s_118_15, s_117_0, s_117_1, s_117_4, s_117_5, s_117_7, s_117_10, s_117_11, s_117_14, s_117_15, b_res, b_resN, b_nm0, b_nm1, b_nm2, b_ns0, b_ns1, b_l0, b_l1, b_l2, b_l3, b_l4, b_l5, b_l6, Bool.true_and, Bool.and_true, cond_true, b01_0, b01_1, i10, true_and, and_true, true_or, or_true, u_rd, u_2, u_at, reduceIte, eq_self, not_true_eq_false, not_false_eq_true, false_imp_iff, true_imp_iff, forall_const, b_nm3_0, b_nm3_1, b_nm3_2, b_nm3_3, b_nm3_4, b_nm3_5, b_nm3_6, b_nm3_7, b_nm3_8, b_nm3_9, b_nm3_10, b_nm3_11, b_nm3_100, b_nm3_101, b_nm3_102, b_nm3_200, b_nm3_201, b_nm3_202, b_nm3_203, b_nm3_204, b_nm3_205, b_nm3_206, b_nm3_207, b_nm3_208, b_ns2_0, b_ns2_1, b_ns2_2, b_ns2_3, b_ns2_4, b_ns2_5, b_ns2_6, b_ns2_7, b_ns2_8, b_ns2_9, b_ns2_10, b_ns2_11, b_ns2_12, b_ns2_13, b_ns2_14, b_ns2_15, b_ns2_16, b_ns2_17, b_ns2_18, b_ns2_19, b_ns2_20, b_ns2_21, b_ns2_22, b_ns2_23, b_ns2_24, b_ns2_25, b_ns2_26, b_ns2_27, b_ns2_28, b_ns2_29, b_ns2_30, b_ns2_31, b_ns2_32, b_ns2_33, b_ns2_34, b_ns2_35, b_ns2_36, b_ns2_37, b_ns2_38, b_ns2_39, b_ns2_40, b_ns2_41, b_ns2_42, b_ns2_43, b_ns2_44, b_ns2_45, b_ns2_50, b_ns2_51, b_ns2_52, b_ns2_53, b_ns2_54, b_ns2_55, b_ns2_56, b_ns2_57, b_ns2_58, b_ns2_59, b_ns2_60, b_ns2_61, b_ns2_62, b_ns2_63, b_ns2_64, b_ns2_65, b_ns2_66, b_ns2_67, b_ns2_68, b_ns2_69, b_ns2_70, b_ns2_71, b_ns2_72, b_ns2_73, b_ns2_74, b_ns2_75, b_ns2_76, b_ns2_77, b_ns2_78, b_ns2_79, b_ns2_80, b_ns2_81, b_ns2_82, b_ns2_83, b_ns2_84, b_ns2_85, b_ns2_86, b_ns2_87, b_ns2_88]
      simp only [i_lt, i_le, kI_m2, kI_m1, kI_0, kI_1, kI_2, kI_3, kI_4, kI_5, kI_6, kI_7, kI_8, kI_9, kI_10, kI_11, kI_12, kI_13, kI_14, kI_15, kI_16, kI_19, kI_20, kI_24, kI_29, kI_30, kI_31, kI_32, kI_48, kI_50, kI_57, kI_58, kI_59, kI_60, kI_97, kI_99, kI_100, kI_119, kI_120, kI_122, kI_149, kI_150, kI_199, kI_200, kI_255, kI_1000, kI_3000, kI_3700, kI_5000]
      repeat' first | exact hbad | (exfalso; omega) | apply And.intro | intro _
    · have hok := hok hx
      unfold x_hold at hx
      obtain ⟨⟨⟨L, hL, hl⟩, -⟩, -⟩ := id C
      have g1 : (p < 0) = False := eq_false (by rw [i_lt, kI_0]; omega)
      have g2 : ((30 : Int32) ≤ p) = False := eq_false (by rw [i_le, kI_30]; omega)
      have g3 : (m < 0) = False := eq_false (by rw [i_lt, kI_0]; omega)
      have g4 : ((120 : Int32) ≤ m) = False := eq_false (by rw [i_le, kI_120]; omega)
      have g5 : (k < 0) = False := eq_false (by rw [i_lt, kI_0]; omega)
      have g6 : ((120 : Int32) ≤ k) = False := eq_false (by rw [i_le, kI_120]; omega)
      simp +decide only [s_100_0, s_100_1, s_100_4, s_100_7, s_100_8, s_100_11, s_100_14, s_100_15, s_100_18, s_100_21, s_100_22, s_100_23, s_100_24, s_100_27, s_100_28, s_100_29, s_100_32, s_100_33, s_100_36, s_100_37, s_100_40, s_118_0, s_118_1, s_118_4, s_118_5, s_118_7, s_118_10, s_118_11, s_118_14, s_118_15, s_117_0, s_117_1, s_117_4, s_117_5, s_117_7, s_117_10, s_117_11, s_117_14, s_117_15, b_res, b_resN, b_nm0, b_nm1, b_nm2, b_ns0, b_ns1, b_l0, b_l1, b_l2, b_l3, b_l4, b_l5, b_l6, Bool.true_and, Bool.and_true, cond_true, b01_0, b01_1, i10, true_and, and_true, true_or, or_true, u_rd, u_2, u_at, reduceIte, eq_self, not_true_eq_false, not_false_eq_true, false_imp_iff, true_imp_iff, forall_const, b_nm3_0, b_nm3_1, b_nm3_2, b_nm3_3, b_nm3_4, b_nm3_5, b_nm3_6, b_nm3_7, b_nm3_8, b_nm3_9, b_nm3_10, b_nm3_11, b_nm3_100, b_nm3_101, b_nm3_102, b_nm3_200, b_nm3_201, b_nm3_202, b_nm3_203, b_nm3_204, b_nm3_205, b_nm3_206, b_nm3_207, b_nm3_208, b_ns2_0, b_ns2_1, b_ns2_2, b_ns2_3, b_ns2_4, b_ns2_5, b_ns2_6, b_ns2_7, b_ns2_8, b_ns2_9, b_ns2_10, b_ns2_11, b_ns2_12, b_ns2_13, b_ns2_14, b_ns2_15, b_ns2_16, b_ns2_17, b_ns2_18, b_ns2_19, b_ns2_20, b_ns2_21, b_ns2_22, b_ns2_23, b_ns2_24, b_ns2_25, b_ns2_26, b_ns2_27, b_ns2_28, b_ns2_29, b_ns2_30, b_ns2_31, b_ns2_32, b_ns2_33, b_ns2_34, b_ns2_35, b_ns2_36, b_ns2_37, b_ns2_38, b_ns2_39, b_ns2_40, b_ns2_41, b_ns2_42, b_ns2_43, b_ns2_44, b_ns2_45, b_ns2_50, b_ns2_51, b_ns2_52, b_ns2_53, b_ns2_54, b_ns2_55, b_ns2_56, b_ns2_57, b_ns2_58, b_ns2_59, b_ns2_60, b_ns2_61, b_ns2_62, b_ns2_63, b_ns2_64, b_ns2_65, b_ns2_66, b_ns2_67, b_ns2_68, b_ns2_69, b_ns2_70, b_ns2_71, b_ns2_72, b_ns2_73, b_ns2_74, b_ns2_75, b_ns2_76, b_ns2_77, b_ns2_78, b_ns2_79, b_ns2_80, b_ns2_81, b_ns2_82, b_ns2_83, b_ns2_84, b_ns2_85, b_ns2_86, b_ns2_87, b_ns2_88, g1, g2, g3, g4, g5, g6]
      refine c_draw C.1 C.2.1 C.2.2.1 C.2.2.2.1 C.2.2.2.2.2 (fun μ1 f1 s1 v1 => ?_)
      have l25 : μ1.2 25 = 30 := by rw [f1.1, hl]; rfl
      have l26 : μ1.2 26 = 30 := by rw [f1.1, hl]; rfl
      have g7 : vp_in p 30 = True := eq_true (v_in (by omega) (by omega))
      have g8 := s1.1 p.toNatClampNeg (by show p.toInt.toNat < 30; omega)
      simp +decide only [s_100_0, s_100_1, s_100_4, s_100_7, s_100_8, s_100_11, s_100_14, s_100_15, s_100_18, s_100_21, s_100_22, s_100_23, s_100_24, s_100_27, s_100_28, s_100_29, s_100_32, s_100_33, s_100_36, s_100_37, s_100_40, s_60_0, s_60_1, s_60_2, s_60_5, s_60_6, s_60_9, s_60_10, s_60_13, s_60_14, s_60_17, s_60_18, s_60_19, s_59_0, s_59_1, s_59_4, s_59_7, s_59_8, s_59_11, s_59_12, s_59_13, s_59_16, s_59_17, s_118_0, s_118_1, s_118_4, s_118_5, s_118_7, s_118_10, s_118_11, s_118_14, s_118_15, b_res, b_resN, b_nm0, b_nm1, b_nm2, b_ns0, b_ns1, b_l0, b_l1, b_l2, b_l3, b_l4, b_l5, b_l6, Bool.true_and, Bool.and_true, cond_true, b01_0, b01_1, i10, true_and, and_true, true_or, or_true, u_rd, u_2, u_at, reduceIte, eq_self, not_true_eq_false, not_false_eq_true, false_imp_iff, true_imp_iff, forall_const, b_nm3_0, b_nm3_1, b_nm3_2, b_nm3_3, b_nm3_4, b_nm3_5, b_nm3_6, b_nm3_7, b_nm3_8, b_nm3_9, b_nm3_10, b_nm3_11, b_nm3_100, b_nm3_101, b_nm3_102, b_nm3_200, b_nm3_201, b_nm3_202, b_nm3_203, b_nm3_204, b_nm3_205, b_nm3_206, b_nm3_207, b_nm3_208, b_ns2_0, b_ns2_1, b_ns2_2, b_ns2_3, b_ns2_4, b_ns2_5, b_ns2_6, b_ns2_7, b_ns2_8, b_ns2_9, b_ns2_10, b_ns2_11, b_ns2_12, b_ns2_13, b_ns2_14, b_ns2_15, b_ns2_16, b_ns2_17, b_ns2_18, b_ns2_19, b_ns2_20, b_ns2_21, b_ns2_22, b_ns2_23, b_ns2_24, b_ns2_25, b_ns2_26, b_ns2_27, b_ns2_28, b_ns2_29, b_ns2_30, b_ns2_31, b_ns2_32, b_ns2_33, b_ns2_34, b_ns2_35, b_ns2_36, b_ns2_37, b_ns2_38, b_ns2_39, b_ns2_40, b_ns2_41, b_ns2_42, b_ns2_43, b_ns2_44, b_ns2_45, b_ns2_50, b_ns2_51, b_ns2_52, b_ns2_53, b_ns2_54, b_ns2_55, b_ns2_56, b_ns2_57, b_ns2_58, b_ns2_59, b_ns2_60, b_ns2_61, b_ns2_62, b_ns2_63, b_ns2_64, b_ns2_65, b_ns2_66, b_ns2_67, b_ns2_68, b_ns2_69, b_ns2_70, b_ns2_71, b_ns2_72, b_ns2_73, b_ns2_74, b_ns2_75, b_ns2_76, b_ns2_77, b_ns2_78, b_ns2_79, b_ns2_80, b_ns2_81, b_ns2_82, b_ns2_83, b_ns2_84, b_ns2_85, b_ns2_86, b_ns2_87, b_ns2_88, g1, g2, l25, l26, g7, g8]
      have hok := hok μ1 f1
      refine ⟨fun z => ?_, fun z => ?_⟩
      · rw [if_pos z] at hok
        exact hok
      · rw [if_neg z] at hok
        rw [s1.2.1 p.toNatClampNeg (by show p.toInt.toNat < 30; omega) z]
        exact hok
  have hm : ∀ (μ : ab_S) (Q : ab_Q) (b : ab_B), ls_ctx T μ n q → (x_hold p m k → Q (some (-1)) μ) → (¬ x_hold p m k → ∀ μ', ab_fr w_ml μ μ' → Q (some (if (gd_lst μ m k q n).1.1 p.toNatClampNeg = -1 then -1 else (gd_lst μ m k q n).1.2.1 p.toNatClampNeg)) μ') → gd_run 149 0 [some (.inr 11), some (.inl p), some (.inl m), some (.inl k)] [] μ b Q := by
    intro μ Q b C hbad hok
    simp +decide only [s_149_0, s_149_1, s_149_2, s_149_3, s_149_4, s_149_7, s_149_10, s_149_11, s_149_14, s_149_15, s_149_18, s_149_19, s_149_20, b_res, b_resN, b_nm0, b_nm1, b_nm2, b_ns0, b_ns1, b_l0, b_l1, b_l2, b_l3, b_l4, b_l5, b_l6, Bool.true_and, Bool.and_true, cond_true, b01_0, b01_1, i10, true_and, and_true, true_or, or_true, u_rd, u_2, u_at, reduceIte, eq_self, not_true_eq_false, not_false_eq_true, false_imp_iff, true_imp_iff, forall_const, b_nm3_0, b_nm3_1, b_nm3_2, b_nm3_3, b_nm3_4, b_nm3_5, b_nm3_6, b_nm3_7, b_nm3_8, b_nm3_9, b_nm3_10, b_nm3_11, b_nm3_100, b_nm3_101, b_nm3_102, b_nm3_200, b_nm3_201, b_nm3_202, b_nm3_203, b_nm3_204, b_nm3_205, b_nm3_206, b_nm3_207, b_nm3_208, b_ns2_0, b_ns2_1, b_ns2_2, b_ns2_3, b_ns2_4, b_ns2_5, b_ns2_6, b_ns2_7, b_ns2_8, b_ns2_9, b_ns2_10, b_ns2_11, b_ns2_12, b_ns2_13, b_ns2_14, b_ns2_15, b_ns2_16, b_ns2_17, b_ns2_18, b_ns2_19, b_ns2_20, b_ns2_21, b_ns2_22, b_ns2_23, b_ns2_24, b_ns2_25, b_ns2_26, b_ns2_27, b_ns2_28, b_ns2_29, b_ns2_30, b_ns2_31, b_ns2_32, b_ns2_33, b_ns2_34, b_ns2_35, b_ns2_36, b_ns2_37, b_ns2_38, b_ns2_39, b_ns2_40, b_ns2_41, b_ns2_42, b_ns2_43, b_ns2_44, b_ns2_45, b_ns2_50, b_ns2_51, b_ns2_52, b_ns2_53, b_ns2_54, b_ns2_55, b_ns2_56, b_ns2_57, b_ns2_58, b_ns2_59, b_ns2_60, b_ns2_61, b_ns2_62, b_ns2_63, b_ns2_64, b_ns2_65, b_ns2_66, b_ns2_67, b_ns2_68, b_ns2_69, b_ns2_70, b_ns2_71, b_ns2_72, b_ns2_73, b_ns2_74, b_ns2_75, b_ns2_76, b_ns2_77, b_ns2_78, b_ns2_79, b_ns2_80, b_ns2_81, b_ns2_82, b_ns2_83, b_ns2_84, b_ns2_85, b_ns2_86, b_ns2_87, b_ns2_88]
    obtain ⟨⟨⟨L, hL, hl⟩, -⟩, -⟩ := id C
    refine m_holder C (fun hx => ?_) (fun hx μ1 f1 s1 => ?_)
    · simp +decide only [s_149_0, s_149_1, s_149_2, s_149_3, s_149_4, s_149_7, s_149_10, s_149_11, s_149_14, s_149_15, s_149_18, s_149_19, s_149_20, b_res, b_resN, b_nm0, b_nm1, b_nm2, b_ns0, b_ns1, b_l0, b_l1, b_l2, b_l3, b_l4, b_l5, b_l6, Bool.true_and, Bool.and_true, cond_true, b01_0, b01_1, i10, true_and, and_true, true_or, or_true, u_rd, u_2, u_at, reduceIte, eq_self, not_true_eq_false, not_false_eq_true, false_imp_iff, true_imp_iff, forall_const, b_nm3_0, b_nm3_1, b_nm3_2, b_nm3_3, b_nm3_4, b_nm3_5, b_nm3_6, b_nm3_7, b_nm3_8, b_nm3_9, b_nm3_10, b_nm3_11, b_nm3_100, b_nm3_101, b_nm3_102, b_nm3_200, b_nm3_201, b_nm3_202, b_nm3_203, b_nm3_204, b_nm3_205, b_nm3_206, b_nm3_207, b_nm3_208, b_ns2_0, b_ns2_1, b_ns2_2, b_ns2_3, b_ns2_4, b_ns2_5, b_ns2_6, b_ns2_7, b_ns2_8, b_ns2_9, b_ns2_10, b_ns2_11, b_ns2_12, b_ns2_13, b_ns2_14, b_ns2_15, b_ns2_16, b_ns2_17, b_ns2_18, b_ns2_19, b_ns2_20, b_ns2_21, b_ns2_22, b_ns2_23, b_ns2_24, b_ns2_25, b_ns2_26, b_ns2_27, b_ns2_28, b_ns2_29, b_ns2_30, b_ns2_31, b_ns2_32, b_ns2_33, b_ns2_34, b_ns2_35, b_ns2_36, b_ns2_37, b_ns2_38, b_ns2_39, b_ns2_40, b_ns2_41, b_ns2_42, b_ns2_43, b_ns2_44, b_ns2_45, b_ns2_50, b_ns2_51, b_ns2_52, b_ns2_53, b_ns2_54, b_ns2_55, b_ns2_56, b_ns2_57, b_ns2_58, b_ns2_59, b_ns2_60, b_ns2_61, b_ns2_62, b_ns2_63, b_ns2_64, b_ns2_65, b_ns2_66, b_ns2_67, b_ns2_68, b_ns2_69, b_ns2_70, b_ns2_71, b_ns2_72, b_ns2_73, b_ns2_74, b_ns2_75, b_ns2_76, b_ns2_77, b_ns2_78, b_ns2_79, b_ns2_80, b_ns2_81, b_ns2_82, b_ns2_83, b_ns2_84, b_ns2_85, b_ns2_86, b_ns2_87, b_ns2_88, y1]
      exact hbad hx
    · have hok := hok hx μ1 f1
      have ok := lst_ok (m := m) (known := k) C.1 C.2.1 C.2.2.1 C.2.2.2.1
      unfold x_hold at hx
      have hp : p.toNatClampNeg < 30 := by show p.toInt.toNat < 30; omega
      have g7 : vp_in p 30 = True := eq_true (v_in (by omega) (by omega))
      have l83 : μ1.2 83 = 30 := by rw [f1.1, hl]; rfl
      rcases ok.1 _ hp with z | ⟨c, hc, z⟩
      · rw [if_pos z] at hok
        simp +decide only [s_149_0, s_149_1, s_149_2, s_149_3, s_149_4, s_149_7, s_149_10, s_149_11, s_149_14, s_149_15, s_149_18, s_149_19, s_149_20, b_res, b_resN, b_nm0, b_nm1, b_nm2, b_ns0, b_ns1, b_l0, b_l1, b_l2, b_l3, b_l4, b_l5, b_l6, Bool.true_and, Bool.and_true, cond_true, b01_0, b01_1, i10, true_and, and_true, true_or, or_true, u_rd, u_2, u_at, reduceIte, eq_self, not_true_eq_false, not_false_eq_true, false_imp_iff, true_imp_iff, forall_const, b_nm3_0, b_nm3_1, b_nm3_2, b_nm3_3, b_nm3_4, b_nm3_5, b_nm3_6, b_nm3_7, b_nm3_8, b_nm3_9, b_nm3_10, b_nm3_11, b_nm3_100, b_nm3_101, b_nm3_102, b_nm3_200, b_nm3_201, b_nm3_202, b_nm3_203, b_nm3_204, b_nm3_205, b_nm3_206, b_nm3_207, b_nm3_208, b_ns2_0, b_ns2_1, b_ns2_2, b_ns2_3, b_ns2_4, b_ns2_5, b_ns2_6, b_ns2_7, b_ns2_8, b_ns2_9, b_ns2_10, b_ns2_11, b_ns2_12, b_ns2_13, b_ns2_14, b_ns2_15, b_ns2_16, b_ns2_17, b_ns2_18, b_ns2_19, b_ns2_20, b_ns2_21, b_ns2_22, b_ns2_23, b_ns2_24, b_ns2_25, b_ns2_26, b_ns2_27, b_ns2_28, b_ns2_29, b_ns2_30, b_ns2_31, b_ns2_32, b_ns2_33, b_ns2_34, b_ns2_35, b_ns2_36, b_ns2_37, b_ns2_38, b_ns2_39, b_ns2_40, b_ns2_41, b_ns2_42, b_ns2_43, b_ns2_44, b_ns2_45, b_ns2_50, b_ns2_51, b_ns2_52, b_ns2_53, b_ns2_54, b_ns2_55, b_ns2_56, b_ns2_57, b_ns2_58, b_ns2_59, b_ns2_60, b_ns2_61, b_ns2_62, b_ns2_63, b_ns2_64, b_ns2_65, b_ns2_66, b_ns2_67, b_ns2_68, b_ns2_69, b_ns2_70, b_ns2_71, b_ns2_72, b_ns2_73, b_ns2_74, b_ns2_75, b_ns2_76, b_ns2_77, b_ns2_78, b_ns2_79, b_ns2_80, b_ns2_81, b_ns2_82, b_ns2_83, b_ns2_84, b_ns2_85, b_ns2_86, b_ns2_87, b_ns2_88, z, y1]
        exact hok
      · have g1 : ((0 : Int32) ≤ nI c) = True := q_n1 (by omega)
        have zz : ¬ (gd_lst μ m k q n).1.1 p.toNatClampNeg = -1 := by rw [z]; exact ls_m1 (by omega)
        rw [if_neg zz] at hok
        simp +decide only [s_149_0, s_149_1, s_149_2, s_149_3, s_149_4, s_149_7, s_149_10, s_149_11, s_149_14, s_149_15, s_149_18, s_149_19, s_149_20, b_res, b_resN, b_nm0, b_nm1, b_nm2, b_ns0, b_ns1, b_l0, b_l1, b_l2, b_l3, b_l4, b_l5, b_l6, Bool.true_and, Bool.and_true, cond_true, b01_0, b01_1, i10, true_and, and_true, true_or, or_true, u_rd, u_2, u_at, reduceIte, eq_self, not_true_eq_false, not_false_eq_true, false_imp_iff, true_imp_iff, forall_const, b_nm3_0, b_nm3_1, b_nm3_2, b_nm3_3, b_nm3_4, b_nm3_5, b_nm3_6, b_nm3_7, b_nm3_8, b_nm3_9, b_nm3_10, b_nm3_11, b_nm3_100, b_nm3_101, b_nm3_102, b_nm3_200, b_nm3_201, b_nm3_202, b_nm3_203, b_nm3_204, b_nm3_205, b_nm3_206, b_nm3_207, b_nm3_208, b_ns2_0, b_ns2_1, b_ns2_2, b_ns2_3, b_ns2_4, b_ns2_5, b_ns2_6, b_ns2_7, b_ns2_8, b_ns2_9, b_ns2_10, b_ns2_11, b_ns2_12, b_ns2_13, b_ns2_14, b_ns2_15, b_ns2_16, b_ns2_17, b_ns2_18, b_ns2_19, b_ns2_20, b_ns2_21, b_ns2_22, b_ns2_23, b_ns2_24, b_ns2_25, b_ns2_26, b_ns2_27, b_ns2_28, b_ns2_29, b_ns2_30, b_ns2_31, b_ns2_32, b_ns2_33, b_ns2_34, b_ns2_35, b_ns2_36, b_ns2_37, b_ns2_38, b_ns2_39, b_ns2_40, b_ns2_41, b_ns2_42, b_ns2_43, b_ns2_44, b_ns2_45, b_ns2_50, b_ns2_51, b_ns2_52, b_ns2_53, b_ns2_54, b_ns2_55, b_ns2_56, b_ns2_57, b_ns2_58, b_ns2_59, b_ns2_60, b_ns2_61, b_ns2_62, b_ns2_63, b_ns2_64, b_ns2_65, b_ns2_66, b_ns2_67, b_ns2_68, b_ns2_69, b_ns2_70, b_ns2_71, b_ns2_72, b_ns2_73, b_ns2_74, b_ns2_75, b_ns2_76, b_ns2_77, b_ns2_78, b_ns2_79, b_ns2_80, b_ns2_81, b_ns2_82, b_ns2_83, b_ns2_84, b_ns2_85, b_ns2_86, b_ns2_87, b_ns2_88, z, g1, l83, g7, s1.2.1 _ hp zz]
        exact hok
  show gd_run 100 0 [some (.inr 0), some (.inl p), some (.inl m), some (.inl k)] [] μ (0, 0) _
  refine hc _ _ (fun hx => ⟨_, rfl, ?_⟩) (fun hx μ1 f1 => ⟨_, rfl, ?_⟩)
  · exact hm μ _ _ C (fun _ => ⟨rfl, h⟩) (fun z => absurd hx z)
  · obtain ⟨C1, e1⟩ := ctx_fr C f1 (by decide) rfl rfl rfl rfl
    refine hm μ1 _ _ C1 (fun z => absurd z hx) (fun _ μ2 f2 => ⟨?_, ?_⟩)
    · rw [(e1 m k).1]
    · exact rel_ls h (fr_tr (fr_sub f1 (by decide) (by decide)) (fr_sub f2 (by decide) (by decide)))
-- isVoid
theorem cut_ex {mo : Nat → Int} {m : Int} (n : Nat) : ∃ i, i ≤ n ∧ (∀ j, j < i → mo j ≤ m) ∧ (i < n → m < mo i) := by
  induction n with
  | zero => exact ⟨0, by omega, fun j hj => absurd hj (by omega), fun h => absurd h (by omega)⟩
  | succ n ih =>
    obtain ⟨i, h1, h2, h3⟩ := ih
    by_cases e : i < n
    · exact ⟨i, by omega, h2, fun _ => h3 e⟩
    · by_cases z : mo n ≤ m
      · refine ⟨n + 1, by omega, fun j hj => ?_, fun h => absurd h (by omega)⟩
        by_cases ej : j = n
        · rw [ej]; exact z
        · exact h2 j (by omega)
      · refine ⟨i, by omega, h2, fun _ => ?_⟩
        rw [show i = n by omega]
        omega
theorem void_eq {T n : Nat} {μ : ab_S} {q : Nat → Nat} {k : Int32} {e : Nat} (C : ls_ctx T μ n q) (he : e < n) (hk : ¬ k < μ.1 23 e) : e ∈ ls_lst q (ls_PP μ (μ.1 19 e) k) n ∧ e ∈ ls_lst q (ls_PP μ 119 k) n ∧ (gd_lst μ 119 k q n).2 e = (gd_lst μ (μ.1 19 e) k q n).2 e := by
  obtain ⟨E, hn, hn2, hq, hqs, hs⟩ := C
  have hj := (env_n E hn hn2).1
  obtain ⟨i, hi, hie⟩ := hqs e he
  obtain ⟨-, -, -, -, m0, m1, -, m2, -⟩ := hj e he
  have k119 : (119 : Int32).toInt = 119 := by decide
  refine ⟨ls_lst_mem.mpr ⟨i, hi, hie, hk, Int.le_refl _⟩, ls_lst_mem.mpr ⟨i, hi, hie, hk, by omega⟩, ?_⟩
  obtain ⟨i', h1, h2, h3⟩ := cut_ex (mo := fun j => (μ.1 19 (q j)).toInt) (m := (μ.1 19 e).toInt) n
  have c1 := lst_cut (m := μ.1 19 e) (known := k) h1 hs h2 h3
  have c2 := lst_cut (m := 119) (known := k) (Nat.le_refl n) hs (fun j hjn => by
    have := (hq j hjn).1
    obtain ⟨-, -, -, -, m0, m1, -, m2, -⟩ := hj (q j) this
    omega) (fun h => absurd h (by omega))
  unfold gd_lst
  rw [c1, c2]
  obtain ⟨l', e1, e2⟩ := ls_lst_pre (q := q) (P := ls_P μ k) h1
  rw [e1]
  refine ls_run_void (fun z => ?_)
  obtain ⟨j, a1, a2, a3⟩ := e2 e z
  by_cases ej : j = i'
  · have := h3 (by omega)
    try dsimp only at this
    rw [← ej, a3] at this
    omega
  · have := hs i' j (by omega) a2
    have a4 := h3 (by omega)
    try dsimp only at a4
    rw [a3] at this
    unfold or_lt at this
    omega
def x_void (μ : ab_S) (n : Nat) (e k : Int32) : Prop := e.toInt < 0 ∨ (n : Int) ≤ e.toInt ∨ k.toInt < 0 ∨ 119 < k.toInt ∨ k < μ.1 23 e.toNatClampNeg
theorem c_isVoid {T n : Nat} {μ : ab_S} {q : Nat → Nat} {e k : Int32} {b : ab_B} {Q : ab_Q} (C : ls_ctx T μ n q) (hbad : x_void μ n e k → Q (some (-1)) μ) (hok : ¬ x_void μ n e k → ∀ μ', ab_fr w_st μ μ' → Q (some (if (gd_lst μ (μ.1 19 e.toNatClampNeg) k q n).2 e.toNatClampNeg = 0 then 0 else 1)) μ') : gd_run 98 0 [some (.inr 0), some (.inl e), some (.inl k)] [] μ b Q := by
  obtain ⟨⟨⟨L, hL, hl⟩, -⟩, hn, hn2, -⟩ := id C
  have t1 : (nI n).toInt = (n : Int) := nI_toInt (by omega)
  have l23 : μ.2 23 = 150 := by rw [hl]; rfl
  have l19 : μ.2 19 = 150 := by rw [hl]; rfl
  by_cases hx : e.toInt < 0 ∨ (n : Int) ≤ e.toInt ∨ k.toInt < 0 ∨ 119 < k.toInt
  · have hbad := hbad (by
      unfold x_void
      rcases hx with hx | hx | hx | hx
      · exact Or.inl hx
      · exact Or.inr (Or.inl hx)
      · exact Or.inr (Or.inr (Or.inl hx))
      · exact Or.inr (Or.inr (Or.inr (Or.inl hx))))
    simp +decide only [s_98_0, s_98_1, s_98_4, s_98_5, s_98_8, s_98_11, s_98_12, s_98_15, s_98_18, s_98_19, s_98_22, s_98_23, s_98_26, s_98_27, s_98_30, s_98_31, s_98_32, s_98_33, s_98_36, s_98_37, s_98_40, s_98_41, s_98_44, s_98_45, s_98_48, s_98_49, s_98_52, s_98_53, s_98_56, s_98_59, s_98_60, s_98_63, s_98_64, s_117_0, s_117_1, s_117_4, s_117_5, s_117_7, s_117_10, s_117_11, s_117_14, s_117_15, s_45_0, s_45_1, s_45_4, s_45_5, s_45_6, s_45_9, s_45_12, s_45_13, s_45_16, s_45_17, b_res, b_resN, b_nm0, b_nm1, b_nm2, b_ns0, b_ns1, b_l0, b_l1, b_l2, b_l3, b_l4, b_l5, b_l6, Bool.true_and, Bool.and_true, cond_true, b01_0, b01_1, i10, true_and, and_true, true_or, or_true, u_rd, u_2, u_at, reduceIte, eq_self, not_true_eq_false, not_false_eq_true, false_imp_iff, true_imp_iff, forall_const, b_nm3_0, b_nm3_1, b_nm3_2, b_nm3_3, b_nm3_4, b_nm3_5, b_nm3_6, b_nm3_7, b_nm3_8, b_nm3_9, b_nm3_10, b_nm3_11, b_nm3_100, b_nm3_101, b_nm3_102, b_nm3_200, b_nm3_201, b_nm3_202, b_nm3_203, b_nm3_204, b_nm3_205, b_nm3_206, b_nm3_207, b_nm3_208, b_ns2_0, b_ns2_1, b_ns2_2, b_ns2_3, b_ns2_4, b_ns2_5, b_ns2_6, b_ns2_7, b_ns2_8, b_ns2_9, b_ns2_10, b_ns2_11, b_ns2_12, b_ns2_13, b_ns2_14, b_ns2_15, b_ns2_16, b_ns2_17, b_ns2_18, b_ns2_19, b_ns2_20, b_ns2_21, b_ns2_22, b_ns2_23, b_ns2_24, b_ns2_25, b_ns2_26, b_ns2_27, b_ns2_28, b_ns2_29, b_ns2_30, b_ns2_31, b_ns2_32, b_ns2_33, b_ns2_34, b_ns2_35, b_ns2_36, b_ns2_37, b_ns2_38, b_ns2_39, b_ns2_40, b_ns2_41, b_ns2_42, b_ns2_43, b_ns2_44, b_ns2_45, b_ns2_50, b_ns2_51, b_ns2_52, b_ns2_53, b_ns2_54, b_ns2_55, b_ns2_56, b_ns2_57, b_ns2_58, b_ns2_59, b_ns2_60, b_ns2_61, b_ns2_62, b_ns2_63, b_ns2_64, b_ns2_65, b_ns2_66, b_ns2_67, b_ns2_68, b_ns2_69, b_ns2_70, b_ns2_71, b_ns2_72, b_ns2_73, b_ns2_74, b_ns2_75, b_ns2_76, b_ns2_77, b_ns2_78, b_ns2_79, b_ns2_80, b_ns2_81, b_ns2_82, b_ns2_83, b_ns2_84, b_ns2_85, b_ns2_86, b_ns2_87, b_ns2_88, hn]
    simp only [i_lt, i_le, kI_m2, kI_m1, kI_0, kI_1, kI_2, kI_3, kI_4, kI_5, kI_6, kI_7, kI_8, kI_9, kI_10, kI_11, kI_12, kI_13, kI_14, kI_15, kI_16, kI_19, kI_20, kI_24, kI_29, kI_30, kI_31, kI_32, kI_48, kI_50, kI_57, kI_58, kI_59, kI_60, kI_97, kI_99, kI_100, kI_119, kI_120, kI_122, kI_149, kI_150, kI_199, kI_200, kI_255, kI_1000, kI_3000, kI_3700, kI_5000, t1]
    repeat' first | exact hbad | (exfalso; omega) | apply And.intro | intro _
  · obtain ⟨e, he, rfl⟩ := i_of (x := e) (n := 149) (by omega) (by omega) (by omega)
    have te : (nI e).toInt = (e : Int) := nI_toInt (by omega)
    have e1 : (nI e).toNatClampNeg = e := nI_clamp (by omega)
    rw [te] at hx
    have g1 : (nI e < 0) = False := q_n0 (by omega)
    have g2 : (nI n ≤ nI e) = False := q_nle (by omega) (by omega)
    have g5 : (k < 0) = False := eq_false (by rw [i_lt, kI_0]; omega)
    have g6 : ((120 : Int32) ≤ k) = False := eq_false (by rw [i_le, kI_120]; omega)
    have g7 : vp_in (nI e) 150 = True := q_in (by omega) (by omega)
    unfold x_void at hbad hok
    rw [e1, te] at hbad hok
    simp +decide only [s_98_0, s_98_1, s_98_4, s_98_5, s_98_8, s_98_11, s_98_12, s_98_15, s_98_18, s_98_19, s_98_22, s_98_23, s_98_26, s_98_27, s_98_30, s_98_31, s_98_32, s_98_33, s_98_36, s_98_37, s_98_40, s_98_41, s_98_44, s_98_45, s_98_48, s_98_49, s_98_52, s_98_53, s_98_56, s_98_59, s_98_60, s_98_63, s_98_64, s_117_0, s_117_1, s_117_4, s_117_5, s_117_7, s_117_10, s_117_11, s_117_14, s_117_15, s_45_0, s_45_1, s_45_4, s_45_5, s_45_6, s_45_9, s_45_12, s_45_13, s_45_16, s_45_17, s_54_0, s_54_1, s_54_2, s_54_5, s_54_8, s_54_9, s_54_12, s_54_13, s_54_14, s_54_17, s_54_18, s_50_0, s_50_1, s_50_2, s_50_5, s_50_8, s_50_9, s_50_12, s_50_13, s_50_14, s_50_17, s_50_18, b_res, b_resN, b_nm0, b_nm1, b_nm2, b_ns0, b_ns1, b_l0, b_l1, b_l2, b_l3, b_l4, b_l5, b_l6, Bool.true_and, Bool.and_true, cond_true, b01_0, b01_1, i10, true_and, and_true, true_or, or_true, u_rd, u_2, u_at, reduceIte, eq_self, not_true_eq_false, not_false_eq_true, false_imp_iff, true_imp_iff, forall_const, b_nm3_0, b_nm3_1, b_nm3_2, b_nm3_3, b_nm3_4, b_nm3_5, b_nm3_6, b_nm3_7, b_nm3_8, b_nm3_9, b_nm3_10, b_nm3_11, b_nm3_100, b_nm3_101, b_nm3_102, b_nm3_200, b_nm3_201, b_nm3_202, b_nm3_203, b_nm3_204, b_nm3_205, b_nm3_206, b_nm3_207, b_nm3_208, b_ns2_0, b_ns2_1, b_ns2_2, b_ns2_3, b_ns2_4, b_ns2_5, b_ns2_6, b_ns2_7, b_ns2_8, b_ns2_9, b_ns2_10, b_ns2_11, b_ns2_12, b_ns2_13, b_ns2_14, b_ns2_15, b_ns2_16, b_ns2_17, b_ns2_18, b_ns2_19, b_ns2_20, b_ns2_21, b_ns2_22, b_ns2_23, b_ns2_24, b_ns2_25, b_ns2_26, b_ns2_27, b_ns2_28, b_ns2_29, b_ns2_30, b_ns2_31, b_ns2_32, b_ns2_33, b_ns2_34, b_ns2_35, b_ns2_36, b_ns2_37, b_ns2_38, b_ns2_39, b_ns2_40, b_ns2_41, b_ns2_42, b_ns2_43, b_ns2_44, b_ns2_45, b_ns2_50, b_ns2_51, b_ns2_52, b_ns2_53, b_ns2_54, b_ns2_55, b_ns2_56, b_ns2_57, b_ns2_58, b_ns2_59, b_ns2_60, b_ns2_61, b_ns2_62, b_ns2_63, b_ns2_64, b_ns2_65, b_ns2_66, b_ns2_67, b_ns2_68, b_ns2_69, b_ns2_70, b_ns2_71, b_ns2_72, b_ns2_73, b_ns2_74, b_ns2_75, b_ns2_76, b_ns2_77, b_ns2_78, b_ns2_79, b_ns2_80, b_ns2_81, b_ns2_82, b_ns2_83, b_ns2_84, b_ns2_85, b_ns2_86, b_ns2_87, b_ns2_88, hn, g1, g2, g5, g6, g7, e1, l23, l19]
    refine ⟨fun hk => ?_, fun hk => hbad (Or.inr (Or.inr (Or.inr (Or.inr (by rw [i_le] at hk; rw [i_lt]; omega)))))⟩
    have hk' : ¬ k < μ.1 23 e := by rw [i_le] at hk; rw [i_lt]; omega
    have hok := hok (fun z => by
      rcases z with z | z | z | z | z
      · omega
      · omega
      · omega
      · omega
      · exact hk' z)
    refine c_draw C.1 C.2.1 C.2.2.1 C.2.2.2.1 C.2.2.2.2.2 (fun μ1 f1 s1 v1 => ?_)
    have l29 : μ1.2 29 = 150 := by rw [f1.1, hl]; rfl
    have hn1 : μ1.1 4 7 = nI n := (f1.2 _ _ rfl).trans hn
    have v := v1 e (void_eq C (by omega) hk').1
    simp +decide only [s_98_0, s_98_1, s_98_4, s_98_5, s_98_8, s_98_11, s_98_12, s_98_15, s_98_18, s_98_19, s_98_22, s_98_23, s_98_26, s_98_27, s_98_30, s_98_31, s_98_32, s_98_33, s_98_36, s_98_37, s_98_40, s_98_41, s_98_44, s_98_45, s_98_48, s_98_49, s_98_52, s_98_53, s_98_56, s_98_59, s_98_60, s_98_63, s_98_64, s_58_0, s_58_1, s_58_4, s_58_5, s_58_8, s_58_11, s_58_12, s_58_15, s_58_16, s_58_17, s_58_20, s_58_21, s_58_24, s_58_25, s_45_0, s_45_1, s_45_4, s_45_5, s_45_6, s_45_9, s_45_12, s_45_13, s_45_16, s_45_17, b_res, b_resN, b_nm0, b_nm1, b_nm2, b_ns0, b_ns1, b_l0, b_l1, b_l2, b_l3, b_l4, b_l5, b_l6, Bool.true_and, Bool.and_true, cond_true, b01_0, b01_1, i10, true_and, and_true, true_or, or_true, u_rd, u_2, u_at, reduceIte, eq_self, not_true_eq_false, not_false_eq_true, false_imp_iff, true_imp_iff, forall_const, b_nm3_0, b_nm3_1, b_nm3_2, b_nm3_3, b_nm3_4, b_nm3_5, b_nm3_6, b_nm3_7, b_nm3_8, b_nm3_9, b_nm3_10, b_nm3_11, b_nm3_100, b_nm3_101, b_nm3_102, b_nm3_200, b_nm3_201, b_nm3_202, b_nm3_203, b_nm3_204, b_nm3_205, b_nm3_206, b_nm3_207, b_nm3_208, b_ns2_0, b_ns2_1, b_ns2_2, b_ns2_3, b_ns2_4, b_ns2_5, b_ns2_6, b_ns2_7, b_ns2_8, b_ns2_9, b_ns2_10, b_ns2_11, b_ns2_12, b_ns2_13, b_ns2_14, b_ns2_15, b_ns2_16, b_ns2_17, b_ns2_18, b_ns2_19, b_ns2_20, b_ns2_21, b_ns2_22, b_ns2_23, b_ns2_24, b_ns2_25, b_ns2_26, b_ns2_27, b_ns2_28, b_ns2_29, b_ns2_30, b_ns2_31, b_ns2_32, b_ns2_33, b_ns2_34, b_ns2_35, b_ns2_36, b_ns2_37, b_ns2_38, b_ns2_39, b_ns2_40, b_ns2_41, b_ns2_42, b_ns2_43, b_ns2_44, b_ns2_45, b_ns2_50, b_ns2_51, b_ns2_52, b_ns2_53, b_ns2_54, b_ns2_55, b_ns2_56, b_ns2_57, b_ns2_58, b_ns2_59, b_ns2_60, b_ns2_61, b_ns2_62, b_ns2_63, b_ns2_64, b_ns2_65, b_ns2_66, b_ns2_67, b_ns2_68, b_ns2_69, b_ns2_70, b_ns2_71, b_ns2_72, b_ns2_73, b_ns2_74, b_ns2_75, b_ns2_76, b_ns2_77, b_ns2_78, b_ns2_79, b_ns2_80, b_ns2_81, b_ns2_82, b_ns2_83, b_ns2_84, b_ns2_85, b_ns2_86, b_ns2_87, b_ns2_88, hn1, g1, g2, g7, e1, l29, v]
    have hok := hok μ1 f1
    refine ⟨fun z => ?_, fun z => ?_⟩
    · rw [if_pos z] at hok
      exact hok
    · rw [if_neg z] at hok
      exact hok
theorem m_isVoid {T n : Nat} {μ : ab_S} {q : Nat → Nat} {e k : Int32} {b : ab_B} {Q : ab_Q} (C : ls_ctx T μ n q) (hbad : x_void μ n e k → Q (some (-1)) μ) (hok : ¬ x_void μ n e k → ∀ μ', ab_fr w_ml μ μ' → Q (some (if (gd_lst μ (μ.1 19 e.toNatClampNeg) k q n).2 e.toNatClampNeg = 0 then 0 else 1)) μ') : gd_run 147 0 [some (.inr 11), some (.inl e), some (.inl k)] [] μ b Q := by
  obtain ⟨⟨⟨L, hL, hl⟩, -⟩, hn, hn2, -⟩ := id C
  obtain ⟨hj, hen, -⟩ := env_n C.1 hn hn2
  have t1 : (nI n - 1).toInt = (n : Int) - 1 := pk_sub_toInt (b := 1) (by omega) (by omega)
  have l60 : μ.2 60 = 150 := by rw [hl]; rfl
  by_cases hx : e.toInt < 0 ∨ (n : Int) ≤ e.toInt ∨ k.toInt < 0 ∨ 119 < k.toInt
  · have hbad := hbad (by
      unfold x_void
      rcases hx with hx | hx | hx | hx
      · exact Or.inl hx
      · exact Or.inr (Or.inl hx)
      · exact Or.inr (Or.inr (Or.inl hx))
      · exact Or.inr (Or.inr (Or.inr (Or.inl hx))))
    simp +decide only [s_147_0, s_147_1, s_147_2, s_147_3, s_147_6, s_147_7, s_147_8, s_147_11, s_147_14, s_147_15, s_147_18, s_147_21, s_147_22, s_147_25, s_147_26, s_147_27, s_147_28, s_147_31, s_147_32, s_147_33, s_147_34, s_147_36, s_147_37, s_147_40, s_147_41, s_147_44, s_147_45, s_147_46, s_147_49, s_147_50, s_147_53, s_147_54, s_140_0, s_140_1, s_140_2, s_140_4, s_140_7, s_124_0, s_124_1, s_124_2, s_124_5, s_124_6, s_124_7, s_124_10, s_124_11, s_124_14, s_124_15, b_res, b_resN, b_nm0, b_nm1, b_nm2, b_ns0, b_ns1, b_l0, b_l1, b_l2, b_l3, b_l4, b_l5, b_l6, Bool.true_and, Bool.and_true, cond_true, b01_0, b01_1, i10, true_and, and_true, true_or, or_true, u_rd, u_2, u_at, reduceIte, eq_self, not_true_eq_false, not_false_eq_true, false_imp_iff, true_imp_iff, forall_const, b_nm3_0, b_nm3_1, b_nm3_2, b_nm3_3, b_nm3_4, b_nm3_5, b_nm3_6, b_nm3_7, b_nm3_8, b_nm3_9, b_nm3_10, b_nm3_11, b_nm3_100, b_nm3_101, b_nm3_102, b_nm3_200, b_nm3_201, b_nm3_202, b_nm3_203, b_nm3_204, b_nm3_205, b_nm3_206, b_nm3_207, b_nm3_208, b_ns2_0, b_ns2_1, b_ns2_2, b_ns2_3, b_ns2_4, b_ns2_5, b_ns2_6, b_ns2_7, b_ns2_8, b_ns2_9, b_ns2_10, b_ns2_11, b_ns2_12, b_ns2_13, b_ns2_14, b_ns2_15, b_ns2_16, b_ns2_17, b_ns2_18, b_ns2_19, b_ns2_20, b_ns2_21, b_ns2_22, b_ns2_23, b_ns2_24, b_ns2_25, b_ns2_26, b_ns2_27, b_ns2_28, b_ns2_29, b_ns2_30, b_ns2_31, b_ns2_32, b_ns2_33, b_ns2_34, b_ns2_35, b_ns2_36, b_ns2_37, b_ns2_38, b_ns2_39, b_ns2_40, b_ns2_41, b_ns2_42, b_ns2_43, b_ns2_44, b_ns2_45, b_ns2_50, b_ns2_51, b_ns2_52, b_ns2_53, b_ns2_54, b_ns2_55, b_ns2_56, b_ns2_57, b_ns2_58, b_ns2_59, b_ns2_60, b_ns2_61, b_ns2_62, b_ns2_63, b_ns2_64, b_ns2_65, b_ns2_66, b_ns2_67, b_ns2_68, b_ns2_69, b_ns2_70, b_ns2_71, b_ns2_72, b_ns2_73, b_ns2_74, b_ns2_75, b_ns2_76, b_ns2_77, b_ns2_78, b_ns2_79, b_ns2_80, b_ns2_81, b_ns2_82, b_ns2_83, b_ns2_84, b_ns2_85, b_ns2_86, b_ns2_87, b_ns2_88, hen]
    simp only [i_lt, i_le, kI_m2, kI_m1, kI_0, kI_1, kI_2, kI_3, kI_4, kI_5, kI_6, kI_7, kI_8, kI_9, kI_10, kI_11, kI_12, kI_13, kI_14, kI_15, kI_16, kI_19, kI_20, kI_24, kI_29, kI_30, kI_31, kI_32, kI_48, kI_50, kI_57, kI_58, kI_59, kI_60, kI_97, kI_99, kI_100, kI_119, kI_120, kI_122, kI_149, kI_150, kI_199, kI_200, kI_255, kI_1000, kI_3000, kI_3700, kI_5000, t1]
    repeat' first | exact hbad | (exfalso; omega) | apply And.intro | intro _
  · obtain ⟨e, he, rfl⟩ := i_of (x := e) (n := 149) (by omega) (by omega) (by omega)
    have te : (nI e).toInt = (e : Int) := nI_toInt (by omega)
    have e1 : (nI e).toNatClampNeg = e := nI_clamp (by omega)
    rw [te] at hx
    have g1 : (nI e < 0) = False := q_n0 (by omega)
    have t2 : nI n - 1 = nI (n - 1) := pk_sub (b := 1) (by omega)
    have g2 : (nI (n - 1) < nI e) = False := q_nlt (by omega) (by omega)
    have g5 : (k < 0) = False := eq_false (by rw [i_lt, kI_0]; omega)
    have g6 : ((119 : Int32) < k) = False := eq_false (by rw [i_lt, kI_119]; omega)
    have g7 : vp_in (nI e) 150 = True := q_in (by omega) (by omega)
    have j3 := (hj e (by omega)).2.2.1
    unfold x_void at hbad hok
    rw [e1, te] at hbad hok
    simp +decide only [s_147_0, s_147_1, s_147_2, s_147_3, s_147_6, s_147_7, s_147_8, s_147_11, s_147_14, s_147_15, s_147_18, s_147_21, s_147_22, s_147_25, s_147_26, s_147_27, s_147_28, s_147_31, s_147_32, s_147_33, s_147_34, s_147_36, s_147_37, s_147_40, s_147_41, s_147_44, s_147_45, s_147_46, s_147_49, s_147_50, s_147_53, s_147_54, s_140_0, s_140_1, s_140_2, s_140_4, s_140_7, s_124_0, s_124_1, s_124_2, s_124_5, s_124_6, s_124_7, s_124_10, s_124_11, s_124_14, s_124_15, b_res, b_resN, b_nm0, b_nm1, b_nm2, b_ns0, b_ns1, b_l0, b_l1, b_l2, b_l3, b_l4, b_l5, b_l6, Bool.true_and, Bool.and_true, cond_true, b01_0, b01_1, i10, true_and, and_true, true_or, or_true, u_rd, u_2, u_at, reduceIte, eq_self, not_true_eq_false, not_false_eq_true, false_imp_iff, true_imp_iff, forall_const, b_nm3_0, b_nm3_1, b_nm3_2, b_nm3_3, b_nm3_4, b_nm3_5, b_nm3_6, b_nm3_7, b_nm3_8, b_nm3_9, b_nm3_10, b_nm3_11, b_nm3_100, b_nm3_101, b_nm3_102, b_nm3_200, b_nm3_201, b_nm3_202, b_nm3_203, b_nm3_204, b_nm3_205, b_nm3_206, b_nm3_207, b_nm3_208, b_ns2_0, b_ns2_1, b_ns2_2, b_ns2_3, b_ns2_4, b_ns2_5, b_ns2_6, b_ns2_7, b_ns2_8, b_ns2_9, b_ns2_10, b_ns2_11, b_ns2_12, b_ns2_13, b_ns2_14, b_ns2_15, b_ns2_16, b_ns2_17, b_ns2_18, b_ns2_19, b_ns2_20, b_ns2_21, b_ns2_22, b_ns2_23, b_ns2_24, b_ns2_25, b_ns2_26, b_ns2_27, b_ns2_28, b_ns2_29, b_ns2_30, b_ns2_31, b_ns2_32, b_ns2_33, b_ns2_34, b_ns2_35, b_ns2_36, b_ns2_37, b_ns2_38, b_ns2_39, b_ns2_40, b_ns2_41, b_ns2_42, b_ns2_43, b_ns2_44, b_ns2_45, b_ns2_50, b_ns2_51, b_ns2_52, b_ns2_53, b_ns2_54, b_ns2_55, b_ns2_56, b_ns2_57, b_ns2_58, b_ns2_59, b_ns2_60, b_ns2_61, b_ns2_62, b_ns2_63, b_ns2_64, b_ns2_65, b_ns2_66, b_ns2_67, b_ns2_68, b_ns2_69, b_ns2_70, b_ns2_71, b_ns2_72, b_ns2_73, b_ns2_74, b_ns2_75, b_ns2_76, b_ns2_77, b_ns2_78, b_ns2_79, b_ns2_80, b_ns2_81, b_ns2_82, b_ns2_83, b_ns2_84, b_ns2_85, b_ns2_86, b_ns2_87, b_ns2_88, hen, t2, g1, g2, g5, g6, g7, e1, l60, ← j3]
    refine ⟨fun hk => ?_, fun hk => hbad (Or.inr (Or.inr (Or.inr (Or.inr (by rw [i_le] at hk; rw [i_lt]; omega)))))⟩
    have hk' : ¬ k < μ.1 23 e := by rw [i_le] at hk; rw [i_lt]; omega
    have hok := hok (fun z => by
      rcases z with z | z | z | z | z
      · omega
      · omega
      · omega
      · omega
      · exact hk' z)
    refine m_list C.1 C.2.1 C.2.2.1 C.2.2.2.1 C.2.2.2.2.1 C.2.2.2.2.2 (fun μ1 f1 s1 v1 => ?_)
    have l85 : μ1.2 85 = 150 := by rw [f1.1, hl]; rfl
    obtain ⟨-, w1, w2⟩ := void_eq C (by omega) hk'
    have v := v1 e w1
    rw [w2] at v
    simp +decide only [s_147_0, s_147_1, s_147_2, s_147_3, s_147_6, s_147_7, s_147_8, s_147_11, s_147_14, s_147_15, s_147_18, s_147_21, s_147_22, s_147_25, s_147_26, s_147_27, s_147_28, s_147_31, s_147_32, s_147_33, s_147_34, s_147_36, s_147_37, s_147_40, s_147_41, s_147_44, s_147_45, s_147_46, s_147_49, s_147_50, s_147_53, s_147_54, b_res, b_resN, b_nm0, b_nm1, b_nm2, b_ns0, b_ns1, b_l0, b_l1, b_l2, b_l3, b_l4, b_l5, b_l6, Bool.true_and, Bool.and_true, cond_true, b01_0, b01_1, i10, true_and, and_true, true_or, or_true, u_rd, u_2, u_at, reduceIte, eq_self, not_true_eq_false, not_false_eq_true, false_imp_iff, true_imp_iff, forall_const, b_nm3_0, b_nm3_1, b_nm3_2, b_nm3_3, b_nm3_4, b_nm3_5, b_nm3_6, b_nm3_7, b_nm3_8, b_nm3_9, b_nm3_10, b_nm3_11, b_nm3_100, b_nm3_101, b_nm3_102, b_nm3_200, b_nm3_201, b_nm3_202, b_nm3_203, b_nm3_204, b_nm3_205, b_nm3_206, b_nm3_207, b_nm3_208, b_ns2_0, b_ns2_1, b_ns2_2, b_ns2_3, b_ns2_4, b_ns2_5, b_ns2_6, b_ns2_7, b_ns2_8, b_ns2_9, b_ns2_10, b_ns2_11, b_ns2_12, b_ns2_13, b_ns2_14, b_ns2_15, b_ns2_16, b_ns2_17, b_ns2_18, b_ns2_19, b_ns2_20, b_ns2_21, b_ns2_22, b_ns2_23, b_ns2_24, b_ns2_25, b_ns2_26, b_ns2_27, b_ns2_28, b_ns2_29, b_ns2_30, b_ns2_31, b_ns2_32, b_ns2_33, b_ns2_34, b_ns2_35, b_ns2_36, b_ns2_37, b_ns2_38, b_ns2_39, b_ns2_40, b_ns2_41, b_ns2_42, b_ns2_43, b_ns2_44, b_ns2_45, b_ns2_50, b_ns2_51, b_ns2_52, b_ns2_53, b_ns2_54, b_ns2_55, b_ns2_56, b_ns2_57, b_ns2_58, b_ns2_59, b_ns2_60, b_ns2_61, b_ns2_62, b_ns2_63, b_ns2_64, b_ns2_65, b_ns2_66, b_ns2_67, b_ns2_68, b_ns2_69, b_ns2_70, b_ns2_71, b_ns2_72, b_ns2_73, b_ns2_74, b_ns2_75, b_ns2_76, b_ns2_77, b_ns2_78, b_ns2_79, b_ns2_80, b_ns2_81, b_ns2_82, b_ns2_83, b_ns2_84, b_ns2_85, b_ns2_86, b_ns2_87, b_ns2_88, g7, e1, l85, v]
    have hok := hok μ1 f1
    refine ⟨fun z => ?_, fun z => ?_⟩
    · rw [if_pos z] at hok
      exact hok
    · rw [if_neg z] at hok
      exact hok
theorem sim_isVoid {T : Nat} {μ : ab_S} (e k : Int32) (h : gd_rel T μ) : lw_sim1 gd_rel 98 147 T (0, 0) [e, k] μ := by
  obtain ⟨n, q, C⟩ := ctx_of h
  show gd_run 98 0 [some (.inr 0), some (.inl e), some (.inl k)] [] μ (0, 0) _
  refine c_isVoid C (fun hx => ⟨_, rfl, ?_⟩) (fun hx μ1 f1 => ⟨_, rfl, ?_⟩)
  · exact m_isVoid C (fun _ => ⟨rfl, h⟩) (fun z => absurd hx z)
  · obtain ⟨C1, e1⟩ := ctx_fr C f1 (by decide) rfl rfl rfl rfl
    have r23 : μ1.1 23 = μ.1 23 := fr_c f1 _ (fun _ => rfl)
    have r19 : μ1.1 19 = μ.1 19 := fr_c f1 _ (fun _ => rfl)
    refine m_isVoid C1 (fun z => absurd (by unfold x_void at z ⊢; rw [r23] at z; exact z) hx) (fun _ μ2 f2 => ⟨?_, ?_⟩)
    · rw [r19, (e1 _ k).1]
    · exact rel_ls h (fr_tr (fr_sub f1 (by decide) (by decide)) (fr_sub f2 (by decide) (by decide)))
