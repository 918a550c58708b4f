def x_room (y : Int) (g m : Int32) : Prop := g.toInt < 0 ∨ 3 < g.toInt ∨ m.toInt < y ∨ 5000 < m.toInt
theorem c_room {μ : ab_S} {g m : Int32} {b : ab_B} {Q : ab_Q} {y : Int} (l1 : μ.2 33 = 4) (l2 : μ.2 32 = 4) (hy : ¬ (g.toInt < 0 ∨ 3 < g.toInt) → (μ.1 33 g.toNatClampNeg).toInt = y) (hbad : x_room y g m → Q (some (-1)) μ) (hok : ¬ x_room y g m → Q (some (μ.1 32 g.toNatClampNeg)) (ab_up μ 32 g.toNatClampNeg m)) : gd_run 102 0 [some (.inr 0), some (.inl g), some (.inl m)] [] μ b Q := by
  unfold x_room at hbad hok
  by_cases hg : g.toInt < 0 ∨ 3 < g.toInt
  · simp +decide only [s_102_0, s_102_1, s_102_4, s_102_7, s_102_8, s_102_9, s_102_12, s_102_13, s_102_16, s_102_19, s_102_20, s_102_23, s_102_26, s_102_27, s_102_28, s_102_29, s_102_32, s_102_33, s_102_34, s_102_37, s_121_0, s_121_1, s_121_4, s_121_5, s_121_6, s_121_9, s_121_10, s_121_13, s_121_14, s_72_0, s_72_1, s_72_4, s_72_7, s_72_8, s_72_11, s_72_12, s_72_13, s_72_16, s_72_17, s_75_0, s_75_1, s_75_4, s_75_7, s_75_8, s_75_9, s_75_10, s_75_13, s_75_14, s_75_15, s_75_16, s_75_17, s_75_20, s_75_21, s_75_22, s_75_23, s_75_24, b_res, b_resN, b_nm0, b_nm1, b_nm2, b_ns0, b_ns1, b_l0, b_l1, b_l2, b_l3, b_l4, b_l5, b_l6, Bool.true_and, Bool.and_true, cond_true, b01_0, b01_1, i10, true_and, and_true, true_or, or_true, u_rd, u_2, u_at, reduceIte, eq_self, not_true_eq_false, not_false_eq_true, false_imp_iff, true_imp_iff, forall_const, b_nm3_0, b_nm3_1, b_nm3_2, b_nm3_3, b_nm3_4, b_nm3_5, b_nm3_6, b_nm3_7, b_nm3_8, b_nm3_9, b_nm3_10, b_nm3_11, b_nm3_100, b_nm3_101, b_nm3_102, b_nm3_200, b_nm3_201, b_nm3_202, b_nm3_203, b_nm3_204, b_nm3_205, b_nm3_206, b_nm3_207, b_nm3_208, b_ns2_0, b_ns2_1, b_ns2_2, b_ns2_3, b_ns2_4, b_ns2_5, b_ns2_6, b_ns2_7, b_ns2_8, b_ns2_9, b_ns2_10, b_ns2_11, l1, l2]
    simp only [i_lt, i_le, kI_m2, kI_m1, kI_0, kI_1, kI_2, kI_3, kI_4, kI_5, kI_6, kI_7, kI_8, kI_9, kI_10, kI_11, kI_12, kI_13, kI_14, kI_15, kI_16, kI_19, kI_20, kI_24, kI_29, kI_30, kI_31, kI_32, kI_48, kI_50, kI_57, kI_58, kI_59, kI_60, kI_97, kI_99, kI_100, kI_119, kI_120, kI_122, kI_149, kI_150, kI_199, kI_200, kI_255, kI_1000, kI_3000, kI_3700, kI_5000]
    repeat' first | exact hbad (by omega) | (exfalso; omega) | apply And.intro | intro _
  · have hy := hy hg
    simp +decide only [s_102_0, s_102_1, s_102_4, s_102_7, s_102_8, s_102_9, s_102_12, s_102_13, s_102_16, s_102_19, s_102_20, s_102_23, s_102_26, s_102_27, s_102_28, s_102_29, s_102_32, s_102_33, s_102_34, s_102_37, s_121_0, s_121_1, s_121_4, s_121_5, s_121_6, s_121_9, s_121_10, s_121_13, s_121_14, s_72_0, s_72_1, s_72_4, s_72_7, s_72_8, s_72_11, s_72_12, s_72_13, s_72_16, s_72_17, s_75_0, s_75_1, s_75_4, s_75_7, s_75_8, s_75_9, s_75_10, s_75_13, s_75_14, s_75_15, s_75_16, s_75_17, s_75_20, s_75_21, s_75_22, s_75_23, s_75_24, b_res, b_resN, b_nm0, b_nm1, b_nm2, b_ns0, b_ns1, b_l0, b_l1, b_l2, b_l3, b_l4, b_l5, b_l6, Bool.true_and, Bool.and_true, cond_true, b01_0, b01_1, i10, true_and, and_true, true_or, or_true, u_rd, u_2, u_at, reduceIte, eq_self, not_true_eq_false, not_false_eq_true, false_imp_iff, true_imp_iff, forall_const, b_nm3_0, b_nm3_1, b_nm3_2, b_nm3_3, b_nm3_4, b_nm3_5, b_nm3_6, b_nm3_7, b_nm3_8, b_nm3_9, b_nm3_10, b_nm3_11, b_nm3_100, b_nm3_101, b_nm3_102, b_nm3_200, b_nm3_201, b_nm3_202, b_nm3_203, b_nm3_204, b_nm3_205, b_nm3_206, b_nm3_207, b_nm3_208, b_ns2_0, b_ns2_1, b_ns2_2, b_ns2_3, b_ns2_4, b_ns2_5, b_ns2_6, b_ns2_7, b_ns2_8, b_ns2_9, b_ns2_10, b_ns2_11, l1, l2]
    simp only [i_lt, i_le, kI_m2, kI_m1, kI_0, kI_1, kI_2, kI_3, kI_4, kI_5, kI_6, kI_7, kI_8, kI_9, kI_10, kI_11, kI_12, kI_13, kI_14, kI_15, kI_16, kI_19, kI_20, kI_24, kI_29, kI_30, kI_31, kI_32, kI_48, kI_50, kI_57, kI_58, kI_59, kI_60, kI_97, kI_99, kI_100, kI_119, kI_120, kI_122, kI_149, kI_150, kI_199, kI_200, kI_255, kI_1000, kI_3000, kI_3700, kI_5000, hy]
    repeat' first | exact hbad (by omega) | exact hok (by omega) | exact v_in (by omega) (by omega) | (exfalso; omega) | apply And.intro | intro _
theorem m_room {μ : ab_S} {g m : Int32} {b : ab_B} {Q : ab_Q} {n : Nat} {y : Int} (hn : μ.1 11 18 = nI n) (hn2 : n ≤ 100) (l1 : μ.2 65 = 100) (l2 : μ.2 68 = 100) (l3 : μ.2 63 = 4) (hb : ∀ j, j < n → 0 ≤ (μ.1 68 j).toInt ∧ (μ.1 68 j).toInt ≤ 3000) (hy0 : 0 ≤ y) (hy : ¬ (g.toInt < 0 ∨ 3 < g.toInt) → y = pu_sum (fun j => if (μ.1 65 j).toInt = g.toInt then (μ.1 68 j).toInt else 0) n) (hbad : x_room y g m → Q (some (-1)) μ) (hok : ¬ x_room y g m → Q (some (μ.1 63 g.toNatClampNeg)) (ab_up μ 63 g.toNatClampNeg m)) : gd_run 152 0 [some (.inr 11), some (.inl g), some (.inl m), none] [] μ b Q := by
  unfold x_room at hbad hok
  by_cases hg : g.toInt < 0 ∨ 3 < g.toInt
  · simp +decide only [s_152_0, s_152_1, s_152_2, s_152_3, s_152_6, s_152_9, s_152_10, s_152_11, s_152_14, s_152_17, s_152_20, s_152_21, s_152_22, s_152_23, s_152_26, s_152_29, s_152_30, s_152_31, s_152_32, s_152_35, s_152_36, s_152_37, s_152_38, s_152_39, s_152_42, s_152_43, s_152_44, s_152_45, s_152_46, s_124_0, s_124_1, s_124_2, s_124_5, s_124_6, s_124_7, s_124_10, s_124_11, s_124_14, s_124_15, b_res, b_resN, b_nm0, b_nm1, b_nm2, b_ns0, b_ns1, b_l0, b_l1, b_l2, b_l3, b_l4, b_l5, b_l6, Bool.true_and, Bool.and_true, cond_true, b01_0, b01_1, i10, true_and, and_true, true_or, or_true, u_rd, u_2, u_at, reduceIte, eq_self, not_true_eq_false, not_false_eq_true, false_imp_iff, true_imp_iff, forall_const, b_nm3_0, b_nm3_1, b_nm3_2, b_nm3_3, b_nm3_4, b_nm3_5, b_nm3_6, b_nm3_7, b_nm3_8, b_nm3_9, b_nm3_10, b_nm3_11, b_nm3_100, b_nm3_101, b_nm3_102, b_nm3_200, b_nm3_201, b_nm3_202, b_nm3_203, b_nm3_204, b_nm3_205, b_nm3_206, b_nm3_207, b_nm3_208, b_ns2_0, b_ns2_1, b_ns2_2, b_ns2_3, b_ns2_4, b_ns2_5, b_ns2_6, b_ns2_7, b_ns2_8, b_ns2_9, b_ns2_10, b_ns2_11, l3]
    simp only [i_lt, i_le, kI_m2, kI_m1, kI_0, kI_1, kI_2, kI_3, kI_4, kI_5, kI_6, kI_7, kI_8, kI_9, kI_10, kI_11, kI_12, kI_13, kI_14, kI_15, kI_16, kI_19, kI_20, kI_24, kI_29, kI_30, kI_31, kI_32, kI_48, kI_50, kI_57, kI_58, kI_59, kI_60, kI_97, kI_99, kI_100, kI_119, kI_120, kI_122, kI_149, kI_150, kI_199, kI_200, kI_255, kI_1000, kI_3000, kI_3700, kI_5000]
    repeat' first | exact hbad (by omega) | (exfalso; omega) | apply And.intro | intro _
  · have hy := hy hg
    simp +decide only [s_152_0, s_152_1, s_152_2, s_152_3, s_152_6, s_152_9, s_152_10, s_152_11, s_152_14, s_152_17, s_152_20, s_152_21, s_152_22, s_152_23, s_152_26, s_152_29, s_152_30, s_152_31, s_152_32, s_152_35, s_152_36, s_152_37, s_152_38, s_152_39, s_152_42, s_152_43, s_152_44, s_152_45, s_152_46, s_124_0, s_124_1, s_124_2, s_124_5, s_124_6, s_124_7, s_124_10, s_124_11, s_124_14, s_124_15, b_res, b_resN, b_nm0, b_nm1, b_nm2, b_ns0, b_ns1, b_l0, b_l1, b_l2, b_l3, b_l4, b_l5, b_l6, Bool.true_and, Bool.and_true, cond_true, b01_0, b01_1, i10, true_and, and_true, true_or, or_true, u_rd, u_2, u_at, reduceIte, eq_self, not_true_eq_false, not_false_eq_true, false_imp_iff, true_imp_iff, forall_const, b_nm3_0, b_nm3_1, b_nm3_2, b_nm3_3, b_nm3_4, b_nm3_5, b_nm3_6, b_nm3_7, b_nm3_8, b_nm3_9, b_nm3_10, b_nm3_11, b_nm3_100, b_nm3_101, b_nm3_102, b_nm3_200, b_nm3_201, b_nm3_202, b_nm3_203, b_nm3_204, b_nm3_205, b_nm3_206, b_nm3_207, b_nm3_208, b_ns2_0, b_ns2_1, b_ns2_2, b_ns2_3, b_ns2_4, b_ns2_5, b_ns2_6, b_ns2_7, b_ns2_8, b_ns2_9, b_ns2_10, b_ns2_11, l3]
    simp only [i_lt, i_le, kI_m2, kI_m1, kI_0, kI_1, kI_2, kI_3, kI_4, kI_5, kI_6, kI_7, kI_8, kI_9, kI_10, kI_11, kI_12, kI_13, kI_14, kI_15, kI_16, kI_19, kI_20, kI_24, kI_29, kI_30, kI_31, kI_32, kI_48, kI_50, kI_57, kI_58, kI_59, kI_60, kI_97, kI_99, kI_100, kI_119, kI_120, kI_122, kI_149, kI_150, kI_199, kI_200, kI_255, kI_1000, kI_3000, kI_3700, kI_5000]
    refine ⟨fun _ => (by exfalso; omega), fun _ => ⟨fun _ => (by exfalso; omega), fun _ => ?_⟩⟩
    refine ⟨fun _ => hbad (by omega), fun _ => ⟨fun _ => hbad (by omega), fun _ => ?_⟩⟩
    refine m_lies hn hn2 l1 l2 hb (fun v hv => ?_)
    rw [← hy] at hv
    simp +decide only [s_152_0, s_152_1, s_152_2, s_152_3, s_152_6, s_152_9, s_152_10, s_152_11, s_152_14, s_152_17, s_152_20, s_152_21, s_152_22, s_152_23, s_152_26, s_152_29, s_152_30, s_152_31, s_152_32, s_152_35, s_152_36, s_152_37, s_152_38, s_152_39, s_152_42, s_152_43, s_152_44, s_152_45, s_152_46, b_res, b_resN, b_nm0, b_nm1, b_nm2, b_ns0, b_ns1, b_l0, b_l1, b_l2, b_l3, b_l4, b_l5, b_l6, Bool.true_and, Bool.and_true, cond_true, b01_0, b01_1, i10, true_and, and_true, true_or, or_true, u_rd, u_2, u_at, reduceIte, eq_self, not_true_eq_false, not_false_eq_true, false_imp_iff, true_imp_iff, forall_const, b_nm3_0, b_nm3_1, b_nm3_2, b_nm3_3, b_nm3_4, b_nm3_5, b_nm3_6, b_nm3_7, b_nm3_8, b_nm3_9, b_nm3_10, b_nm3_11, b_nm3_100, b_nm3_101, b_nm3_102, b_nm3_200, b_nm3_201, b_nm3_202, b_nm3_203, b_nm3_204, b_nm3_205, b_nm3_206, b_nm3_207, b_nm3_208, b_ns2_0, b_ns2_1, b_ns2_2, b_ns2_3, b_ns2_4, b_ns2_5, b_ns2_6, b_ns2_7, b_ns2_8, b_ns2_9, b_ns2_10, b_ns2_11, l3]
    simp only [i_lt, i_le, kI_m2, kI_m1, kI_0, kI_1, kI_2, kI_3, kI_4, kI_5, kI_6, kI_7, kI_8, kI_9, kI_10, kI_11, kI_12, kI_13, kI_14, kI_15, kI_16, kI_19, kI_20, kI_24, kI_29, kI_30, kI_31, kI_32, kI_48, kI_50, kI_57, kI_58, kI_59, kI_60, kI_97, kI_99, kI_100, kI_119, kI_120, kI_122, kI_149, kI_150, kI_199, kI_200, kI_255, kI_1000, kI_3000, kI_3700, kI_5000, hv]
    repeat' first | exact hbad (by omega) | exact hok (by omega) | exact v_in (by omega) (by omega) | (exfalso; omega) | apply And.intro | intro _
theorem sim_room {T : Nat} {μ : ab_S} (g m : Int32) (h : gd_rel T μ) : lw_sim1 gd_rel 102 152 T (0, 0) [g, m] μ := by
  have h0 := h
  obtain ⟨hT2, hT, hT', L, hL, hl, h1, h2, h3, h4, h5, h6, h7⟩ := h
  obtain ⟨n, hn2, hn, hn', hg4, hj⟩ := id h5
  have hb : ∀ j, j < n → 0 ≤ (μ.1 68 j).toInt ∧ (μ.1 68 j).toInt ≤ 3000 := fun j hjn => by
    obtain ⟨g0, g1, g2, g3, g4, g5, g6, q1, q2, q3, q4, q5, q6, q7, q8, q9, q10⟩ := hj j hjn
    rw [← g4]
    omega
  have hgr : ¬ (g.toInt < 0 ∨ 3 < g.toInt) → g.toNatClampNeg < 4 ∧ ((g.toNatClampNeg : Nat) : Int) = g.toInt := fun q => by
    have : g.toNatClampNeg = g.toInt.toNat := rfl
    omega
  obtain ⟨y, hy0, hyc, hym⟩ : ∃ y : Int, 0 ≤ y ∧ (¬ (g.toInt < 0 ∨ 3 < g.toInt) → (μ.1 33 g.toNatClampNeg).toInt = y) ∧ (¬ (g.toInt < 0 ∨ 3 < g.toInt) → y = pu_sum (fun j => if (μ.1 65 j).toInt = g.toInt then (μ.1 68 j).toInt else 0) n) := by
    by_cases hg : g.toInt < 0 ∨ 3 < g.toInt
    · exact ⟨0, by omega, fun q => absurd hg q, fun q => absurd hg q⟩
    · obtain ⟨q1, q2⟩ := hgr hg
      obtain ⟨r1, r2, r3, r4⟩ := hg4 _ q1
      have e : pu_sum (fun j => if (μ.1 35 j).toInt = ((g.toNatClampNeg : Nat) : Int) then (μ.1 38 j).toInt else 0) n = pu_sum (fun j => if (μ.1 65 j).toInt = g.toInt then (μ.1 68 j).toInt else 0) n := pu_cong (fun j hjn => by
        obtain ⟨g0, g1, g2, g3, g4, -⟩ := hj j hjn
        rw [g1, g4, q2])
      refine ⟨_, ?_, fun _ => rfl, fun _ => by rw [r3, e]⟩
      rw [r3, e]
      exact (pu_le (fun j hjn => by
        have := hb j hjn
        split <;> omega)).1
  show gd_run 102 0 [some (.inr 0), some (.inl g), some (.inl m)] [] μ (0, 0) _
  refine c_room (y := y) (by rw [hl]; rfl) (by rw [hl]; rfl) hyc (fun hbd => ⟨_, rfl, ?_⟩) (fun hbd => ⟨_, rfl, ?_⟩)
  · show gd_run 152 0 [some (.inr 11), some (.inl g), some (.inl m), none] [] μ (0, 0) _
    exact m_room (y := y) hn' hn2 (by rw [hl]; rfl) (by rw [hl]; rfl) (by rw [hl]; rfl) hb hy0 hym (fun _ => ⟨rfl, h0⟩) (fun q => absurd hbd q)
  · show gd_run 152 0 [some (.inr 11), some (.inl g), some (.inl m), none] [] _ (0, 0) _
    unfold x_room at hbd
    obtain ⟨q1, q2⟩ := hgr (by omega)
    obtain ⟨r1, r2, r3, r4⟩ := hg4 _ q1
    refine m_room (n := n) (y := y) ?_ hn2 ?_ ?_ ?_ ?_ hy0 ?_ (fun q => absurd q hbd) (fun _ => ⟨?_, ?_⟩)
    · simp +decide only [b_res, b_resN, b_nm0, b_nm1, b_nm2, b_ns0, b_ns1, b_l0, b_l1, b_l2, b_l3, b_l4, b_l5, b_l6, Bool.true_and, Bool.and_true, cond_true, b01_0, b01_1, i10, true_and, and_true, true_or, or_true, u_rd, u_2, u_at, reduceIte, eq_self, not_true_eq_false, not_false_eq_true, false_imp_iff, true_imp_iff, forall_const, b_nm3_0, b_nm3_1, b_nm3_2, b_nm3_3, b_nm3_4, b_nm3_5, b_nm3_6, b_nm3_7, b_nm3_8, b_nm3_9, b_nm3_10, b_nm3_11, b_nm3_100, b_nm3_101, b_nm3_102, b_nm3_200, b_nm3_201, b_nm3_202, b_nm3_203, b_nm3_204, b_nm3_205, b_nm3_206, b_nm3_207, b_nm3_208, b_ns2_0, b_ns2_1, b_ns2_2, b_ns2_3, b_ns2_4, b_ns2_5, b_ns2_6, b_ns2_7, b_ns2_8, b_ns2_9, b_ns2_10, b_ns2_11, hn']
    · rw [u_2, hl]; rfl
    · rw [u_2, hl]; rfl
    · rw [u_2, hl]; rfl
    · simp +decide only [b_res, b_resN, b_nm0, b_nm1, b_nm2, b_ns0, b_ns1, b_l0, b_l1, b_l2, b_l3, b_l4, b_l5, b_l6, Bool.true_and, Bool.and_true, cond_true, b01_0, b01_1, i10, true_and, and_true, true_or, or_true, u_rd, u_2, u_at, reduceIte, eq_self, not_true_eq_false, not_false_eq_true, false_imp_iff, true_imp_iff, forall_const, b_nm3_0, b_nm3_1, b_nm3_2, b_nm3_3, b_nm3_4, b_nm3_5, b_nm3_6, b_nm3_7, b_nm3_8, b_nm3_9, b_nm3_10, b_nm3_11, b_nm3_100, b_nm3_101, b_nm3_102, b_nm3_200, b_nm3_201, b_nm3_202, b_nm3_203, b_nm3_204, b_nm3_205, b_nm3_206, b_nm3_207, b_nm3_208, b_ns2_0, b_ns2_1, b_ns2_2, b_ns2_3, b_ns2_4, b_ns2_5, b_ns2_6, b_ns2_7, b_ns2_8, b_ns2_9, b_ns2_10, b_ns2_11]
      exact hb
    · simp +decide only [b_res, b_resN, b_nm0, b_nm1, b_nm2, b_ns0, b_ns1, b_l0, b_l1, b_l2, b_l3, b_l4, b_l5, b_l6, Bool.true_and, Bool.and_true, cond_true, b01_0, b01_1, i10, true_and, and_true, true_or, or_true, u_rd, u_2, u_at, reduceIte, eq_self, not_true_eq_false, not_false_eq_true, false_imp_iff, true_imp_iff, forall_const, b_nm3_0, b_nm3_1, b_nm3_2, b_nm3_3, b_nm3_4, b_nm3_5, b_nm3_6, b_nm3_7, b_nm3_8, b_nm3_9, b_nm3_10, b_nm3_11, b_nm3_100, b_nm3_101, b_nm3_102, b_nm3_200, b_nm3_201, b_nm3_202, b_nm3_203, b_nm3_204, b_nm3_205, b_nm3_206, b_nm3_207, b_nm3_208, b_ns2_0, b_ns2_1, b_ns2_2, b_ns2_3, b_ns2_4, b_ns2_5, b_ns2_6, b_ns2_7, b_ns2_8, b_ns2_9, b_ns2_10, b_ns2_11]
      exact hym
    · simp +decide only [b_res, b_resN, b_nm0, b_nm1, b_nm2, b_ns0, b_ns1, b_l0, b_l1, b_l2, b_l3, b_l4, b_l5, b_l6, Bool.true_and, Bool.and_true, cond_true, b01_0, b01_1, i10, true_and, and_true, true_or, or_true, u_rd, u_2, u_at, reduceIte, eq_self, not_true_eq_false, not_false_eq_true, false_imp_iff, true_imp_iff, forall_const, b_nm3_0, b_nm3_1, b_nm3_2, b_nm3_3, b_nm3_4, b_nm3_5, b_nm3_6, b_nm3_7, b_nm3_8, b_nm3_9, b_nm3_10, b_nm3_11, b_nm3_100, b_nm3_101, b_nm3_102, b_nm3_200, b_nm3_201, b_nm3_202, b_nm3_203, b_nm3_204, b_nm3_205, b_nm3_206, b_nm3_207, b_nm3_208, b_ns2_0, b_ns2_1, b_ns2_2, b_ns2_3, b_ns2_4, b_ns2_5, b_ns2_6, b_ns2_7, b_ns2_8, b_ns2_9, b_ns2_10, b_ns2_11, r1]
    · unfold gd_rel
      simp +decide only [b_res, b_resN, b_nm0, b_nm1, b_nm2, b_ns0, b_ns1, b_l0, b_l1, b_l2, b_l3, b_l4, b_l5, b_l6, Bool.true_and, Bool.and_true, cond_true, b01_0, b01_1, i10, true_and, and_true, true_or, or_true, u_rd, u_2, u_at, reduceIte, eq_self, not_true_eq_false, not_false_eq_true, false_imp_iff, true_imp_iff, forall_const, b_nm3_0, b_nm3_1, b_nm3_2, b_nm3_3, b_nm3_4, b_nm3_5, b_nm3_6, b_nm3_7, b_nm3_8, b_nm3_9, b_nm3_10, b_nm3_11, b_nm3_100, b_nm3_101, b_nm3_102, b_nm3_200, b_nm3_201, b_nm3_202, b_nm3_203, b_nm3_204, b_nm3_205, b_nm3_206, b_nm3_207, b_nm3_208, b_ns2_0, b_ns2_1, b_ns2_2, b_ns2_3, b_ns2_4, b_ns2_5, b_ns2_6, b_ns2_7, b_ns2_8, b_ns2_9, b_ns2_10, b_ns2_11]
      refine ⟨hT2, hT, hT', L, hL, hl, h1, h2, h3, h4, ⟨n, hn2, hn, hn', fun i hi => ?_, hj⟩, h6, h7⟩
      by_cases e2 : i = g.toNatClampNeg
      · subst e2
        have hyc := hyc (by omega)
        simp only [u_at, reduceIte]
        exact ⟨trivial, by omega, r3, by omega⟩
      · simp only [u_at, if_neg e2]
        exact hg4 i hi
