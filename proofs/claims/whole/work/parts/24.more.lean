-- end
def x_end (n : Nat) (k : Int32) : Prop := k.toInt < 0 ∨ (n : Int) < k.toInt
theorem c_end {μ : ab_S} {k : Int32} {b : ab_B} {Q : ab_Q} {n : Nat} (hn : μ.1 1 1 = nI n) (hn2 : n ≤ 200) (hbad : x_end n k → Q (some (-1)) μ) (hok : ¬ x_end n k → Q (some k) (ab_up μ 1 1 k)) : gd_run 94 0 [some (.inr 0), some (.inl k)] [] μ b Q := by
  have t1 : (nI n).toInt = (n : Int) := nI_toInt (by omega)
  simp +decide only [s_94_0, s_94_1, s_94_4, s_94_5, s_94_6, s_94_9, s_94_12, s_94_15, s_94_16, s_94_17, s_94_18, s_94_21, s_94_22, s_94_25, s_94_26, s_81_0, s_81_1, s_81_4, s_84_0, s_84_1, s_84_4, s_84_5, s_84_6, s_84_9, s_84_12, s_84_13, s_84_14, s_84_17, b_res, b_resN, b_nm0, b_nm1, b_nm2, b_ns0, b_ns1, b_l0, b_l1, b_l2, b_l3, b_l4, b_l5, b_l6, Bool.true_and, Bool.and_true, cond_true, b01_0, b01_1, i10, true_and, and_true, true_or, or_true, u_rd, u_2, u_at, reduceIte, eq_self, not_true_eq_false, not_false_eq_true, false_imp_iff, true_imp_iff, forall_const, b_nm3_0, b_nm3_1, b_nm3_2, b_nm3_3, b_nm3_4, b_nm3_5, b_nm3_6, b_nm3_7, b_nm3_8, b_nm3_9, b_nm3_10, b_nm3_11, b_nm3_100, b_nm3_101, b_nm3_102, b_nm3_200, b_nm3_201, b_nm3_202, b_nm3_203, b_nm3_204, b_nm3_205, b_nm3_206, b_nm3_207, b_nm3_208, b_ns2_0, b_ns2_1, b_ns2_2, b_ns2_3, b_ns2_4, b_ns2_5, b_ns2_6, b_ns2_7, b_ns2_8, b_ns2_9, b_ns2_10, b_ns2_11, b_ns2_12, b_ns2_13, b_ns2_14, b_ns2_15, b_ns2_16, b_ns2_17, b_ns2_18, b_ns2_19, b_ns2_20, b_ns2_21, b_ns2_22, b_ns2_23, b_ns2_24, b_ns2_25, b_ns2_26, b_ns2_27, b_ns2_28, b_ns2_29, b_ns2_30, b_ns2_31, b_ns2_32, b_ns2_33, b_ns2_34, b_ns2_35, b_ns2_36, b_ns2_37, b_ns2_38, b_ns2_39, b_ns2_40, b_ns2_41, b_ns2_42, b_ns2_43, b_ns2_44, b_ns2_45, b_ns2_50, b_ns2_51, b_ns2_52, b_ns2_53, b_ns2_54, b_ns2_55, b_ns2_56, b_ns2_57, b_ns2_58, b_ns2_59, b_ns2_60, b_ns2_61, b_ns2_62, b_ns2_63, b_ns2_64, b_ns2_65, b_ns2_66, b_ns2_67, b_ns2_68, b_ns2_69, b_ns2_70, b_ns2_71, b_ns2_72, b_ns2_73, b_ns2_74, b_ns2_75, b_ns2_76, b_ns2_77, b_ns2_78, b_ns2_79, b_ns2_80, b_ns2_81, b_ns2_82, b_ns2_83, b_ns2_84, b_ns2_85, b_ns2_86, b_ns2_87, b_ns2_88, hn]
  simp only [i_lt, i_le, kI_m2, kI_m1, kI_0, kI_1, kI_2, kI_3, kI_4, kI_5, kI_6, kI_7, kI_8, kI_9, kI_10, kI_11, kI_12, kI_13, kI_14, kI_15, kI_16, kI_19, kI_20, kI_24, kI_29, kI_30, kI_31, kI_32, kI_48, kI_50, kI_57, kI_58, kI_59, kI_60, kI_97, kI_99, kI_100, kI_119, kI_120, kI_122, kI_149, kI_150, kI_199, kI_200, kI_255, kI_1000, kI_3000, kI_3700, kI_5000, t1]
  unfold x_end at hbad hok
  repeat' first | exact hbad (by omega) | exact hok (by omega) | (exfalso; omega) | apply And.intro | intro _
theorem m_end {μ : ab_S} {k : Int32} {b : ab_B} {Q : ab_Q} {n : Nat} (hn : μ.1 11 2 = nI n) (hn2 : n ≤ 200) (hbad : x_end n k → Q (some (-1)) μ) (hok : ¬ x_end n k → Q (some k) (ab_up μ 11 2 k)) : gd_run 127 0 [some (.inr 11), some (.inl k)] [] μ b Q := by
  have t1 : (nI n).toInt = (n : Int) := nI_toInt (by omega)
  simp +decide only [s_127_0, s_127_1, s_127_4, s_127_5, s_127_6, s_127_9, s_127_12, s_127_13, s_127_14, s_127_15, s_127_16, s_127_19, s_127_20, b_res, b_resN, b_nm0, b_nm1, b_nm2, b_ns0, b_ns1, b_l0, b_l1, b_l2, b_l3, b_l4, b_l5, b_l6, Bool.true_and, Bool.and_true, cond_true, b01_0, b01_1, i10, true_and, and_true, true_or, or_true, u_rd, u_2, u_at, reduceIte, eq_self, not_true_eq_false, not_false_eq_true, false_imp_iff, true_imp_iff, forall_const, b_nm3_0, b_nm3_1, b_nm3_2, b_nm3_3, b_nm3_4, b_nm3_5, b_nm3_6, b_nm3_7, b_nm3_8, b_nm3_9, b_nm3_10, b_nm3_11, b_nm3_100, b_nm3_101, b_nm3_102, b_nm3_200, b_nm3_201, b_nm3_202, b_nm3_203, b_nm3_204, b_nm3_205, b_nm3_206, b_nm3_207, b_nm3_208, b_ns2_0, b_ns2_1, b_ns2_2, b_ns2_3, b_ns2_4, b_ns2_5, b_ns2_6, b_ns2_7, b_ns2_8, b_ns2_9, b_ns2_10, b_ns2_11, b_ns2_12, b_ns2_13, b_ns2_14, b_ns2_15, b_ns2_16, b_ns2_17, b_ns2_18, b_ns2_19, b_ns2_20, b_ns2_21, b_ns2_22, b_ns2_23, b_ns2_24, b_ns2_25, b_ns2_26, b_ns2_27, b_ns2_28, b_ns2_29, b_ns2_30, b_ns2_31, b_ns2_32, b_ns2_33, b_ns2_34, b_ns2_35, b_ns2_36, b_ns2_37, b_ns2_38, b_ns2_39, b_ns2_40, b_ns2_41, b_ns2_42, b_ns2_43, b_ns2_44, b_ns2_45, b_ns2_50, b_ns2_51, b_ns2_52, b_ns2_53, b_ns2_54, b_ns2_55, b_ns2_56, b_ns2_57, b_ns2_58, b_ns2_59, b_ns2_60, b_ns2_61, b_ns2_62, b_ns2_63, b_ns2_64, b_ns2_65, b_ns2_66, b_ns2_67, b_ns2_68, b_ns2_69, b_ns2_70, b_ns2_71, b_ns2_72, b_ns2_73, b_ns2_74, b_ns2_75, b_ns2_76, b_ns2_77, b_ns2_78, b_ns2_79, b_ns2_80, b_ns2_81, b_ns2_82, b_ns2_83, b_ns2_84, b_ns2_85, b_ns2_86, b_ns2_87, b_ns2_88, hn]
  simp only [i_lt, i_le, kI_m2, kI_m1, kI_0, kI_1, kI_2, kI_3, kI_4, kI_5, kI_6, kI_7, kI_8, kI_9, kI_10, kI_11, kI_12, kI_13, kI_14, kI_15, kI_16, kI_19, kI_20, kI_24, kI_29, kI_30, kI_31, kI_32, kI_48, kI_50, kI_57, kI_58, kI_59, kI_60, kI_97, kI_99, kI_100, kI_119, kI_120, kI_122, kI_149, kI_150, kI_199, kI_200, kI_255, kI_1000, kI_3000, kI_3700, kI_5000, t1]
  unfold x_end at hbad hok
  repeat' first | exact hbad (by omega) | exact hok (by omega) | (exfalso; omega) | apply And.intro | intro _
theorem sim_end {T : Nat} {μ : ab_S} (k : Int32) (h : gd_rel T μ) : lw_sim1 gd_rel 94 127 T (0, 0) [k] μ := by
  have h0 := h
  obtain ⟨hT2, hT, hT', L, hL, hl, h1, h2, h3, h4, h5, h6, h7⟩ := h
  obtain ⟨n, hn2, hn, hn', hj⟩ := h1
  show gd_run 94 0 [some (.inr 0), some (.inl k)] [] μ (0, 0) _
  refine c_end hn hn2 (fun hb => ⟨_, rfl, ?_⟩) (fun hb => ⟨_, rfl, ?_⟩)
  · show gd_run 127 0 [some (.inr 11), some (.inl k)] [] μ (0, 0) _
    exact m_end hn' hn2 (fun _ => ⟨rfl, h0⟩) (fun q => absurd hb q)
  · show gd_run 127 0 [some (.inr 11), some (.inl k)] [] _ (0, 0) _
    refine m_end (n := n) ?_ hn2 (fun q => absurd q hb) (fun _ => ⟨rfl, ?_⟩)
    · simp +decide only [b_res, b_resN, b_nm0, b_nm1, b_nm2, b_ns0, b_ns1, b_l0, b_l1, b_l2, b_l3, b_l4, b_l5, b_l6, Bool.true_and, Bool.and_true, cond_true, b01_0, b01_1, i10, true_and, and_true, true_or, or_true, u_rd, u_2, u_at, reduceIte, eq_self, not_true_eq_false, not_false_eq_true, false_imp_iff, true_imp_iff, forall_const, b_nm3_0, b_nm3_1, b_nm3_2, b_nm3_3, b_nm3_4, b_nm3_5, b_nm3_6, b_nm3_7, b_nm3_8, b_nm3_9, b_nm3_10, b_nm3_11, b_nm3_100, b_nm3_101, b_nm3_102, b_nm3_200, b_nm3_201, b_nm3_202, b_nm3_203, b_nm3_204, b_nm3_205, b_nm3_206, b_nm3_207, b_nm3_208, b_ns2_0, b_ns2_1, b_ns2_2, b_ns2_3, b_ns2_4, b_ns2_5, b_ns2_6, b_ns2_7, b_ns2_8, b_ns2_9, b_ns2_10, b_ns2_11, b_ns2_12, b_ns2_13, b_ns2_14, b_ns2_15, b_ns2_16, b_ns2_17, b_ns2_18, b_ns2_19, b_ns2_20, b_ns2_21, b_ns2_22, b_ns2_23, b_ns2_24, b_ns2_25, b_ns2_26, b_ns2_27, b_ns2_28, b_ns2_29, b_ns2_30, b_ns2_31, b_ns2_32, b_ns2_33, b_ns2_34, b_ns2_35, b_ns2_36, b_ns2_37, b_ns2_38, b_ns2_39, b_ns2_40, b_ns2_41, b_ns2_42, b_ns2_43, b_ns2_44, b_ns2_45, b_ns2_50, b_ns2_51, b_ns2_52, b_ns2_53, b_ns2_54, b_ns2_55, b_ns2_56, b_ns2_57, b_ns2_58, b_ns2_59, b_ns2_60, b_ns2_61, b_ns2_62, b_ns2_63, b_ns2_64, b_ns2_65, b_ns2_66, b_ns2_67, b_ns2_68, b_ns2_69, b_ns2_70, b_ns2_71, b_ns2_72, b_ns2_73, b_ns2_74, b_ns2_75, b_ns2_76, b_ns2_77, b_ns2_78, b_ns2_79, b_ns2_80, b_ns2_81, b_ns2_82, b_ns2_83, b_ns2_84, b_ns2_85, b_ns2_86, b_ns2_87, b_ns2_88, hn']
    · unfold x_end at hb
      obtain ⟨m, hm, ek⟩ : ∃ m : Nat, m ≤ n ∧ k = nI m := by
        refine ⟨k.toInt.toNat, by omega, ?_⟩
        rw [i_eq, nI_toInt (by omega)]
        omega
      unfold gd_rel
      simp +decide only [b_res, b_resN, b_nm0, b_nm1, b_nm2, b_ns0, b_ns1, b_l0, b_l1, b_l2, b_l3, b_l4, b_l5, b_l6, Bool.true_and, Bool.and_true, cond_true, b01_0, b01_1, i10, true_and, and_true, true_or, or_true, u_rd, u_2, u_at, reduceIte, eq_self, not_true_eq_false, not_false_eq_true, false_imp_iff, true_imp_iff, forall_const, b_nm3_0, b_nm3_1, b_nm3_2, b_nm3_3, b_nm3_4, b_nm3_5, b_nm3_6, b_nm3_7, b_nm3_8, b_nm3_9, b_nm3_10, b_nm3_11, b_nm3_100, b_nm3_101, b_nm3_102, b_nm3_200, b_nm3_201, b_nm3_202, b_nm3_203, b_nm3_204, b_nm3_205, b_nm3_206, b_nm3_207, b_nm3_208, b_ns2_0, b_ns2_1, b_ns2_2, b_ns2_3, b_ns2_4, b_ns2_5, b_ns2_6, b_ns2_7, b_ns2_8, b_ns2_9, b_ns2_10, b_ns2_11, b_ns2_12, b_ns2_13, b_ns2_14, b_ns2_15, b_ns2_16, b_ns2_17, b_ns2_18, b_ns2_19, b_ns2_20, b_ns2_21, b_ns2_22, b_ns2_23, b_ns2_24, b_ns2_25, b_ns2_26, b_ns2_27, b_ns2_28, b_ns2_29, b_ns2_30, b_ns2_31, b_ns2_32, b_ns2_33, b_ns2_34, b_ns2_35, b_ns2_36, b_ns2_37, b_ns2_38, b_ns2_39, b_ns2_40, b_ns2_41, b_ns2_42, b_ns2_43, b_ns2_44, b_ns2_45, b_ns2_50, b_ns2_51, b_ns2_52, b_ns2_53, b_ns2_54, b_ns2_55, b_ns2_56, b_ns2_57, b_ns2_58, b_ns2_59, b_ns2_60, b_ns2_61, b_ns2_62, b_ns2_63, b_ns2_64, b_ns2_65, b_ns2_66, b_ns2_67, b_ns2_68, b_ns2_69, b_ns2_70, b_ns2_71, b_ns2_72, b_ns2_73, b_ns2_74, b_ns2_75, b_ns2_76, b_ns2_77, b_ns2_78, b_ns2_79, b_ns2_80, b_ns2_81, b_ns2_82, b_ns2_83, b_ns2_84, b_ns2_85, b_ns2_86, b_ns2_87, b_ns2_88]
      refine ⟨hT2, hT, hT', L, hL, hl, ⟨m, by omega, ek, ek, fun j hjm => hj j (by omega)⟩, h2, h3, h4, h5, h6, h7⟩
-- the start
theorem rel_0 : gd_rel 0 gd_mu0 := by
  have z : ∀ c, (c = 32 ∨ c = 63) = False → gd_mu0.1 c = fun _ => 0 := by
    intro c hc
    unfold gd_mu0
    dsimp only
    have h1 : Nat.beq c 32 = false := by
      cases hb : Nat.beq c 32 with
      | false => rfl
      | true => exact absurd (Or.inl (Nat.eq_of_beq_eq_true hb)) (by rw [hc]; exact id)
    have h2 : Nat.beq c 63 = false := by
      cases hb : Nat.beq c 63 with
      | false => rfl
      | true => exact absurd (Or.inr (Nat.eq_of_beq_eq_true hb)) (by rw [hc]; exact id)
    rw [h1, h2]
    rfl
  have e0 : (0 : Int32) = nI 0 := rfl
  refine ⟨by omega, rfl, rfl, 32, ⟨0, by omega, rfl⟩, ?_, ⟨0, by omega, rfl, rfl, fun j hj => absurd hj (by omega)⟩, ⟨0, by omega, rfl, rfl, fun j hj => absurd hj (by omega)⟩, ⟨0, by omega, rfl, rfl, fun j hj => absurd hj (by omega), ⟨fun _ => 0, fun i hi => absurd hi (by omega), fun e he => absurd he (by omega), fun i k _ hk => absurd hk (by omega)⟩⟩, ⟨0, by omega, rfl, rfl, fun j hj => absurd hj (by omega)⟩, ⟨0, by omega, rfl, rfl, ?_, fun j hj => absurd hj (by omega)⟩, ?_, ?_⟩
  · funext c
    unfold gd_ln
    cases hm : gd_mv c with
    | false => rfl
    | true =>
      unfold gd_mv at hm
      rw [Bool.and_eq_true] at hm
      have h1 := Nat.le_of_ble_eq_true hm.1
      have h2 := Nat.le_of_ble_eq_true hm.2
      have h3 : c = 46 ∨ c = 47 ∨ c = 48 ∨ c = 49 := by omega
      rcases h3 with rfl | rfl | rfl | rfl <;> rfl
  · intro g hg
    have h3 : g = 0 ∨ g = 1 ∨ g = 2 ∨ g = 3 := by omega
    rcases h3 with rfl | rfl | rfl | rfl <;> exact ⟨by decide +kernel, by decide +kernel, by decide +kernel, by decide +kernel⟩
  · rw [z 41 (by simp), z 42 (by simp), z 43 (by simp), z 71 (by simp), z 72 (by simp), z 73 (by simp)]
    exact ⟨fun p hp => ⟨rfl, Or.inl rfl, Or.inl rfl, Or.inl rfl, Or.inl rfl, ⟨fun h => Or.inl h, fun h => h.elim id id⟩⟩, fun g hg => rfl⟩
  · refine ⟨0, fun _ => 0, rfl, rfl, by omega, fun nl _ _ => Nat.zero_le _, rfl, rfl, fun m hm => ?_, fun m hm => absurd hm (by omega)⟩
    rw [z 77 (by simp)]
    rfl
