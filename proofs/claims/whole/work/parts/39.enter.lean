-- putting a number into an order
def ins_at (od od' : Nat → Int32) (n p e : Nat) : Prop := (∀ j, j < p → od' j = od j) ∧ od' p = nI e ∧ ∀ j, p ≤ j → j < n → od' (j + 1) = od j
def ins_q (q : Nat → Nat) (p e : Nat) : Nat → Nat := fun j => if j < p then q j else if j = p then e else q (j - 1)
theorem ins_od {od od' : Nat → Int32} {n p e : Nat} {q : Nat → Nat} (hod : ∀ i, i < n → od i = nI (q i)) (h : ins_at od od' n p e) (hp : p ≤ n) : ∀ i, i < n + 1 → od' i = nI (ins_q q p e i) := by
  intro i hi
  obtain ⟨a1, a2, a3⟩ := h
  unfold ins_q
  by_cases h1 : i < p
  · rw [if_pos h1, a1 i h1, hod i (by omega)]
  · rw [if_neg h1]
    by_cases h2 : i = p
    · rw [if_pos h2, h2, a2]
    · rw [if_neg h2]
      have := a3 (i - 1) (by omega) (by omega)
      rw [show i - 1 + 1 = i by omega] at this
      rw [this, hod (i - 1) (by omega)]
theorem ins_srt {lt : Nat → Nat → Prop} {n p e : Nat} {q : Nat → Nat} (hq : ∀ i k, i < k → k < n → lt (q i) (q k)) (h1 : ∀ j, j < p → lt (q j) e) (h2 : ∀ j, p ≤ j → j < n → lt e (q j)) (hp : p ≤ n) : ∀ i k, i < k → k < n + 1 → lt (ins_q q p e i) (ins_q q p e k) := by
  intro i k hik hk
  unfold ins_q
  by_cases a1 : i < p
  · rw [if_pos a1]
    by_cases b1 : k < p
    · rw [if_pos b1]
      exact hq i k hik (by omega)
    · rw [if_neg b1]
      by_cases b2 : k = p
      · rw [if_pos b2]
        exact h1 i a1
      · rw [if_neg b2]
        exact hq i (k - 1) (by omega) (by omega)
  · rw [if_neg a1, if_neg (show ¬ k < p by omega), if_neg (show ¬ k = p by omega)]
    by_cases a2 : i = p
    · rw [if_pos a2]
      exact h2 (k - 1) (by omega) (by omega)
    · rw [if_neg a2]
      exact hq (i - 1) (k - 1) (by omega) (by omega)
theorem ins_mem {n p e : Nat} {q : Nat → Nat} (hp : p ≤ n) (x : Nat) : (∃ i, i < n + 1 ∧ ins_q q p e i = x) ↔ (x = e ∨ ∃ i, i < n ∧ q i = x) := by
  constructor
  · rintro ⟨i, hi, hx⟩
    unfold ins_q at hx
    by_cases h1 : i < p
    · rw [if_pos h1] at hx
      exact Or.inr ⟨i, by omega, hx⟩
    · rw [if_neg h1] at hx
      by_cases h2 : i = p
      · rw [if_pos h2] at hx
        exact Or.inl hx.symm
      · rw [if_neg h2] at hx
        exact Or.inr ⟨i - 1, by omega, hx⟩
  · rintro (rfl | ⟨i, hi, rfl⟩)
    · exact ⟨p, by omega, by unfold ins_q; rw [if_neg (by omega), if_pos rfl]⟩
    · by_cases h1 : i < p
      · exact ⟨i, by omega, by unfold ins_q; rw [if_pos h1]⟩
      · exact ⟨i + 1, by omega, by unfold ins_q; rw [if_neg (by omega), if_neg (by omega), Nat.add_sub_cancel]⟩
theorem c_putInOrder {μ : ab_S} {b : ab_B} {Q : ab_Q} {n : Nat} {q : Nat → Nat} (hn : n < 150) (l1 : μ.2 19 = 150) (l2 : μ.2 24 = 150) (hq : ∀ i, i < n → q i < n ∧ μ.1 24 i = nI (q i)) (hs : ∀ i k, i < k → k < n → (μ.1 19 (q i)).toInt ≤ (μ.1 19 (q k)).toInt) (hQ : ∀ μ' p, ab_fr (fw [24] []) μ μ' → p ≤ n → ins_at (μ.1 24) (μ'.1 24) n p n → (∀ j, j < p → (μ.1 19 (q j)).toInt ≤ (μ.1 19 n).toInt) → (∀ j, p ≤ j → j < n → (μ.1 19 n).toInt < (μ.1 19 (q j)).toInt) → Q none μ') : gd_run 47 0 [some (.inr 4), some (.inl (nI n)), none] [] μ b Q := by
  have e0 : (nI n).toNatClampNeg = n := nI_clamp (by omega)
  have v0 : vp_in (nI n) 150 = True := q_in (by omega) (by omega)
  have key : ∀ p μ', p ≤ n → ab_fr (fw [24] []) μ μ' → (∀ j, j < p → μ'.1 24 j = μ.1 24 j) → (∀ j, p ≤ j → j < n → μ'.1 24 (j + 1) = μ.1 24 j) → (∀ j, p ≤ j → j < n → (μ.1 19 n).toInt < (μ.1 19 (q j)).toInt) → gd_run 47 2 [some (.inr 4), some (.inl (nI n)), some (.inl (nI p))] [] μ' b Q := by
    intro p
    induction p with
    | zero =>
      intro μ' hp hf h1 h2 h3
      have l2' : μ'.2 24 = 150 := by rw [hf.1]; exact l2
      have g0 : (nI 0 ≤ 0) = True := by decide
      have g1 : vp_in (nI 0) 150 = True := q_in (by omega) (by omega)
      have g2 : (nI 0).toNatClampNeg = 0 := by decide
      rw [s_47_2]
      simp +decide only [s_47_0, s_47_1, s_47_3, s_47_6, s_47_7, s_47_10, s_47_11, s_47_14, s_47_15, s_47_16, s_47_17, s_47_18, s_47_19, s_47_20, s_47_23, s_47_24, s_47_25, s_47_28, s_47_29, s_47_32, s_47_33, s_47_34, s_47_37, s_47_38, s_47_39, s_47_40, s_47_41, s_47_42, s_47_45, s_47_48, s_47_49, s_47_52, s_47_53, s_47_54, s_47_55, b_res, b_resN, b_nm0, b_nm1, b_nm2, b_ns0, b_ns1, b_l0, b_l1, b_l2, b_l3, b_l4, b_l5, b_l6, Bool.true_and, Bool.and_true, cond_true, b01_0, b01_1, i10, true_and, and_true, true_or, or_true, u_rd, u_2, u_at, reduceIte, eq_self, not_true_eq_false, not_false_eq_true, false_imp_iff, true_imp_iff, forall_const, b_nm3_0, b_nm3_1, b_nm3_2, b_nm3_3, b_nm3_4, b_nm3_5, b_nm3_6, b_nm3_7, b_nm3_8, b_nm3_9, b_nm3_10, b_nm3_11, b_nm3_100, b_nm3_101, b_nm3_102, b_nm3_200, b_nm3_201, b_nm3_202, b_nm3_203, b_nm3_204, b_nm3_205, b_nm3_206, b_nm3_207, b_nm3_208, b_ns2_0, b_ns2_1, b_ns2_2, b_ns2_3, b_ns2_4, b_ns2_5, b_ns2_6, b_ns2_7, b_ns2_8, b_ns2_9, b_ns2_10, b_ns2_11, g0, g1, g2, l2']
      refine hQ _ 0 (fr_up hf rfl) (by omega) ⟨fun j hj => absurd hj (by omega), ?_, fun j hj hjn => ?_⟩ (fun j hj => absurd hj (by omega)) h3
      · simp +decide only [b_res, b_resN, b_nm0, b_nm1, b_nm2, b_ns0, b_ns1, b_l0, b_l1, b_l2, b_l3, b_l4, b_l5, b_l6, Bool.true_and, Bool.and_true, cond_true, b01_0, b01_1, i10, true_and, and_true, true_or, or_true, u_rd, u_2, u_at, reduceIte, eq_self, not_true_eq_false, not_false_eq_true, false_imp_iff, true_imp_iff, forall_const, b_nm3_0, b_nm3_1, b_nm3_2, b_nm3_3, b_nm3_4, b_nm3_5, b_nm3_6, b_nm3_7, b_nm3_8, b_nm3_9, b_nm3_10, b_nm3_11, b_nm3_100, b_nm3_101, b_nm3_102, b_nm3_200, b_nm3_201, b_nm3_202, b_nm3_203, b_nm3_204, b_nm3_205, b_nm3_206, b_nm3_207, b_nm3_208, b_ns2_0, b_ns2_1, b_ns2_2, b_ns2_3, b_ns2_4, b_ns2_5, b_ns2_6, b_ns2_7, b_ns2_8, b_ns2_9, b_ns2_10, b_ns2_11]
      · simp +decide only [b_res, b_resN, b_nm0, b_nm1, b_nm2, b_ns0, b_ns1, b_l0, b_l1, b_l2, b_l3, b_l4, b_l5, b_l6, Bool.true_and, Bool.and_true, cond_true, b01_0, b01_1, i10, true_and, and_true, true_or, or_true, u_rd, u_2, u_at, reduceIte, eq_self, not_true_eq_false, not_false_eq_true, false_imp_iff, true_imp_iff, forall_const, b_nm3_0, b_nm3_1, b_nm3_2, b_nm3_3, b_nm3_4, b_nm3_5, b_nm3_6, b_nm3_7, b_nm3_8, b_nm3_9, b_nm3_10, b_nm3_11, b_nm3_100, b_nm3_101, b_nm3_102, b_nm3_200, b_nm3_201, b_nm3_202, b_nm3_203, b_nm3_204, b_nm3_205, b_nm3_206, b_nm3_207, b_nm3_208, b_ns2_0, b_ns2_1, b_ns2_2, b_ns2_3, b_ns2_4, b_ns2_5, b_ns2_6, b_ns2_7, b_ns2_8, b_ns2_9, b_ns2_10, b_ns2_11, if_neg (show ¬ j + 1 = 0 by omega)]
        exact h2 j hj hjn
    | succ p ih =>
      intro μ' hp hf h1 h2 h3
      have l1' : μ'.2 19 = 150 := by rw [hf.1]; exact l1
      have l2' : μ'.2 24 = 150 := by rw [hf.1]; exact l2
      have em : μ'.1 19 = μ.1 19 := fr_c hf _ (fun _ => rfl)
      have g0 : (nI (p + 1) ≤ 0) = False := q_nle (a := 0) (by omega) (by omega)
      have g1 : vp_in (nI p) 150 = True := q_in (by omega) (by omega)
      have g2 : (nI p).toNatClampNeg = p := nI_clamp (by omega)
      have g1' : vp_in (nI (p + 1)) 150 = True := q_in (by omega) (by omega)
      have g2' : (nI (p + 1)).toNatClampNeg = p + 1 := nI_clamp (by omega)
      have g3 : μ'.1 24 p = nI (q p) := (h1 p (by omega)).trans (hq p (by omega)).2
      have g4 : q p < n := (hq p (by omega)).1
      have g5 : vp_in (nI (q p)) 150 = True := q_in (by omega) (by omega)
      have g6 : (nI (q p)).toNatClampNeg = q p := nI_clamp (by omega)
      rw [s_47_2]
      simp +decide only [s_47_0, s_47_1, s_47_3, s_47_6, s_47_7, s_47_10, s_47_11, s_47_14, s_47_15, s_47_16, s_47_17, s_47_18, s_47_19, s_47_20, s_47_23, s_47_24, s_47_25, s_47_28, s_47_29, s_47_32, s_47_33, s_47_34, s_47_37, s_47_38, s_47_39, s_47_40, s_47_41, s_47_42, s_47_45, s_47_48, s_47_49, s_47_52, s_47_53, s_47_54, s_47_55, b_res, b_resN, b_nm0, b_nm1, b_nm2, b_ns0, b_ns1, b_l0, b_l1, b_l2, b_l3, b_l4, b_l5, b_l6, Bool.true_and, Bool.and_true, cond_true, b01_0, b01_1, i10, true_and, and_true, true_or, or_true, u_rd, u_2, u_at, reduceIte, eq_self, not_true_eq_false, not_false_eq_true, false_imp_iff, true_imp_iff, forall_const, b_nm3_0, b_nm3_1, b_nm3_2, b_nm3_3, b_nm3_4, b_nm3_5, b_nm3_6, b_nm3_7, b_nm3_8, b_nm3_9, b_nm3_10, b_nm3_11, b_nm3_100, b_nm3_101, b_nm3_102, b_nm3_200, b_nm3_201, b_nm3_202, b_nm3_203, b_nm3_204, b_nm3_205, b_nm3_206, b_nm3_207, b_nm3_208, b_ns2_0, b_ns2_1, b_ns2_2, b_ns2_3, b_ns2_4, b_ns2_5, b_ns2_6, b_ns2_7, b_ns2_8, b_ns2_9, b_ns2_10, b_ns2_11, g0, g1, g2, g1', g2', g3, g5, g6, e0, v0, l1', l2', em, nI_pred, pk_m1]
      refine ⟨fun h => ?_, fun h => ?_⟩
      · rw [i_le] at h
        refine hQ _ (p + 1) (fr_up hf rfl) (by omega) ⟨fun j hj => ?_, ?_, fun j hj hjn => ?_⟩ (fun j hj => ?_) h3
        · simp +decide only [b_res, b_resN, b_nm0, b_nm1, b_nm2, b_ns0, b_ns1, b_l0, b_l1, b_l2, b_l3, b_l4, b_l5, b_l6, Bool.true_and, Bool.and_true, cond_true, b01_0, b01_1, i10, true_and, and_true, true_or, or_true, u_rd, u_2, u_at, reduceIte, eq_self, not_true_eq_false, not_false_eq_true, false_imp_iff, true_imp_iff, forall_const, b_nm3_0, b_nm3_1, b_nm3_2, b_nm3_3, b_nm3_4, b_nm3_5, b_nm3_6, b_nm3_7, b_nm3_8, b_nm3_9, b_nm3_10, b_nm3_11, b_nm3_100, b_nm3_101, b_nm3_102, b_nm3_200, b_nm3_201, b_nm3_202, b_nm3_203, b_nm3_204, b_nm3_205, b_nm3_206, b_nm3_207, b_nm3_208, b_ns2_0, b_ns2_1, b_ns2_2, b_ns2_3, b_ns2_4, b_ns2_5, b_ns2_6, b_ns2_7, b_ns2_8, b_ns2_9, b_ns2_10, b_ns2_11, if_neg (show ¬ j = p + 1 by omega)]
          exact h1 j hj
        · simp +decide only [b_res, b_resN, b_nm0, b_nm1, b_nm2, b_ns0, b_ns1, b_l0, b_l1, b_l2, b_l3, b_l4, b_l5, b_l6, Bool.true_and, Bool.and_true, cond_true, b01_0, b01_1, i10, true_and, and_true, true_or, or_true, u_rd, u_2, u_at, reduceIte, eq_self, not_true_eq_false, not_false_eq_true, false_imp_iff, true_imp_iff, forall_const, b_nm3_0, b_nm3_1, b_nm3_2, b_nm3_3, b_nm3_4, b_nm3_5, b_nm3_6, b_nm3_7, b_nm3_8, b_nm3_9, b_nm3_10, b_nm3_11, b_nm3_100, b_nm3_101, b_nm3_102, b_nm3_200, b_nm3_201, b_nm3_202, b_nm3_203, b_nm3_204, b_nm3_205, b_nm3_206, b_nm3_207, b_nm3_208, b_ns2_0, b_ns2_1, b_ns2_2, b_ns2_3, b_ns2_4, b_ns2_5, b_ns2_6, b_ns2_7, b_ns2_8, b_ns2_9, b_ns2_10, b_ns2_11]
        · simp +decide only [b_res, b_resN, b_nm0, b_nm1, b_nm2, b_ns0, b_ns1, b_l0, b_l1, b_l2, b_l3, b_l4, b_l5, b_l6, Bool.true_and, Bool.and_true, cond_true, b01_0, b01_1, i10, true_and, and_true, true_or, or_true, u_rd, u_2, u_at, reduceIte, eq_self, not_true_eq_false, not_false_eq_true, false_imp_iff, true_imp_iff, forall_const, b_nm3_0, b_nm3_1, b_nm3_2, b_nm3_3, b_nm3_4, b_nm3_5, b_nm3_6, b_nm3_7, b_nm3_8, b_nm3_9, b_nm3_10, b_nm3_11, b_nm3_100, b_nm3_101, b_nm3_102, b_nm3_200, b_nm3_201, b_nm3_202, b_nm3_203, b_nm3_204, b_nm3_205, b_nm3_206, b_nm3_207, b_nm3_208, b_ns2_0, b_ns2_1, b_ns2_2, b_ns2_3, b_ns2_4, b_ns2_5, b_ns2_6, b_ns2_7, b_ns2_8, b_ns2_9, b_ns2_10, b_ns2_11, if_neg (show ¬ j + 1 = p + 1 by omega)]
          exact h2 j hj hjn
        · by_cases hjp : j = p
          · rw [hjp]
            exact h
          · have := hs j p (by omega) (by omega)
            omega
      · rw [i_le] at h
        refine ih _ (by omega) (fr_up hf rfl) (fun j hj => ?_) (fun j hj hjn => ?_) (fun j hj hjn => ?_)
        · simp +decide only [b_res, b_resN, b_nm0, b_nm1, b_nm2, b_ns0, b_ns1, b_l0, b_l1, b_l2, b_l3, b_l4, b_l5, b_l6, Bool.true_and, Bool.and_true, cond_true, b01_0, b01_1, i10, true_and, and_true, true_or, or_true, u_rd, u_2, u_at, reduceIte, eq_self, not_true_eq_false, not_false_eq_true, false_imp_iff, true_imp_iff, forall_const, b_nm3_0, b_nm3_1, b_nm3_2, b_nm3_3, b_nm3_4, b_nm3_5, b_nm3_6, b_nm3_7, b_nm3_8, b_nm3_9, b_nm3_10, b_nm3_11, b_nm3_100, b_nm3_101, b_nm3_102, b_nm3_200, b_nm3_201, b_nm3_202, b_nm3_203, b_nm3_204, b_nm3_205, b_nm3_206, b_nm3_207, b_nm3_208, b_ns2_0, b_ns2_1, b_ns2_2, b_ns2_3, b_ns2_4, b_ns2_5, b_ns2_6, b_ns2_7, b_ns2_8, b_ns2_9, b_ns2_10, b_ns2_11, if_neg (show ¬ j = p + 1 by omega)]
          exact h1 j (by omega)
        · by_cases hjp : j = p
          · subst hjp
            simp +decide only [b_res, b_resN, b_nm0, b_nm1, b_nm2, b_ns0, b_ns1, b_l0, b_l1, b_l2, b_l3, b_l4, b_l5, b_l6, Bool.true_and, Bool.and_true, cond_true, b01_0, b01_1, i10, true_and, and_true, true_or, or_true, u_rd, u_2, u_at, reduceIte, eq_self, not_true_eq_false, not_false_eq_true, false_imp_iff, true_imp_iff, forall_const, b_nm3_0, b_nm3_1, b_nm3_2, b_nm3_3, b_nm3_4, b_nm3_5, b_nm3_6, b_nm3_7, b_nm3_8, b_nm3_9, b_nm3_10, b_nm3_11, b_nm3_100, b_nm3_101, b_nm3_102, b_nm3_200, b_nm3_201, b_nm3_202, b_nm3_203, b_nm3_204, b_nm3_205, b_nm3_206, b_nm3_207, b_nm3_208, b_ns2_0, b_ns2_1, b_ns2_2, b_ns2_3, b_ns2_4, b_ns2_5, b_ns2_6, b_ns2_7, b_ns2_8, b_ns2_9, b_ns2_10, b_ns2_11]
            exact (hq j (by omega)).2.symm
          · simp +decide only [b_res, b_resN, b_nm0, b_nm1, b_nm2, b_ns0, b_ns1, b_l0, b_l1, b_l2, b_l3, b_l4, b_l5, b_l6, Bool.true_and, Bool.and_true, cond_true, b01_0, b01_1, i10, true_and, and_true, true_or, or_true, u_rd, u_2, u_at, reduceIte, eq_self, not_true_eq_false, not_false_eq_true, false_imp_iff, true_imp_iff, forall_const, b_nm3_0, b_nm3_1, b_nm3_2, b_nm3_3, b_nm3_4, b_nm3_5, b_nm3_6, b_nm3_7, b_nm3_8, b_nm3_9, b_nm3_10, b_nm3_11, b_nm3_100, b_nm3_101, b_nm3_102, b_nm3_200, b_nm3_201, b_nm3_202, b_nm3_203, b_nm3_204, b_nm3_205, b_nm3_206, b_nm3_207, b_nm3_208, b_ns2_0, b_ns2_1, b_ns2_2, b_ns2_3, b_ns2_4, b_ns2_5, b_ns2_6, b_ns2_7, b_ns2_8, b_ns2_9, b_ns2_10, b_ns2_11, if_neg (show ¬ j + 1 = p + 1 by omega)]
            exact h2 j (by omega) hjn
        · by_cases hjp : j = p
          · rw [hjp]
            omega
          · exact h3 j (by omega) hjn
  simp +decide only [s_47_0, s_47_1, s_47_3, s_47_6, s_47_7, s_47_10, s_47_11, s_47_14, s_47_15, s_47_16, s_47_17, s_47_18, s_47_19, s_47_20, s_47_23, s_47_24, s_47_25, s_47_28, s_47_29, s_47_32, s_47_33, s_47_34, s_47_37, s_47_38, s_47_39, s_47_40, s_47_41, s_47_42, s_47_45, s_47_48, s_47_49, s_47_52, s_47_53, s_47_54, s_47_55, b_res, b_resN, b_nm0, b_nm1, b_nm2, b_ns0, b_ns1, b_l0, b_l1, b_l2, b_l3, b_l4, b_l5, b_l6, Bool.true_and, Bool.and_true, cond_true, b01_0, b01_1, i10, true_and, and_true, true_or, or_true, u_rd, u_2, u_at, reduceIte, eq_self, not_true_eq_false, not_false_eq_true, false_imp_iff, true_imp_iff, forall_const, b_nm3_0, b_nm3_1, b_nm3_2, b_nm3_3, b_nm3_4, b_nm3_5, b_nm3_6, b_nm3_7, b_nm3_8, b_nm3_9, b_nm3_10, b_nm3_11, b_nm3_100, b_nm3_101, b_nm3_102, b_nm3_200, b_nm3_201, b_nm3_202, b_nm3_203, b_nm3_204, b_nm3_205, b_nm3_206, b_nm3_207, b_nm3_208, b_ns2_0, b_ns2_1, b_ns2_2, b_ns2_3, b_ns2_4, b_ns2_5, b_ns2_6, b_ns2_7, b_ns2_8, b_ns2_9, b_ns2_10, b_ns2_11]
  exact key n μ (by omega) fr_rfl (fun j hj => rfl) (fun j hj hjn => absurd hj (by omega)) (fun j hj hjn => absurd hj (by omega))
-- enter
def x_okE (k a b c : Int32) : Prop := (k.toInt = 0 ∧ 0 ≤ a.toInt ∧ a.toInt < 30 ∧ 0 ≤ b.toInt ∧ b.toInt < 100 ∧ 0 ≤ c.toInt ∧ c.toInt < 4) ∨ (k.toInt = 1 ∧ 0 ≤ a.toInt ∧ a.toInt < 100) ∨ (k.toInt = 2 ∧ 0 ≤ a.toInt ∧ a.toInt < 30 ∧ 0 ≤ b.toInt ∧ b.toInt < 100) ∨ (k.toInt = 3 ∧ 0 ≤ a.toInt ∧ a.toInt < 30)
theorem c_canBe {μ : ab_S} {k a b c : Int32} {bb : ab_B} {Q : ab_Q} (h1 : x_okE k a b c → Q (some 1) μ) (h0 : ¬ x_okE k a b c → Q (some 0) μ) : gd_run 42 0 [some (.inl k), some (.inl a), some (.inl b), some (.inl c)] [] μ bb Q := by
  unfold x_okE at h0 h1
  simp +decide only [s_42_0, s_42_1, s_42_32, s_42_33, s_42_36, s_42_39, s_42_40, s_42_43, s_42_46, s_42_47, s_42_50, s_42_53, s_42_54, s_42_57, s_42_58, s_42_59, s_42_60, s_42_63, s_42_64, s_42_65, s_42_68, s_42_71, s_42_72, s_42_75, s_42_78, s_42_79, s_42_82, s_42_83, s_42_84, s_42_85, s_42_88, s_42_89, s_42_90, s_118_0, s_118_1, s_118_4, s_118_5, s_118_7, s_118_10, s_118_11, s_118_14, s_118_15, s_119_0, s_119_1, s_119_4, s_119_5, s_119_7, s_119_10, s_119_11, s_119_14, s_119_15, s_120_0, s_120_1, s_120_4, s_120_5, s_120_6, s_120_9, s_120_10, s_120_13, s_120_14, b_res, b_resN, b_nm0, b_nm1, b_nm2, b_ns0, b_ns1, b_l0, b_l1, b_l2, b_l3, b_l4, b_l5, b_l6, Bool.true_and, Bool.and_true, cond_true, b01_0, b01_1, i10, true_and, and_true, true_or, or_true, u_rd, u_2, u_at, reduceIte, eq_self, not_true_eq_false, not_false_eq_true, false_imp_iff, true_imp_iff, forall_const, b_nm3_0, b_nm3_1, b_nm3_2, b_nm3_3, b_nm3_4, b_nm3_5, b_nm3_6, b_nm3_7, b_nm3_8, b_nm3_9, b_nm3_10, b_nm3_11, b_nm3_100, b_nm3_101, b_nm3_102, b_nm3_200, b_nm3_201, b_nm3_202, b_nm3_203, b_nm3_204, b_nm3_205, b_nm3_206, b_nm3_207, b_nm3_208, b_ns2_0, b_ns2_1, b_ns2_2, b_ns2_3, b_ns2_4, b_ns2_5, b_ns2_6, b_ns2_7, b_ns2_8, b_ns2_9, b_ns2_10, b_ns2_11]
  simp only [i_lt, i_le, kI_m2, kI_m1, kI_0, kI_1, kI_2, kI_3, kI_4, kI_5, kI_6, kI_7, kI_8, kI_9, kI_10, kI_11, kI_12, kI_13, kI_14, kI_15, kI_16, kI_19, kI_20, kI_24, kI_29, kI_30, kI_31, kI_32, kI_48, kI_50, kI_57, kI_58, kI_59, kI_60, kI_97, kI_99, kI_100, kI_119, kI_120, kI_122, kI_149, kI_150, kI_199, kI_200, kI_255, kI_1000, kI_3000, kI_3700, kI_5000]
  repeat' first | exact h1 (by omega) | exact h0 (by omega) | (exfalso; omega) | apply And.intro | exact trivial | intro _
def x_enter (T n : Nat) (k m a b c : Int32) : Prop := 120 ≤ T ∨ 150 ≤ n ∨ m.toInt < 0 ∨ (T : Int) < m.toInt ∨ ¬ x_okE k a b c
def rl_new (μ : ab_S) (T n m : Nat) (k a b c : Int32) : ab_S := ab_up (ab_up (ab_up (ab_up (ab_up (ab_up μ 18 n k) 19 n (nI m)) 20 n a) 21 n (if k = 1 then a else b)) 22 n c) 23 n (nI T)
def rm_new (μ : ab_S) (T n m : Nat) (k a b c : Int32) : ab_S := ab_up (ab_up (ab_up (ab_up (ab_up (ab_up (ab_up μ 55 n k) 56 n (nI m)) 57 n a) 58 n b) 59 n c) 60 n (nI T)) 11 7 (nI (n + 1))
theorem c_enter_bad {μ : ab_S} {k m a b c : Int32} {bb : ab_B} {Q : ab_Q} {T n : Nat} (hT : μ.1 0 10 = nI T) (hT2 : T ≤ 120) (hn : μ.1 4 7 = nI n) (hn2 : n ≤ 150) (hx : x_enter T n k m a b c) (hQ : Q (some (-1)) μ) : gd_run 97 0 [some (.inr 0), some (.inl k), some (.inl m), some (.inl a), some (.inl b), some (.inl c)] [] μ bb Q := by
  have t1 : (nI T).toInt = (T : Int) := nI_toInt (by omega)
  have t2 : (nI n).toInt = (n : Int) := nI_toInt (by omega)
  unfold x_enter at hx
  simp +decide only [s_97_0, s_97_1, s_97_4, s_97_7, s_97_8, s_97_11, s_97_14, s_97_17, s_97_18, s_97_21, s_97_22, s_97_23, s_97_26, s_97_29, s_97_30, s_97_31, s_97_33, s_97_35, s_97_38, s_97_41, s_97_42, s_97_43, s_97_44, s_97_47, s_97_48, s_97_49, s_97_50, s_97_52, s_97_54, s_97_55, s_97_58, s_97_61, s_115_0, s_115_1, s_115_4, s_115_6, s_115_9, s_115_10, s_115_13, s_115_14, s_44_0, s_44_1, s_44_4, s_44_7, s_44_10, s_44_11, s_44_14, s_44_15, b_res, b_resN, b_nm0, b_nm1, b_nm2, b_ns0, b_ns1, b_l0, b_l1, b_l2, b_l3, b_l4, b_l5, b_l6, Bool.true_and, Bool.and_true, cond_true, b01_0, b01_1, i10, true_and, and_true, true_or, or_true, u_rd, u_2, u_at, reduceIte, eq_self, not_true_eq_false, not_false_eq_true, false_imp_iff, true_imp_iff, forall_const, b_nm3_0, b_nm3_1, b_nm3_2, b_nm3_3, b_nm3_4, b_nm3_5, b_nm3_6, b_nm3_7, b_nm3_8, b_nm3_9, b_nm3_10, b_nm3_11, b_nm3_100, b_nm3_101, b_nm3_102, b_nm3_200, b_nm3_201, b_nm3_202, b_nm3_203, b_nm3_204, b_nm3_205, b_nm3_206, b_nm3_207, b_nm3_208, b_ns2_0, b_ns2_1, b_ns2_2, b_ns2_3, b_ns2_4, b_ns2_5, b_ns2_6, b_ns2_7, b_ns2_8, b_ns2_9, b_ns2_10, b_ns2_11, hT, hn]
  simp only [i_lt, i_le, kI_m2, kI_m1, kI_0, kI_1, kI_2, kI_3, kI_4, kI_5, kI_6, kI_7, kI_8, kI_9, kI_10, kI_11, kI_12, kI_13, kI_14, kI_15, kI_16, kI_19, kI_20, kI_24, kI_29, kI_30, kI_31, kI_32, kI_48, kI_50, kI_57, kI_58, kI_59, kI_60, kI_97, kI_99, kI_100, kI_119, kI_120, kI_122, kI_149, kI_150, kI_199, kI_200, kI_255, kI_1000, kI_3000, kI_3700, kI_5000, t1, t2]
  refine ⟨fun _ => ⟨fun _ => ⟨fun _ => hQ, fun _ => ⟨fun _ => hQ, fun _ => ?_⟩⟩, fun _ => hQ⟩, fun _ => hQ⟩
  refine c_canBe (fun h => ?_) (fun h => ?_)
  · rcases hx with hx | hx | hx | hx | hx
    · omega
    · omega
    · omega
    · omega
    · exact absurd h hx
  · simp +decide only [s_97_0, s_97_1, s_97_4, s_97_7, s_97_8, s_97_11, s_97_14, s_97_17, s_97_18, s_97_21, s_97_22, s_97_23, s_97_26, s_97_29, s_97_30, s_97_31, s_97_33, s_97_35, s_97_38, s_97_41, s_97_42, s_97_43, s_97_44, s_97_47, s_97_48, s_97_49, s_97_50, s_97_52, s_97_54, s_97_55, s_97_58, s_97_61, b_res, b_resN, b_nm0, b_nm1, b_nm2, b_ns0, b_ns1, b_l0, b_l1, b_l2, b_l3, b_l4, b_l5, b_l6, Bool.true_and, Bool.and_true, cond_true, b01_0, b01_1, i10, true_and, and_true, true_or, or_true, u_rd, u_2, u_at, reduceIte, eq_self, not_true_eq_false, not_false_eq_true, false_imp_iff, true_imp_iff, forall_const, b_nm3_0, b_nm3_1, b_nm3_2, b_nm3_3, b_nm3_4, b_nm3_5, b_nm3_6, b_nm3_7, b_nm3_8, b_nm3_9, b_nm3_10, b_nm3_11, b_nm3_100, b_nm3_101, b_nm3_102, b_nm3_200, b_nm3_201, b_nm3_202, b_nm3_203, b_nm3_204, b_nm3_205, b_nm3_206, b_nm3_207, b_nm3_208, b_ns2_0, b_ns2_1, b_ns2_2, b_ns2_3, b_ns2_4, b_ns2_5, b_ns2_6, b_ns2_7, b_ns2_8, b_ns2_9, b_ns2_10, b_ns2_11]
    exact hQ
theorem c_enter_ok {μ : ab_S} {k a b c : Int32} {bb : ab_B} {Q : ab_Q} {T n m : Nat} {q : Nat → Nat} (hT : μ.1 0 10 = nI T) (hT2 : T < 120) (hn : μ.1 4 7 = nI n) (hn2 : n < 150) (hm : m ≤ T) (hx : x_okE k a b c) (l1 : μ.2 18 = 150) (l2 : μ.2 19 = 150) (l3 : μ.2 20 = 150) (l4 : μ.2 21 = 150) (l5 : μ.2 22 = 150) (l6 : μ.2 23 = 150) (l7 : μ.2 24 = 150) (hq : ∀ i, i < n → q i < n ∧ μ.1 24 i = nI (q i)) (hs : ∀ i k, i < k → k < n → (μ.1 19 (q i)).toInt ≤ (μ.1 19 (q k)).toInt) (hQ : ∀ μ' p, ab_fr (fw [24] []) (rl_new μ T n m k a b c) μ' → p ≤ n → ins_at (μ.1 24) (μ'.1 24) n p n → (∀ j, j < p → (μ.1 19 (q j)).toInt ≤ m) → (∀ j, p ≤ j → j < n → (m : Int) < (μ.1 19 (q j)).toInt) → Q (some (nI n)) (ab_up μ' 4 7 (nI (n + 1)))) : gd_run 97 0 [some (.inr 0), some (.inl k), some (.inl (nI m)), some (.inl a), some (.inl b), some (.inl c)] [] μ bb Q := by
  have a1 : (nI T < 120) = True := q_lt (b := 120) (by omega) (by omega)
  have a2 : (nI n < 150) = True := q_lt (b := 150) (by omega) (by omega)
  have a3 : (nI m < 0) = False := q_n0 (by omega)
  have a4 : (nI T < nI m) = False := q_nlt (by omega) (by omega)
  have e2 : (nI n).toNatClampNeg = n := nI_clamp (by omega)
  have b2 : vp_in (nI n) 150 = True := q_in (by omega) (by omega)
  have tm : (nI m).toInt = (m : Int) := nI_toInt (by omega)
  simp +decide only [s_97_0, s_97_1, s_97_4, s_97_7, s_97_8, s_97_11, s_97_14, s_97_17, s_97_18, s_97_21, s_97_22, s_97_23, s_97_26, s_97_29, s_97_30, s_97_31, s_97_33, s_97_35, s_97_38, s_97_41, s_97_42, s_97_43, s_97_44, s_97_47, s_97_48, s_97_49, s_97_50, s_97_52, s_97_54, s_97_55, s_97_58, s_97_61, s_115_0, s_115_1, s_115_4, s_115_6, s_115_9, s_115_10, s_115_13, s_115_14, s_44_0, s_44_1, s_44_4, s_44_7, s_44_10, s_44_11, s_44_14, s_44_15, b_res, b_resN, b_nm0, b_nm1, b_nm2, b_ns0, b_ns1, b_l0, b_l1, b_l2, b_l3, b_l4, b_l5, b_l6, Bool.true_and, Bool.and_true, cond_true, b01_0, b01_1, i10, true_and, and_true, true_or, or_true, u_rd, u_2, u_at, reduceIte, eq_self, not_true_eq_false, not_false_eq_true, false_imp_iff, true_imp_iff, forall_const, b_nm3_0, b_nm3_1, b_nm3_2, b_nm3_3, b_nm3_4, b_nm3_5, b_nm3_6, b_nm3_7, b_nm3_8, b_nm3_9, b_nm3_10, b_nm3_11, b_nm3_100, b_nm3_101, b_nm3_102, b_nm3_200, b_nm3_201, b_nm3_202, b_nm3_203, b_nm3_204, b_nm3_205, b_nm3_206, b_nm3_207, b_nm3_208, b_ns2_0, b_ns2_1, b_ns2_2, b_ns2_3, b_ns2_4, b_ns2_5, b_ns2_6, b_ns2_7, b_ns2_8, b_ns2_9, b_ns2_10, b_ns2_11, hT, hn, a1, a2, a3, a4]
  refine c_canBe (fun _ => ?_) (fun h => absurd hx h)
  have go : ∀ (ci : Int32) (K : ab_Q), ci = (if k = 1 then a else b) → (∀ μ' p, ab_fr (fw [24] []) (rl_new μ T n m k a b c) μ' → p ≤ n → ins_at (μ.1 24) (μ'.1 24) n p n → (∀ j, j < p → (μ.1 19 (q j)).toInt ≤ m) → (∀ j, p ≤ j → j < n → (m : Int) < (μ.1 19 (q j)).toInt) → μ'.1 4 7 = nI n → K none μ') → gd_run 47 0 [some (.inr 4), some (.inl (nI n)), none] [] (ab_up (ab_up (ab_up (ab_up (ab_up (ab_up μ 18 n k) 19 n (nI m)) 20 n a) 21 n ci) 22 n c) 23 n (nI T)) (0, 0) K := by
    intro ci K hci hK
    subst hci
    have ord : (rl_new μ T n m k a b c).1 24 = μ.1 24 := by unfold rl_new; simp +decide only [b_res, b_resN, b_nm0, b_nm1, b_nm2, b_ns0, b_ns1, b_l0, b_l1, b_l2, b_l3, b_l4, b_l5, b_l6, Bool.true_and, Bool.and_true, cond_true, b01_0, b01_1, i10, true_and, and_true, true_or, or_true, u_rd, u_2, u_at, reduceIte, eq_self, not_true_eq_false, not_false_eq_true, false_imp_iff, true_imp_iff, forall_const, b_nm3_0, b_nm3_1, b_nm3_2, b_nm3_3, b_nm3_4, b_nm3_5, b_nm3_6, b_nm3_7, b_nm3_8, b_nm3_9, b_nm3_10, b_nm3_11, b_nm3_100, b_nm3_101, b_nm3_102, b_nm3_200, b_nm3_201, b_nm3_202, b_nm3_203, b_nm3_204, b_nm3_205, b_nm3_206, b_nm3_207, b_nm3_208, b_ns2_0, b_ns2_1, b_ns2_2, b_ns2_3, b_ns2_4, b_ns2_5, b_ns2_6, b_ns2_7, b_ns2_8, b_ns2_9, b_ns2_10, b_ns2_11]
    have mon : (rl_new μ T n m k a b c).1 19 = upd (μ.1 19) n (nI m) := by unfold rl_new; simp +decide only [b_res, b_resN, b_nm0, b_nm1, b_nm2, b_ns0, b_ns1, b_l0, b_l1, b_l2, b_l3, b_l4, b_l5, b_l6, Bool.true_and, Bool.and_true, cond_true, b01_0, b01_1, i10, true_and, and_true, true_or, or_true, u_rd, u_2, u_at, reduceIte, eq_self, not_true_eq_false, not_false_eq_true, false_imp_iff, true_imp_iff, forall_const, b_nm3_0, b_nm3_1, b_nm3_2, b_nm3_3, b_nm3_4, b_nm3_5, b_nm3_6, b_nm3_7, b_nm3_8, b_nm3_9, b_nm3_10, b_nm3_11, b_nm3_100, b_nm3_101, b_nm3_102, b_nm3_200, b_nm3_201, b_nm3_202, b_nm3_203, b_nm3_204, b_nm3_205, b_nm3_206, b_nm3_207, b_nm3_208, b_ns2_0, b_ns2_1, b_ns2_2, b_ns2_3, b_ns2_4, b_ns2_5, b_ns2_6, b_ns2_7, b_ns2_8, b_ns2_9, b_ns2_10, b_ns2_11]
    have mon2 : ∀ i, i < n → (rl_new μ T n m k a b c).1 19 (q i) = μ.1 19 (q i) := fun i hi => by
      have := (hq i hi).1
      rw [mon, u_at, if_neg (by omega)]
    have mon3 : (rl_new μ T n m k a b c).1 19 n = nI m := by rw [mon, u_at, if_pos rfl]
    show gd_run 47 0 [some (.inr 4), some (.inl (nI n)), none] [] (rl_new μ T n m k a b c) (0, 0) _
    refine c_putInOrder (q := q) hn2 l2 l7 (fun i hi => by rw [ord]; exact hq i hi) (fun i k hik hk => by rw [mon2 i (by omega), mon2 k (by omega)]; exact hs i k hik hk) (fun μ' p hf hp hi h1 h2 => ?_)
    have hsz : μ'.1 4 7 = nI n := by
      rw [hf.2 4 7 rfl]
      unfold rl_new
      simp +decide only [b_res, b_resN, b_nm0, b_nm1, b_nm2, b_ns0, b_ns1, b_l0, b_l1, b_l2, b_l3, b_l4, b_l5, b_l6, Bool.true_and, Bool.and_true, cond_true, b01_0, b01_1, i10, true_and, and_true, true_or, or_true, u_rd, u_2, u_at, reduceIte, eq_self, not_true_eq_false, not_false_eq_true, false_imp_iff, true_imp_iff, forall_const, b_nm3_0, b_nm3_1, b_nm3_2, b_nm3_3, b_nm3_4, b_nm3_5, b_nm3_6, b_nm3_7, b_nm3_8, b_nm3_9, b_nm3_10, b_nm3_11, b_nm3_100, b_nm3_101, b_nm3_102, b_nm3_200, b_nm3_201, b_nm3_202, b_nm3_203, b_nm3_204, b_nm3_205, b_nm3_206, b_nm3_207, b_nm3_208, b_ns2_0, b_ns2_1, b_ns2_2, b_ns2_3, b_ns2_4, b_ns2_5, b_ns2_6, b_ns2_7, b_ns2_8, b_ns2_9, b_ns2_10, b_ns2_11, hn]
    rw [ord] at hi
    exact hK μ' p hf hp hi (fun j hj => by have := h1 j hj; rw [mon2 j (by omega), mon3, tm] at this; exact this) (fun j hj hjn => by have := h2 j hj hjn; rw [mon2 j hjn, mon3, tm] at this; exact this) hsz
  simp +decide only [s_97_0, s_97_1, s_97_4, s_97_7, s_97_8, s_97_11, s_97_14, s_97_17, s_97_18, s_97_21, s_97_22, s_97_23, s_97_26, s_97_29, s_97_30, s_97_31, s_97_33, s_97_35, s_97_38, s_97_41, s_97_42, s_97_43, s_97_44, s_97_47, s_97_48, s_97_49, s_97_50, s_97_52, s_97_54, s_97_55, s_97_58, s_97_61, s_46_0, s_46_1, s_46_4, s_46_7, s_46_8, s_46_9, s_46_10, s_46_13, s_46_14, s_46_17, s_46_18, s_46_19, s_46_20, s_46_23, s_46_24, s_46_27, s_46_28, s_46_29, s_46_30, s_46_33, s_46_34, s_46_37, s_46_38, s_46_39, s_46_40, s_46_43, s_46_44, s_46_47, s_46_48, s_46_49, s_46_52, s_46_53, s_46_56, s_46_58, s_46_59, s_46_60, s_46_63, s_46_64, s_46_67, s_46_69, s_46_70, s_46_71, s_46_74, s_46_75, s_46_78, s_46_80, s_46_81, s_46_82, s_46_83, s_46_86, s_46_89, s_46_90, s_46_91, s_46_94, s_46_95, s_46_96, s_46_99, s_46_100, s_46_103, s_46_104, s_46_105, s_44_0, s_44_1, s_44_4, s_44_7, s_44_10, s_44_11, s_44_14, s_44_15, b_res, b_resN, b_nm0, b_nm1, b_nm2, b_ns0, b_ns1, b_l0, b_l1, b_l2, b_l3, b_l4, b_l5, b_l6, Bool.true_and, Bool.and_true, cond_true, b01_0, b01_1, i10, true_and, and_true, true_or, or_true, u_rd, u_2, u_at, reduceIte, eq_self, not_true_eq_false, not_false_eq_true, false_imp_iff, true_imp_iff, forall_const, b_nm3_0, b_nm3_1, b_nm3_2, b_nm3_3, b_nm3_4, b_nm3_5, b_nm3_6, b_nm3_7, b_nm3_8, b_nm3_9, b_nm3_10, b_nm3_11, b_nm3_100, b_nm3_101, b_nm3_102, b_nm3_200, b_nm3_201, b_nm3_202, b_nm3_203, b_nm3_204, b_nm3_205, b_nm3_206, b_nm3_207, b_nm3_208, b_ns2_0, b_ns2_1, b_ns2_2, b_ns2_3, b_ns2_4, b_ns2_5, b_ns2_6, b_ns2_7, b_ns2_8, b_ns2_9, b_ns2_10, b_ns2_11, hT, hn, a2, b2, e2, l1, l2, l3, l4, l5, l6]
  refine ⟨fun h => go _ _ (by rw [if_pos h]) (fun μ' p hf hp hi i1 i2 hsz => ?_), fun h => go _ _ (by rw [if_neg h]) (fun μ' p hf hp hi i1 i2 hsz => ?_)⟩
  · simp +decide only [s_97_0, s_97_1, s_97_4, s_97_7, s_97_8, s_97_11, s_97_14, s_97_17, s_97_18, s_97_21, s_97_22, s_97_23, s_97_26, s_97_29, s_97_30, s_97_31, s_97_33, s_97_35, s_97_38, s_97_41, s_97_42, s_97_43, s_97_44, s_97_47, s_97_48, s_97_49, s_97_50, s_97_52, s_97_54, s_97_55, s_97_58, s_97_61, s_46_0, s_46_1, s_46_4, s_46_7, s_46_8, s_46_9, s_46_10, s_46_13, s_46_14, s_46_17, s_46_18, s_46_19, s_46_20, s_46_23, s_46_24, s_46_27, s_46_28, s_46_29, s_46_30, s_46_33, s_46_34, s_46_37, s_46_38, s_46_39, s_46_40, s_46_43, s_46_44, s_46_47, s_46_48, s_46_49, s_46_52, s_46_53, s_46_56, s_46_58, s_46_59, s_46_60, s_46_63, s_46_64, s_46_67, s_46_69, s_46_70, s_46_71, s_46_74, s_46_75, s_46_78, s_46_80, s_46_81, s_46_82, s_46_83, s_46_86, s_46_89, s_46_90, s_46_91, s_46_94, s_46_95, s_46_96, s_46_99, s_46_100, s_46_103, s_46_104, s_46_105, b_res, b_resN, b_nm0, b_nm1, b_nm2, b_ns0, b_ns1, b_l0, b_l1, b_l2, b_l3, b_l4, b_l5, b_l6, Bool.true_and, Bool.and_true, cond_true, b01_0, b01_1, i10, true_and, and_true, true_or, or_true, u_rd, u_2, u_at, reduceIte, eq_self, not_true_eq_false, not_false_eq_true, false_imp_iff, true_imp_iff, forall_const, b_nm3_0, b_nm3_1, b_nm3_2, b_nm3_3, b_nm3_4, b_nm3_5, b_nm3_6, b_nm3_7, b_nm3_8, b_nm3_9, b_nm3_10, b_nm3_11, b_nm3_100, b_nm3_101, b_nm3_102, b_nm3_200, b_nm3_201, b_nm3_202, b_nm3_203, b_nm3_204, b_nm3_205, b_nm3_206, b_nm3_207, b_nm3_208, b_ns2_0, b_ns2_1, b_ns2_2, b_ns2_3, b_ns2_4, b_ns2_5, b_ns2_6, b_ns2_7, b_ns2_8, b_ns2_9, b_ns2_10, b_ns2_11, hsz, nI_1, nI_pred]
    exact hQ μ' p hf hp hi i1 i2
  · simp +decide only [s_97_0, s_97_1, s_97_4, s_97_7, s_97_8, s_97_11, s_97_14, s_97_17, s_97_18, s_97_21, s_97_22, s_97_23, s_97_26, s_97_29, s_97_30, s_97_31, s_97_33, s_97_35, s_97_38, s_97_41, s_97_42, s_97_43, s_97_44, s_97_47, s_97_48, s_97_49, s_97_50, s_97_52, s_97_54, s_97_55, s_97_58, s_97_61, s_46_0, s_46_1, s_46_4, s_46_7, s_46_8, s_46_9, s_46_10, s_46_13, s_46_14, s_46_17, s_46_18, s_46_19, s_46_20, s_46_23, s_46_24, s_46_27, s_46_28, s_46_29, s_46_30, s_46_33, s_46_34, s_46_37, s_46_38, s_46_39, s_46_40, s_46_43, s_46_44, s_46_47, s_46_48, s_46_49, s_46_52, s_46_53, s_46_56, s_46_58, s_46_59, s_46_60, s_46_63, s_46_64, s_46_67, s_46_69, s_46_70, s_46_71, s_46_74, s_46_75, s_46_78, s_46_80, s_46_81, s_46_82, s_46_83, s_46_86, s_46_89, s_46_90, s_46_91, s_46_94, s_46_95, s_46_96, s_46_99, s_46_100, s_46_103, s_46_104, s_46_105, b_res, b_resN, b_nm0, b_nm1, b_nm2, b_ns0, b_ns1, b_l0, b_l1, b_l2, b_l3, b_l4, b_l5, b_l6, Bool.true_and, Bool.and_true, cond_true, b01_0, b01_1, i10, true_and, and_true, true_or, or_true, u_rd, u_2, u_at, reduceIte, eq_self, not_true_eq_false, not_false_eq_true, false_imp_iff, true_imp_iff, forall_const, b_nm3_0, b_nm3_1, b_nm3_2, b_nm3_3, b_nm3_4, b_nm3_5, b_nm3_6, b_nm3_7, b_nm3_8, b_nm3_9, b_nm3_10, b_nm3_11, b_nm3_100, b_nm3_101, b_nm3_102, b_nm3_200, b_nm3_201, b_nm3_202, b_nm3_203, b_nm3_204, b_nm3_205, b_nm3_206, b_nm3_207, b_nm3_208, b_ns2_0, b_ns2_1, b_ns2_2, b_ns2_3, b_ns2_4, b_ns2_5, b_ns2_6, b_ns2_7, b_ns2_8, b_ns2_9, b_ns2_10, b_ns2_11, hsz, nI_1, nI_pred]
    exact hQ μ' p hf hp hi i1 i2
theorem m_enter_bad {μ : ab_S} {k m a b c : Int32} {bb : ab_B} {Q : ab_Q} {T n : Nat} (hT : μ.1 11 0 = nI T) (hT2 : T ≤ 120) (hn : μ.1 11 7 = nI n) (hn2 : n ≤ 150) (hx : x_enter T n k m a b c) (hQ : Q (some (-1)) μ) : gd_run 146 0 [some (.inr 11), some (.inl k), some (.inl m), some (.inl a), some (.inl b), some (.inl c), none] [] μ bb Q := by
  have t1 : (nI T).toInt = (T : Int) := nI_toInt (by omega)
  have t2 : (nI n).toInt = (n : Int) := nI_toInt (by omega)
  unfold x_enter x_okE at hx
  by_cases hr : 0 ≤ k.toInt ∧ k.toInt ≤ 3
  · obtain ⟨w, hw, rfl⟩ := i_of (n := 3) hr.1 hr.2 (by omega)
    have tw : (nI w).toInt = (w : Int) := nI_toInt (by omega)
    rw [tw] at hx
    have hc : w = 0 ∨ w = 1 ∨ w = 2 ∨ w = 3 := by omega
    rcases hc with rfl | rfl | rfl | rfl
    all_goals simp +decide only [s_146_0, s_146_1, s_146_4, s_146_7, s_146_10, s_146_11, s_146_14, s_146_16, s_146_19, s_146_20, s_146_21, s_146_22, s_146_25, s_146_28, s_146_29, s_146_30, s_146_31, s_146_34, s_146_37, s_146_40, s_146_41, s_146_42, s_146_43, s_146_44, s_146_47, s_146_48, s_146_49, s_146_51, s_146_54, s_146_57, s_146_58, s_146_59, s_146_61, s_146_64, s_146_66, s_146_67, s_146_70, s_146_71, s_146_72, s_146_75, s_146_77, s_146_80, s_146_82, s_146_83, s_146_85, s_146_88, s_146_91, s_146_92, s_146_95, s_146_96, s_146_98, s_146_100, s_146_103, s_146_104, s_146_107, s_146_109, s_146_110, s_146_111, s_146_114, s_146_117, s_146_118, s_124_0, s_124_1, s_124_2, s_124_5, s_124_6, s_124_7, s_124_10, s_124_11, s_124_14, s_124_15, b_res, b_resN, b_nm0, b_nm1, b_nm2, b_ns0, b_ns1, b_l0, b_l1, b_l2, b_l3, b_l4, b_l5, b_l6, Bool.true_and, Bool.and_true, cond_true, b01_0, b01_1, i10, true_and, and_true, true_or, or_true, u_rd, u_2, u_at, reduceIte, eq_self, not_true_eq_false, not_false_eq_true, false_imp_iff, true_imp_iff, forall_const, b_nm3_0, b_nm3_1, b_nm3_2, b_nm3_3, b_nm3_4, b_nm3_5, b_nm3_6, b_nm3_7, b_nm3_8, b_nm3_9, b_nm3_10, b_nm3_11, b_nm3_100, b_nm3_101, b_nm3_102, b_nm3_200, b_nm3_201, b_nm3_202, b_nm3_203, b_nm3_204, b_nm3_205, b_nm3_206, b_nm3_207, b_nm3_208, b_ns2_0, b_ns2_1, b_ns2_2, b_ns2_3, b_ns2_4, b_ns2_5, b_ns2_6, b_ns2_7, b_ns2_8, b_ns2_9, b_ns2_10, b_ns2_11, hT, hn]
    all_goals simp only [i_eq, i_lt, i_le, kI_m2, kI_m1, kI_0, kI_1, kI_2, kI_3, kI_4, kI_5, kI_6, kI_7, kI_8, kI_9, kI_10, kI_11, kI_12, kI_13, kI_14, kI_15, kI_16, kI_19, kI_20, kI_24, kI_29, kI_30, kI_31, kI_32, kI_48, kI_50, kI_57, kI_58, kI_59, kI_60, kI_97, kI_99, kI_100, kI_119, kI_120, kI_122, kI_149, kI_150, kI_199, kI_200, kI_255, kI_1000, kI_3000, kI_3700, kI_5000, t1, t2]
    all_goals repeat' first | exact hQ | (exfalso; omega) | apply And.intro | intro _
  · simp +decide only [s_146_0, s_146_1, s_146_4, s_146_7, s_146_10, s_146_11, s_146_14, s_146_16, s_146_19, s_146_20, s_146_21, s_146_22, s_146_25, s_146_40, s_146_41, s_124_0, s_124_1, s_124_2, s_124_5, s_124_6, s_124_7, s_124_10, s_124_11, s_124_14, s_124_15, b_res, b_resN, b_nm0, b_nm1, b_nm2, b_ns0, b_ns1, b_l0, b_l1, b_l2, b_l3, b_l4, b_l5, b_l6, Bool.true_and, Bool.and_true, cond_true, b01_0, b01_1, i10, true_and, and_true, true_or, or_true, u_rd, u_2, u_at, reduceIte, eq_self, not_true_eq_false, not_false_eq_true, false_imp_iff, true_imp_iff, forall_const, b_nm3_0, b_nm3_1, b_nm3_2, b_nm3_3, b_nm3_4, b_nm3_5, b_nm3_6, b_nm3_7, b_nm3_8, b_nm3_9, b_nm3_10, b_nm3_11, b_nm3_100, b_nm3_101, b_nm3_102, b_nm3_200, b_nm3_201, b_nm3_202, b_nm3_203, b_nm3_204, b_nm3_205, b_nm3_206, b_nm3_207, b_nm3_208, b_ns2_0, b_ns2_1, b_ns2_2, b_ns2_3, b_ns2_4, b_ns2_5, b_ns2_6, b_ns2_7, b_ns2_8, b_ns2_9, b_ns2_10, b_ns2_11, hT, hn]
    simp only [i_eq, i_lt, i_le, kI_m2, kI_m1, kI_0, kI_1, kI_2, kI_3, kI_4, kI_5, kI_6, kI_7, kI_8, kI_9, kI_10, kI_11, kI_12, kI_13, kI_14, kI_15, kI_16, kI_19, kI_20, kI_24, kI_29, kI_30, kI_31, kI_32, kI_48, kI_50, kI_57, kI_58, kI_59, kI_60, kI_97, kI_99, kI_100, kI_119, kI_120, kI_122, kI_149, kI_150, kI_199, kI_200, kI_255, kI_1000, kI_3000, kI_3700, kI_5000, t1, t2]
    repeat' first | exact hQ | (exfalso; omega) | apply And.intro | intro _
theorem m_enter_ok {μ : ab_S} {k a b c : Int32} {bb : ab_B} {Q : ab_Q} {T n m : Nat} (hT : μ.1 11 0 = nI T) (hT2 : T < 120) (hn : μ.1 11 7 = nI n) (hn2 : n < 150) (hm : m ≤ T) (hx : x_okE k a b c) (l1 : μ.2 55 = 150) (l2 : μ.2 56 = 150) (l3 : μ.2 57 = 150) (l4 : μ.2 58 = 150) (l5 : μ.2 59 = 150) (l6 : μ.2 60 = 150) (hQ : Q (some (nI n)) (rm_new μ T n m k a b c)) : gd_run 146 0 [some (.inr 11), some (.inl k), some (.inl (nI m)), some (.inl a), some (.inl b), some (.inl c), none] [] μ bb Q := by
  have a1 : (nI T = 120) = False := q_ne (b := 120) (by omega) (by omega) (by omega)
  have a2 : (nI n = 150) = False := q_ne (b := 150) (by omega) (by omega) (by omega)
  have a3 : (nI m < 0) = False := q_n0 (by omega)
  have a4 : (nI T < nI m) = False := q_nlt (by omega) (by omega)
  have e2 : (nI n).toNatClampNeg = n := nI_clamp (by omega)
  have b2 : vp_in (nI n) 150 = True := q_in (by omega) (by omega)
  unfold x_okE at hx
  obtain ⟨w, hw, rfl⟩ := i_of (x := k) (n := 3) (by omega) (by omega) (by omega)
  have tw : (nI w).toInt = (w : Int) := nI_toInt (by omega)
  rw [tw] at hx
  have p1 : (w = 1 → (a < 0) = False ∧ (99 < a) = False) := fun h => ⟨eq_false (by rw [i_lt, kI_0]; omega), eq_false (by rw [i_lt, kI_99]; omega)⟩
  have p2 : (w ≠ 1 → (a < 0) = False ∧ (29 < a) = False) := fun h => ⟨eq_false (by rw [i_lt, kI_0]; omega), eq_false (by rw [i_lt, kI_29]; omega)⟩
  have p3 : (w = 0 ∨ w = 2 → (b < 0) = False ∧ (99 < b) = False) := fun h => ⟨eq_false (by rw [i_lt, kI_0]; omega), eq_false (by rw [i_lt, kI_99]; omega)⟩
  have p4 : (w = 0 → (c < 0) = False ∧ (3 < c) = False) := fun h => ⟨eq_false (by rw [i_lt, kI_0]; omega), eq_false (by rw [i_lt, kI_3]; omega)⟩
  have hc : w = 0 ∨ w = 1 ∨ w = 2 ∨ w = 3 := by omega
  rcases hc with rfl | rfl | rfl | rfl
  · obtain ⟨p2, p2'⟩ := p2 (by omega)
    obtain ⟨p3, p3'⟩ := p3 (by omega)
    obtain ⟨p4, p4'⟩ := p4 (by omega)
    simp +decide only [s_146_0, s_146_1, s_146_4, s_146_7, s_146_10, s_146_11, s_146_14, s_146_16, s_146_19, s_146_20, s_146_21, s_146_22, s_146_25, s_146_28, s_146_29, s_146_30, s_146_31, s_146_34, s_146_37, s_146_40, s_146_41, s_146_42, s_146_43, s_146_44, s_146_47, s_146_48, s_146_49, s_146_51, s_146_54, s_146_57, s_146_58, s_146_59, s_146_61, s_146_64, s_146_66, s_146_67, s_146_70, s_146_71, s_146_72, s_146_75, s_146_77, s_146_80, s_146_82, s_146_83, s_146_85, s_146_88, s_146_91, s_146_92, s_146_95, s_146_96, s_146_98, s_146_100, s_146_103, s_146_104, s_146_107, s_146_109, s_146_110, s_146_111, s_146_114, s_146_117, s_146_118, s_146_119, s_146_120, s_146_123, s_146_124, s_146_127, s_146_128, s_146_129, s_146_130, s_146_133, s_146_134, s_146_137, s_146_138, s_146_139, s_146_140, s_146_143, s_146_144, s_146_147, s_146_148, s_146_149, s_146_150, s_146_153, s_146_154, s_146_157, s_146_159, s_146_160, s_146_161, s_146_164, s_146_165, s_146_168, s_146_170, s_146_171, s_146_172, s_146_175, s_146_176, s_146_179, s_146_180, s_146_183, s_146_184, s_146_185, s_146_186, s_146_189, s_146_190, s_146_191, s_146_194, s_146_195, s_146_198, s_146_199, s_146_200, s_124_0, s_124_1, s_124_2, s_124_5, s_124_6, s_124_7, s_124_10, s_124_11, s_124_14, s_124_15, b_res, b_resN, b_nm0, b_nm1, b_nm2, b_ns0, b_ns1, b_l0, b_l1, b_l2, b_l3, b_l4, b_l5, b_l6, Bool.true_and, Bool.and_true, cond_true, b01_0, b01_1, i10, true_and, and_true, true_or, or_true, u_rd, u_2, u_at, reduceIte, eq_self, not_true_eq_false, not_false_eq_true, false_imp_iff, true_imp_iff, forall_const, b_nm3_0, b_nm3_1, b_nm3_2, b_nm3_3, b_nm3_4, b_nm3_5, b_nm3_6, b_nm3_7, b_nm3_8, b_nm3_9, b_nm3_10, b_nm3_11, b_nm3_100, b_nm3_101, b_nm3_102, b_nm3_200, b_nm3_201, b_nm3_202, b_nm3_203, b_nm3_204, b_nm3_205, b_nm3_206, b_nm3_207, b_nm3_208, b_ns2_0, b_ns2_1, b_ns2_2, b_ns2_3, b_ns2_4, b_ns2_5, b_ns2_6, b_ns2_7, b_ns2_8, b_ns2_9, b_ns2_10, b_ns2_11, hT, hn, a1, a2, a3, a4, e2, b2, l1, l2, l3, l4, l5, l6, nI_1, nI_pred, p2, p2', p3, p3', p4, p4']
    exact hQ
  · obtain ⟨p1, p1'⟩ := p1 (by omega)
    simp +decide only [s_146_0, s_146_1, s_146_4, s_146_7, s_146_10, s_146_11, s_146_14, s_146_16, s_146_19, s_146_20, s_146_21, s_146_22, s_146_25, s_146_28, s_146_29, s_146_30, s_146_31, s_146_34, s_146_37, s_146_40, s_146_41, s_146_42, s_146_43, s_146_44, s_146_47, s_146_48, s_146_49, s_146_51, s_146_54, s_146_57, s_146_58, s_146_59, s_146_61, s_146_64, s_146_66, s_146_67, s_146_70, s_146_71, s_146_72, s_146_75, s_146_77, s_146_80, s_146_82, s_146_83, s_146_85, s_146_88, s_146_91, s_146_92, s_146_95, s_146_96, s_146_98, s_146_100, s_146_103, s_146_104, s_146_107, s_146_109, s_146_110, s_146_111, s_146_114, s_146_117, s_146_118, s_146_119, s_146_120, s_146_123, s_146_124, s_146_127, s_146_128, s_146_129, s_146_130, s_146_133, s_146_134, s_146_137, s_146_138, s_146_139, s_146_140, s_146_143, s_146_144, s_146_147, s_146_148, s_146_149, s_146_150, s_146_153, s_146_154, s_146_157, s_146_159, s_146_160, s_146_161, s_146_164, s_146_165, s_146_168, s_146_170, s_146_171, s_146_172, s_146_175, s_146_176, s_146_179, s_146_180, s_146_183, s_146_184, s_146_185, s_146_186, s_146_189, s_146_190, s_146_191, s_146_194, s_146_195, s_146_198, s_146_199, s_146_200, s_124_0, s_124_1, s_124_2, s_124_5, s_124_6, s_124_7, s_124_10, s_124_11, s_124_14, s_124_15, b_res, b_resN, b_nm0, b_nm1, b_nm2, b_ns0, b_ns1, b_l0, b_l1, b_l2, b_l3, b_l4, b_l5, b_l6, Bool.true_and, Bool.and_true, cond_true, b01_0, b01_1, i10, true_and, and_true, true_or, or_true, u_rd, u_2, u_at, reduceIte, eq_self, not_true_eq_false, not_false_eq_true, false_imp_iff, true_imp_iff, forall_const, b_nm3_0, b_nm3_1, b_nm3_2, b_nm3_3, b_nm3_4, b_nm3_5, b_nm3_6, b_nm3_7, b_nm3_8, b_nm3_9, b_nm3_10, b_nm3_11, b_nm3_100, b_nm3_101, b_nm3_102, b_nm3_200, b_nm3_201, b_nm3_202, b_nm3_203, b_nm3_204, b_nm3_205, b_nm3_206, b_nm3_207, b_nm3_208, b_ns2_0, b_ns2_1, b_ns2_2, b_ns2_3, b_ns2_4, b_ns2_5, b_ns2_6, b_ns2_7, b_ns2_8, b_ns2_9, b_ns2_10, b_ns2_11, hT, hn, a1, a2, a3, a4, e2, b2, l1, l2, l3, l4, l5, l6, nI_1, nI_pred, p1, p1']
    exact hQ
  · obtain ⟨p2, p2'⟩ := p2 (by omega)
    obtain ⟨p3, p3'⟩ := p3 (by omega)
    simp +decide only [s_146_0, s_146_1, s_146_4, s_146_7, s_146_10, s_146_11, s_146_14, s_146_16, s_146_19, s_146_20, s_146_21, s_146_22, s_146_25, s_146_28, s_146_29, s_146_30, s_146_31, s_146_34, s_146_37, s_146_40, s_146_41, s_146_42, s_146_43, s_146_44, s_146_47, s_146_48, s_146_49, s_146_51, s_146_54, s_146_57, s_146_58, s_146_59, s_146_61, s_146_64, s_146_66, s_146_67, s_146_70, s_146_71, s_146_72, s_146_75, s_146_77, s_146_80, s_146_82, s_146_83, s_146_85, s_146_88, s_146_91, s_146_92, s_146_95, s_146_96, s_146_98, s_146_100, s_146_103, s_146_104, s_146_107, s_146_109, s_146_110, s_146_111, s_146_114, s_146_117, s_146_118, s_146_119, s_146_120, s_146_123, s_146_124, s_146_127, s_146_128, s_146_129, s_146_130, s_146_133, s_146_134, s_146_137, s_146_138, s_146_139, s_146_140, s_146_143, s_146_144, s_146_147, s_146_148, s_146_149, s_146_150, s_146_153, s_146_154, s_146_157, s_146_159, s_146_160, s_146_161, s_146_164, s_146_165, s_146_168, s_146_170, s_146_171, s_146_172, s_146_175, s_146_176, s_146_179, s_146_180, s_146_183, s_146_184, s_146_185, s_146_186, s_146_189, s_146_190, s_146_191, s_146_194, s_146_195, s_146_198, s_146_199, s_146_200, s_124_0, s_124_1, s_124_2, s_124_5, s_124_6, s_124_7, s_124_10, s_124_11, s_124_14, s_124_15, b_res, b_resN, b_nm0, b_nm1, b_nm2, b_ns0, b_ns1, b_l0, b_l1, b_l2, b_l3, b_l4, b_l5, b_l6, Bool.true_and, Bool.and_true, cond_true, b01_0, b01_1, i10, true_and, and_true, true_or, or_true, u_rd, u_2, u_at, reduceIte, eq_self, not_true_eq_false, not_false_eq_true, false_imp_iff, true_imp_iff, forall_const, b_nm3_0, b_nm3_1, b_nm3_2, b_nm3_3, b_nm3_4, b_nm3_5, b_nm3_6, b_nm3_7, b_nm3_8, b_nm3_9, b_nm3_10, b_nm3_11, b_nm3_100, b_nm3_101, b_nm3_102, b_nm3_200, b_nm3_201, b_nm3_202, b_nm3_203, b_nm3_204, b_nm3_205, b_nm3_206, b_nm3_207, b_nm3_208, b_ns2_0, b_ns2_1, b_ns2_2, b_ns2_3, b_ns2_4, b_ns2_5, b_ns2_6, b_ns2_7, b_ns2_8, b_ns2_9, b_ns2_10, b_ns2_11, hT, hn, a1, a2, a3, a4, e2, b2, l1, l2, l3, l4, l5, l6, nI_1, nI_pred, p2, p2', p3, p3']
    exact hQ
  · obtain ⟨p2, p2'⟩ := p2 (by omega)
    simp +decide only [s_146_0, s_146_1, s_146_4, s_146_7, s_146_10, s_146_11, s_146_14, s_146_16, s_146_19, s_146_20, s_146_21, s_146_22, s_146_25, s_146_28, s_146_29, s_146_30, s_146_31, s_146_34, s_146_37, s_146_40, s_146_41, s_146_42, s_146_43, s_146_44, s_146_47, s_146_48, s_146_49, s_146_51, s_146_54, s_146_57, s_146_58, s_146_59, s_146_61, s_146_64, s_146_66, s_146_67, s_146_70, s_146_71, s_146_72, s_146_75, s_146_77, s_146_80, s_146_82, s_146_83, s_146_85, s_146_88, s_146_91, s_146_92, s_146_95, s_146_96, s_146_98, s_146_100, s_146_103, s_146_104, s_146_107, s_146_109, s_146_110, s_146_111, s_146_114, s_146_117, s_146_118, s_146_119, s_146_120, s_146_123, s_146_124, s_146_127, s_146_128, s_146_129, s_146_130, s_146_133, s_146_134, s_146_137, s_146_138, s_146_139, s_146_140, s_146_143, s_146_144, s_146_147, s_146_148, s_146_149, s_146_150, s_146_153, s_146_154, s_146_157, s_146_159, s_146_160, s_146_161, s_146_164, s_146_165, s_146_168, s_146_170, s_146_171, s_146_172, s_146_175, s_146_176, s_146_179, s_146_180, s_146_183, s_146_184, s_146_185, s_146_186, s_146_189, s_146_190, s_146_191, s_146_194, s_146_195, s_146_198, s_146_199, s_146_200, s_124_0, s_124_1, s_124_2, s_124_5, s_124_6, s_124_7, s_124_10, s_124_11, s_124_14, s_124_15, b_res, b_resN, b_nm0, b_nm1, b_nm2, b_ns0, b_ns1, b_l0, b_l1, b_l2, b_l3, b_l4, b_l5, b_l6, Bool.true_and, Bool.and_true, cond_true, b01_0, b01_1, i10, true_and, and_true, true_or, or_true, u_rd, u_2, u_at, reduceIte, eq_self, not_true_eq_false, not_false_eq_true, false_imp_iff, true_imp_iff, forall_const, b_nm3_0, b_nm3_1, b_nm3_2, b_nm3_3, b_nm3_4, b_nm3_5, b_nm3_6, b_nm3_7, b_nm3_8, b_nm3_9, b_nm3_10, b_nm3_11, b_nm3_100, b_nm3_101, b_nm3_102, b_nm3_200, b_nm3_201, b_nm3_202, b_nm3_203, b_nm3_204, b_nm3_205, b_nm3_206, b_nm3_207, b_nm3_208, b_ns2_0, b_ns2_1, b_ns2_2, b_ns2_3, b_ns2_4, b_ns2_5, b_ns2_6, b_ns2_7, b_ns2_8, b_ns2_9, b_ns2_10, b_ns2_11, hT, hn, a1, a2, a3, a4, e2, b2, l1, l2, l3, l4, l5, l6, nI_1, nI_pred, p2, p2']
    exact hQ
theorem sim_enter {T : Nat} {μ : ab_S} (k m a b c : Int32) (h : gd_rel T μ) : lw_sim1 gd_rel 97 146 T (0, 0) [k, m, a, b, c] μ := by
  have h0 := h
  obtain ⟨hT2, hT, hT', L, hL, hl, h1, h2, h3, h4, h5, h6, h7⟩ := h
  obtain ⟨n, hn2, hn, hn', hj, q, hq, hq2, hq3⟩ := h3
  show gd_run 97 0 [some (.inr 0), some (.inl k), some (.inl m), some (.inl a), some (.inl b), some (.inl c)] [] μ (0, 0) _
  by_cases hx : x_enter T n k m a b c
  · exact c_enter_bad hT hT2 hn hn2 hx ⟨_, rfl, m_enter_bad hT' hT2 hn' hn2 hx ⟨rfl, h0⟩⟩
  · unfold x_enter at hx
    have hx2 : x_okE k a b c := by
      by_cases hh : x_okE k a b c
      · exact hh
      · exact absurd (Or.inr (Or.inr (Or.inr (Or.inr hh)))) hx
    have hx3 : ¬ (120 ≤ T ∨ 150 ≤ n ∨ m.toInt < 0 ∨ (T : Int) < m.toInt) := fun hh => hx (by
      rcases hh with hh | hh | hh | hh
      · exact Or.inl hh
      · exact Or.inr (Or.inl hh)
      · exact Or.inr (Or.inr (Or.inl hh))
      · exact Or.inr (Or.inr (Or.inr (Or.inl hh))))
    obtain ⟨m, hm, rfl⟩ := i_of (x := m) (n := 119) (by omega) (by omega) (by omega)
    have tm : (nI m).toInt = (m : Int) := nI_toInt (by omega)
    have tT : (nI T).toInt = (T : Int) := nI_toInt (by omega)
    rw [tm] at hx3
    refine c_enter_ok (T := T) (n := n) (m := m) (q := q) hT (by omega) hn (by omega) (by omega) hx2 (by rw [hl]; rfl) (by rw [hl]; rfl) (by rw [hl]; rfl) (by rw [hl]; rfl) (by rw [hl]; rfl) (by rw [hl]; rfl) (by rw [hl]; rfl) hq (fun i k hik hk => ?_) (fun μ' p hf hp hi i1 i2 => ⟨_, rfl, ?_⟩)
    · rcases hq3 i k hik hk with hh | ⟨hh, _⟩ <;> omega
    · have f0 : ab_fr (fw [18, 19, 20, 21, 22, 23, 24] [(4, 7)]) μ (ab_up μ' 4 7 (nI (n + 1))) := by
        refine fr_up (fr_tr (μ1 := rl_new μ T n m k a b c) ?_ (fr_sub hf (by decide) (by decide))) rfl
        unfold rl_new
        exact fr_up (fr_up (fr_up (fr_up (fr_up (fr_up fr_rfl rfl) rfl) rfl) rfl) rfl) rfl
      have c1 : (ab_up μ' 4 7 (nI (n + 1))).1 24 = μ'.1 24 := by simp +decide only [b_res, b_resN, b_nm0, b_nm1, b_nm2, b_ns0, b_ns1, b_l0, b_l1, b_l2, b_l3, b_l4, b_l5, b_l6, Bool.true_and, Bool.and_true, cond_true, b01_0, b01_1, i10, true_and, and_true, true_or, or_true, u_rd, u_2, u_at, reduceIte, eq_self, not_true_eq_false, not_false_eq_true, false_imp_iff, true_imp_iff, forall_const, b_nm3_0, b_nm3_1, b_nm3_2, b_nm3_3, b_nm3_4, b_nm3_5, b_nm3_6, b_nm3_7, b_nm3_8, b_nm3_9, b_nm3_10, b_nm3_11, b_nm3_100, b_nm3_101, b_nm3_102, b_nm3_200, b_nm3_201, b_nm3_202, b_nm3_203, b_nm3_204, b_nm3_205, b_nm3_206, b_nm3_207, b_nm3_208, b_ns2_0, b_ns2_1, b_ns2_2, b_ns2_3, b_ns2_4, b_ns2_5, b_ns2_6, b_ns2_7, b_ns2_8, b_ns2_9, b_ns2_10, b_ns2_11]
      have cx : ∀ d, d = 18 ∨ d = 19 ∨ d = 20 ∨ d = 21 ∨ d = 22 ∨ d = 23 → (ab_up μ' 4 7 (nI (n + 1))).1 d = (rl_new μ T n m k a b c).1 d := by
        intro d hd
        rcases hd with rfl | rfl | rfl | rfl | rfl | rfl <;> simp +decide only [b_res, b_resN, b_nm0, b_nm1, b_nm2, b_ns0, b_ns1, b_l0, b_l1, b_l2, b_l3, b_l4, b_l5, b_l6, Bool.true_and, Bool.and_true, cond_true, b01_0, b01_1, i10, true_and, and_true, true_or, or_true, u_rd, u_2, u_at, reduceIte, eq_self, not_true_eq_false, not_false_eq_true, false_imp_iff, true_imp_iff, forall_const, b_nm3_0, b_nm3_1, b_nm3_2, b_nm3_3, b_nm3_4, b_nm3_5, b_nm3_6, b_nm3_7, b_nm3_8, b_nm3_9, b_nm3_10, b_nm3_11, b_nm3_100, b_nm3_101, b_nm3_102, b_nm3_200, b_nm3_201, b_nm3_202, b_nm3_203, b_nm3_204, b_nm3_205, b_nm3_206, b_nm3_207, b_nm3_208, b_ns2_0, b_ns2_1, b_ns2_2, b_ns2_3, b_ns2_4, b_ns2_5, b_ns2_6, b_ns2_7, b_ns2_8, b_ns2_9, b_ns2_10, b_ns2_11] <;> exact fr_c hf _ (fun _ => rfl)
      have c2 := cx 18 (by decide)
      have c3 := cx 19 (by decide)
      have c4 := cx 20 (by decide)
      have c5 := cx 21 (by decide)
      have c6 := cx 22 (by decide)
      have c7 := cx 23 (by decide)
      have c8 : (ab_up μ' 4 7 (nI (n + 1))).1 4 7 = nI (n + 1) := by simp +decide only [b_res, b_resN, b_nm0, b_nm1, b_nm2, b_ns0, b_ns1, b_l0, b_l1, b_l2, b_l3, b_l4, b_l5, b_l6, Bool.true_and, Bool.and_true, cond_true, b01_0, b01_1, i10, true_and, and_true, true_or, or_true, u_rd, u_2, u_at, reduceIte, eq_self, not_true_eq_false, not_false_eq_true, false_imp_iff, true_imp_iff, forall_const, b_nm3_0, b_nm3_1, b_nm3_2, b_nm3_3, b_nm3_4, b_nm3_5, b_nm3_6, b_nm3_7, b_nm3_8, b_nm3_9, b_nm3_10, b_nm3_11, b_nm3_100, b_nm3_101, b_nm3_102, b_nm3_200, b_nm3_201, b_nm3_202, b_nm3_203, b_nm3_204, b_nm3_205, b_nm3_206, b_nm3_207, b_nm3_208, b_ns2_0, b_ns2_1, b_ns2_2, b_ns2_3, b_ns2_4, b_ns2_5, b_ns2_6, b_ns2_7, b_ns2_8, b_ns2_9, b_ns2_10, b_ns2_11]
      rw [← c1] at hi
      generalize ab_up μ' 4 7 (nI (n + 1)) = ν at f0 hi c2 c3 c4 c5 c6 c7 c8 ⊢
      have hTν : ν.1 11 0 = nI T := (f0.2 11 0 rfl).trans hT'
      have hnν : ν.1 11 7 = nI n := (f0.2 11 7 rfl).trans hn'
      have hlν : ν.2 = gd_ln L := f0.1.trans hl
      show gd_run 146 0 [some (.inr 11), some (.inl k), some (.inl (nI m)), some (.inl a), some (.inl b), some (.inl c), none] [] ν (0, 0) _
      refine m_enter_ok (T := T) (n := n) (m := m) hTν (by omega) hnν (by omega) (by omega) hx2 (by rw [hlν]; rfl) (by rw [hlν]; rfl) (by rw [hlν]; rfl) (by rw [hlν]; rfl) (by rw [hlν]; rfl) (by rw [hlν]; rfl) ⟨rfl, ?_⟩
      have fz : ab_fr (fw [18, 19, 20, 21, 22, 23, 24, 55, 56, 57, 58, 59, 60] [(4, 7), (11, 7)]) μ (rm_new ν T n m k a b c) := by
        unfold rm_new
        exact fr_up (fr_up (fr_up (fr_up (fr_up (fr_up (fr_up (fr_sub f0 (by decide) (by decide)) rfl) rfl) rfl) rfl) rfl) rfl) rfl
      refine ⟨hT2, (fz.2 0 10 rfl).trans hT, (fz.2 11 0 rfl).trans hT', L, hL, fz.1.trans hl, (by rw [fz.2 1 1 rfl, fr_c fz 12 (fun _ => rfl), fz.2 11 2 rfl, fr_c fz 51 (fun _ => rfl)]; exact h1), (by rw [fz.2 3 3 rfl, fr_c fz 15 (fun _ => rfl), fr_c fz 16 (fun _ => rfl), fr_c fz 17 (fun _ => rfl), fz.2 11 3 rfl, fr_c fz 52 (fun _ => rfl), fr_c fz 53 (fun _ => rfl), fr_c fz 54 (fun _ => rfl)]; exact h2), ?_, (by rw [fz.2 6 2 rfl, fr_c fz 30 (fun _ => rfl), fr_c fz 31 (fun _ => rfl), fz.2 11 14 rfl, fr_c fz 61 (fun _ => rfl), fr_c fz 62 (fun _ => rfl)]; exact h4), (by rw [fz.2 7 9 rfl, fr_c fz 32 (fun _ => rfl), fr_c fz 33 (fun _ => rfl), fr_c fz 34 (fun _ => rfl), fr_c fz 35 (fun _ => rfl), fr_c fz 36 (fun _ => rfl), fr_c fz 37 (fun _ => rfl), fr_c fz 38 (fun _ => rfl), fr_c fz 39 (fun _ => rfl), fr_c fz 40 (fun _ => rfl), fz.2 11 18 rfl, fr_c fz 63 (fun _ => rfl), fr_c fz 64 (fun _ => rfl), fr_c fz 65 (fun _ => rfl), fr_c fz 66 (fun _ => rfl), fr_c fz 67 (fun _ => rfl), fr_c fz 68 (fun _ => rfl), fr_c fz 69 (fun _ => rfl), fr_c fz 70 (fun _ => rfl)]; exact h5), (by rw [fr_c fz 41 (fun _ => rfl), fr_c fz 42 (fun _ => rfl), fr_c fz 43 (fun _ => rfl), fr_c fz 71 (fun _ => rfl), fr_c fz 72 (fun _ => rfl), fr_c fz 73 (fun _ => rfl)]; exact h6), (by rw [fz.2 7 9 rfl, fr_c fz 38 (fun _ => rfl), fz.2 9 6 rfl, fr_c fz 44 (fun _ => rfl), fr_c fz 45 (fun _ => rfl), fr_c fz 46 (fun _ => rfl), fr_c fz 47 (fun _ => rfl), fr_c fz 48 (fun _ => rfl), fr_c fz 49 (fun _ => rfl), fz.2 11 32 rfl, fr_c fz 74 (fun _ => rfl), fr_c fz 75 (fun _ => rfl), fr_c fz 76 (fun _ => rfl), fr_c fz 77 (fun _ => rfl), fr_c fz 78 (fun _ => rfl), fr_c fz 79 (fun _ => rfl), fr_c fz 80 (fun _ => rfl)]; exact h7)⟩
      unfold rm_new
      simp +decide only [b_res, b_resN, b_nm0, b_nm1, b_nm2, b_ns0, b_ns1, b_l0, b_l1, b_l2, b_l3, b_l4, b_l5, b_l6, Bool.true_and, Bool.and_true, cond_true, b01_0, b01_1, i10, true_and, and_true, true_or, or_true, u_rd, u_2, u_at, reduceIte, eq_self, not_true_eq_false, not_false_eq_true, false_imp_iff, true_imp_iff, forall_const, b_nm3_0, b_nm3_1, b_nm3_2, b_nm3_3, b_nm3_4, b_nm3_5, b_nm3_6, b_nm3_7, b_nm3_8, b_nm3_9, b_nm3_10, b_nm3_11, b_nm3_100, b_nm3_101, b_nm3_102, b_nm3_200, b_nm3_201, b_nm3_202, b_nm3_203, b_nm3_204, b_nm3_205, b_nm3_206, b_nm3_207, b_nm3_208, b_ns2_0, b_ns2_1, b_ns2_2, b_ns2_3, b_ns2_4, b_ns2_5, b_ns2_6, b_ns2_7, b_ns2_8, b_ns2_9, b_ns2_10, b_ns2_11, c2, c3, c4, c5, c6, c7, c8]
      have dx : ∀ d, 55 ≤ d → d ≤ 60 → ν.1 d = μ.1 d := by
        intro d h1 h2
        have hc : d = 55 ∨ d = 56 ∨ d = 57 ∨ d = 58 ∨ d = 59 ∨ d = 60 := by omega
        rcases hc with rfl | rfl | rfl | rfl | rfl | rfl <;> exact fr_c f0 _ (fun _ => rfl)
      rw [dx 55 (by omega) (by omega), dx 56 (by omega) (by omega), dx 57 (by omega) (by omega), dx 58 (by omega) (by omega), dx 59 (by omega) (by omega), dx 60 (by omega) (by omega)]
      unfold rl_new
      simp +decide only [b_res, b_resN, b_nm0, b_nm1, b_nm2, b_ns0, b_ns1, b_l0, b_l1, b_l2, b_l3, b_l4, b_l5, b_l6, Bool.true_and, Bool.and_true, cond_true, b01_0, b01_1, i10, true_and, and_true, true_or, or_true, u_rd, u_2, u_at, reduceIte, eq_self, not_true_eq_false, not_false_eq_true, false_imp_iff, true_imp_iff, forall_const, b_nm3_0, b_nm3_1, b_nm3_2, b_nm3_3, b_nm3_4, b_nm3_5, b_nm3_6, b_nm3_7, b_nm3_8, b_nm3_9, b_nm3_10, b_nm3_11, b_nm3_100, b_nm3_101, b_nm3_102, b_nm3_200, b_nm3_201, b_nm3_202, b_nm3_203, b_nm3_204, b_nm3_205, b_nm3_206, b_nm3_207, b_nm3_208, b_ns2_0, b_ns2_1, b_ns2_2, b_ns2_3, b_ns2_4, b_ns2_5, b_ns2_6, b_ns2_7, b_ns2_8, b_ns2_9, b_ns2_10, b_ns2_11]
      refine ⟨n + 1, by omega, rfl, rfl, fun j hjn => ?_, ins_q q p n, fun i hin => ?_, fun e he => ?_, ?_⟩
      · by_cases hjn0 : j = n
        · subst hjn0
          simp only [u_at, reduceIte, tm, tT, true_and]
          refine ⟨by omega, by omega, by omega, by omega, ?_⟩
          unfold x_okE at hx2
          unfold R_ent
          rcases hx2 with ⟨hk, hx2⟩ | ⟨hk, hx2⟩ | ⟨hk, hx2⟩ | ⟨hk, hx2⟩
          · have hk : k = 0 := by rw [i_eq, hk]; rfl
            subst hk
            rw [if_neg (by decide)]
            exact Or.inl ⟨rfl, by omega, by omega, rfl, by omega, by omega, rfl, by omega, by omega⟩
          · have hk : k = 1 := by rw [i_eq, hk]; rfl
            subst hk
            rw [if_pos rfl]
            exact Or.inr (Or.inl ⟨rfl, rfl, by omega, by omega⟩)
          · have hk : k = 2 := by rw [i_eq, hk]; rfl
            subst hk
            rw [if_neg (by decide)]
            exact Or.inr (Or.inr (Or.inl ⟨rfl, by omega, by omega, rfl, by omega, by omega⟩))
          · have hk : k = 3 := by rw [i_eq, hk]; rfl
            subst hk
            exact Or.inr (Or.inr (Or.inr ⟨rfl, by omega, by omega⟩))
        · simp only [u_at, if_neg hjn0]
          exact hj j (by omega)
      · refine ⟨?_, ins_od (fun i hi => (hq i hi).2) hi hp i hin⟩
        rcases (ins_mem (e := n) (q := q) hp (ins_q q p n i)).mp ⟨i, hin, rfl⟩ with hh | ⟨i', h1', h2'⟩
        · rw [hh]; omega
        · have := (hq i' h1').1
          omega
      · refine (ins_mem (e := n) (q := q) hp e).mpr ?_
        by_cases hen : e = n
        · exact Or.inl hen
        · exact Or.inr (hq2 e (by omega))
      · refine ins_srt (fun i k hik hk => ?_) (fun j hj => ?_) (fun j hj hjn => ?_) hp
        · have := hq3 i k hik hk
          have a1 := (hq i (by omega)).1
          have a2 := (hq k (by omega)).1
          unfold or_lt at this ⊢
          rw [u_at, if_neg (by omega), u_at, if_neg (by omega)]
          exact this
        · have := i1 j hj
          have a1 := (hq j (by omega)).1
          unfold or_lt
          rw [u_at, if_neg (by omega), u_at, if_pos rfl, tm]
          omega
        · have := i2 j hj hjn
          have a1 := (hq j (by omega)).1
          unfold or_lt
          rw [u_at, if_pos rfl, u_at, if_neg (by omega), tm]
          omega
