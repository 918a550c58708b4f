-- what is thrown out
def th_out (T : Nat) (spoil damp : Int) (mo da : Nat → Int32) (j : Nat) : Bool := decide ((if da j = 0 then spoil else if spoil - damp < 0 then 0 else spoil - damp) < (T : Int) - (mo j).toInt)
def ly_ok (gr re lying : Nat → Int32) (n : Nat) : Prop := ∀ g : Nat, g < 4 → (lying g).toInt = pu_sum (fun j => if (gr j).toInt = g then (re j).toInt else 0) n
theorem pu_upd {f f' : Nat → Int} {i : Nat} : ∀ {n : Nat}, i < n → (∀ j, j < n → j ≠ i → f' j = f j) → pu_sum f' n = pu_sum f n + (f' i - f i)
  | 0, h, _ => absurd h (by omega)
  | n + 1, h, hz => by
    rw [pu_sum, pu_sum]
    by_cases e : i = n
    · subst e
      rw [pu_cong (f := f') (g := f) (fun j hj => hz j (by omega) (by omega))]
      omega
    · rw [pu_upd (f := f) (f' := f') (by omega) (fun j hj hji => hz j (by omega) hji), hz n (by omega) (by omega)]
      omega
theorem ly_take {gr re lying : Nat → Int32} {n k : Nat} {x : Int32} (h : ly_ok gr re lying n) (hn : n ≤ 100) (hk : k < n) (hg : 0 ≤ (gr k).toInt ∧ (gr k).toInt ≤ 3) (hre : ∀ j, j < n → 0 ≤ (re j).toInt ∧ (re j).toInt ≤ 3000) (hx : 0 ≤ x.toInt ∧ x.toInt ≤ (re k).toInt) : ly_ok gr (upd re k (re k - x)) (upd lying (gr k).toNatClampNeg (lying (gr k).toNatClampNeg - x)) n := by
  intro g hg4
  have hk2 := hre k hk
  have e1 : (re k - x).toInt = (re k).toInt - x.toInt := i_sub (by omega) (by omega)
  have hb := h g hg4
  have hs := pu_le (f := fun j => if (gr j).toInt = (g : Int) then (re j).toInt else 0) (n := n) (fun j hj => by
    have := hre j hj
    try dsimp only
    split <;> omega)
  rw [pu_upd (f := fun j => if (gr j).toInt = (g : Int) then (re j).toInt else 0) hk (fun j hj hjk => by
    try dsimp only
    rw [u_at, if_neg hjk]), ← hb]
  try dsimp only
  rw [u_at, u_at, if_pos rfl, e1]
  rw [i_cl]
  by_cases e : g = (gr k).toInt.toNat
  · rw [if_pos e, ← e, if_pos (by omega), if_pos (by omega), i_sub (by omega) (by omega)]
    omega
  · rw [if_neg e, if_neg (by omega), if_neg (by omega)]
    omega
theorem c_take {μ : ab_S} {b : ab_B} {Q : ab_Q} {n k w r : Nat} (hn : μ.1 7 9 = nI n) (hn2 : n ≤ 100) (hk : k < n) (hr : μ.1 38 k = nI r) (hr2 : r ≤ 3000) (hw : w < 2 ^ 31) (hg : 0 ≤ (μ.1 35 k).toInt ∧ (μ.1 35 k).toInt ≤ 3) (l1 : μ.2 38 = 100) (l2 : μ.2 35 = 100) (l3 : μ.2 33 = 4) (hQ : Q (some (nI (min w r))) (ab_up (ab_up μ 38 k (nI r - nI (min w r))) 33 (μ.1 35 k).toNatClampNeg (μ.1 33 (μ.1 35 k).toNatClampNeg - nI (min w r)))) : gd_run 80 0 [some (.inr 7), some (.inl (nI k)), some (.inl (nI w)), none] [] μ b Q := by
  have g1 : (nI k < 0) = False := q_n0 (by omega)
  have g2 : (nI n ≤ nI k) = False := q_nle (by omega) (by omega)
  have v1 : vp_in (nI k) 100 = True := q_in (by omega) (by omega)
  have e1 : (nI k).toNatClampNeg = k := nI_clamp (by omega)
  have v2 : vp_in (μ.1 35 k) 4 = True := eq_true (v_in (by omega) (by omega))
  have a9 := q_min (k := w) (y := r) hw (by omega)
  simp +decide only [s_80_0, s_80_1, s_80_2, s_80_5, s_80_8, s_80_9, s_80_10, s_80_11, s_80_12, s_80_15, s_80_16, s_80_17, s_80_20, s_80_21, s_80_22, s_80_25, s_80_26, s_80_27, s_80_28, s_80_29, s_80_30, s_80_31, s_80_32, s_80_35, s_80_36, s_80_39, s_80_40, s_80_41, s_80_42, s_80_43, s_80_44, s_80_45, s_80_46, s_80_47, s_71_0, s_71_1, s_71_4, s_71_5, s_71_6, s_71_9, s_71_12, s_71_13, s_71_16, s_71_17, b_res, b_resN, b_nm0, b_nm1, b_nm2, b_ns0, b_ns1, b_l0, b_l1, b_l2, b_l3, b_l4, b_l5, b_l6, Bool.true_and, Bool.and_true, cond_true, b01_0, b01_1, i10, true_and, and_true, true_or, or_true, u_rd, u_2, u_at, reduceIte, eq_self, not_true_eq_false, not_false_eq_true, false_imp_iff, true_imp_iff, forall_const, b_nm3_0, b_nm3_1, b_nm3_2, b_nm3_3, b_nm3_4, b_nm3_5, b_nm3_6, b_nm3_7, b_nm3_8, b_nm3_9, b_nm3_10, b_nm3_11, b_nm3_100, b_nm3_101, b_nm3_102, b_nm3_200, b_nm3_201, b_nm3_202, b_nm3_203, b_nm3_204, b_nm3_205, b_nm3_206, b_nm3_207, b_nm3_208, b_ns2_0, b_ns2_1, b_ns2_2, b_ns2_3, b_ns2_4, b_ns2_5, b_ns2_6, b_ns2_7, b_ns2_8, b_ns2_9, b_ns2_10, b_ns2_11, b_ns2_12, b_ns2_13, b_ns2_14, b_ns2_15, b_ns2_16, b_ns2_17, b_ns2_18, b_ns2_19, b_ns2_20, b_ns2_21, b_ns2_22, b_ns2_23, b_ns2_24, b_ns2_25, b_ns2_26, b_ns2_27, b_ns2_28, b_ns2_29, b_ns2_30, b_ns2_31, b_ns2_32, b_ns2_33, b_ns2_34, b_ns2_35, b_ns2_36, b_ns2_37, b_ns2_38, b_ns2_39, b_ns2_40, b_ns2_41, b_ns2_42, b_ns2_43, b_ns2_44, b_ns2_45, b_ns2_50, b_ns2_51, b_ns2_52, b_ns2_53, b_ns2_54, b_ns2_55, b_ns2_56, b_ns2_57, b_ns2_58, b_ns2_59, b_ns2_60, b_ns2_61, b_ns2_62, b_ns2_63, b_ns2_64, b_ns2_65, b_ns2_66, b_ns2_67, b_ns2_68, b_ns2_69, b_ns2_70, b_ns2_71, b_ns2_72, b_ns2_73, b_ns2_74, b_ns2_75, b_ns2_76, b_ns2_77, b_ns2_78, b_ns2_79, b_ns2_80, b_ns2_81, b_ns2_82, b_ns2_83, b_ns2_84, b_ns2_85, b_ns2_86, b_ns2_87, b_ns2_88, hn, g1, g2, v1, v2, e1, l1, l2, l3, hr, a9]
  exact hQ
theorem c_throwOut {μ : ab_S} {b : ab_B} {Q : ab_Q} {n T : Nat} {sp dm : Int32} (hn : μ.1 7 9 = nI n) (hn2 : n ≤ 100) (hT : T ≤ 120) (hsp : 0 ≤ sp.toInt ∧ sp.toInt ≤ 60) (hdm : 0 ≤ dm.toInt ∧ dm.toInt ≤ 60) (l0 : μ.2 40 = 100) (l1 : μ.2 38 = 100) (l2 : μ.2 35 = 100) (l3 : μ.2 33 = 4) (l4 : μ.2 36 = 100) (l5 : μ.2 39 = 100) (hj : ∀ j, j < n → 0 ≤ (μ.1 35 j).toInt ∧ (μ.1 35 j).toInt ≤ 3 ∧ 0 ≤ (μ.1 36 j).toInt ∧ (μ.1 36 j).toInt ≤ 119 ∧ 0 ≤ (μ.1 38 j).toInt ∧ (μ.1 38 j).toInt ≤ 3000) (hly : ly_ok (μ.1 35) (μ.1 38) (μ.1 33) n)
    (hQ : ∀ μ' v, ab_fr (fw [33, 38, 39] []) μ μ' → (∀ j, j < n → μ'.1 38 j = if th_out T sp.toInt dm.toInt (μ.1 36) (μ.1 40) j = true then 0 else μ.1 38 j) → (∀ j, j < n → μ'.1 39 j = if th_out T sp.toInt dm.toInt (μ.1 36) (μ.1 40) j = true then μ.1 39 j + μ.1 38 j else μ.1 39 j) → ly_ok (μ.1 35) (μ'.1 38) (μ'.1 33) n → v.toInt = pu_sum (fun j => if th_out T sp.toInt dm.toInt (μ.1 36) (μ.1 40) j = true then (μ.1 38 j).toInt else 0) n → Q (some v) μ') : gd_run 79 0 [some (.inr 7), some (.inl (nI T)), some (.inl sp), some (.inl dm), none, none, none, none] [] μ b Q := by
  have tT : (nI T).toInt = (T : Int) := nI_toInt (by omega)
  have key : ∀ i, i ≤ n → ∀ μ' (acc : Int32) x6 x7, ab_nm gd_mv [x6, x7] = true → ab_fr (fw [33, 38, 39] []) μ μ' → (∀ j, j < n → μ'.1 38 j = if j < i ∧ th_out T sp.toInt dm.toInt (μ.1 36) (μ.1 40) j = true then 0 else μ.1 38 j) → (∀ j, j < n → μ'.1 39 j = if j < i ∧ th_out T sp.toInt dm.toInt (μ.1 36) (μ.1 40) j = true then μ.1 39 j + μ.1 38 j else μ.1 39 j) → ly_ok (μ.1 35) (μ'.1 38) (μ'.1 33) n → acc.toInt = pu_sum (fun j => if th_out T sp.toInt dm.toInt (μ.1 36) (μ.1 40) j = true then (μ.1 38 j).toInt else 0) i → gd_run 79 6 [some (.inr 7), some (.inl (nI T)), some (.inl sp), some (.inl dm), some (.inl acc), some (.inl (nI i)), x6, x7] [] μ' b Q := by
    refine lp_up (fun μ' acc x6 x7 hx hf hr ht hl ha => ?_) (fun i hi ih μ' acc x6 x7 hx hf hr ht hl ha => ?_)
    · have hn' : μ'.1 7 9 = nI n := (hf.2 _ _ rfl).trans hn
      have g4 : (nI n ≤ nI n) = True := eq_true (Int32.le_refl _)
      rw [s_79_6]
      simp +decide only [s_79_0, s_79_1, s_79_3, s_79_4, s_79_8, s_79_9, s_79_12, s_79_15, s_79_16, s_79_19, s_79_21, s_79_22, s_79_25, s_79_26, s_79_27, s_79_28, s_79_29, s_79_32, s_79_35, s_79_36, s_79_38, s_79_39, s_79_40, s_79_43, s_79_45, s_79_46, s_79_47, s_79_49, s_79_52, s_79_53, s_79_55, s_79_56, s_79_59, s_79_61, s_79_62, s_79_65, s_79_67, s_79_68, s_79_71, s_79_73, s_79_74, s_79_75, s_79_77, s_79_78, s_79_79, s_79_81, s_79_83, s_79_84, s_79_86, s_79_89, s_79_92, s_79_94, b_res, b_resN, b_nm0, b_nm1, b_nm2, b_ns0, b_ns1, b_l0, b_l1, b_l2, b_l3, b_l4, b_l5, b_l6, Bool.true_and, Bool.and_true, cond_true, b01_0, b01_1, i10, true_and, and_true, true_or, or_true, u_rd, u_2, u_at, reduceIte, eq_self, not_true_eq_false, not_false_eq_true, false_imp_iff, true_imp_iff, forall_const, b_nm3_0, b_nm3_1, b_nm3_2, b_nm3_3, b_nm3_4, b_nm3_5, b_nm3_6, b_nm3_7, b_nm3_8, b_nm3_9, b_nm3_10, b_nm3_11, b_nm3_100, b_nm3_101, b_nm3_102, b_nm3_200, b_nm3_201, b_nm3_202, b_nm3_203, b_nm3_204, b_nm3_205, b_nm3_206, b_nm3_207, b_nm3_208, b_ns2_0, b_ns2_1, b_ns2_2, b_ns2_3, b_ns2_4, b_ns2_5, b_ns2_6, b_ns2_7, b_ns2_8, b_ns2_9, b_ns2_10, b_ns2_11, b_ns2_12, b_ns2_13, b_ns2_14, b_ns2_15, b_ns2_16, b_ns2_17, b_ns2_18, b_ns2_19, b_ns2_20, b_ns2_21, b_ns2_22, b_ns2_23, b_ns2_24, b_ns2_25, b_ns2_26, b_ns2_27, b_ns2_28, b_ns2_29, b_ns2_30, b_ns2_31, b_ns2_32, b_ns2_33, b_ns2_34, b_ns2_35, b_ns2_36, b_ns2_37, b_ns2_38, b_ns2_39, b_ns2_40, b_ns2_41, b_ns2_42, b_ns2_43, b_ns2_44, b_ns2_45, b_ns2_50, b_ns2_51, b_ns2_52, b_ns2_53, b_ns2_54, b_ns2_55, b_ns2_56, b_ns2_57, b_ns2_58, b_ns2_59, b_ns2_60, b_ns2_61, b_ns2_62, b_ns2_63, b_ns2_64, b_ns2_65, b_ns2_66, b_ns2_67, b_ns2_68, b_ns2_69, b_ns2_70, b_ns2_71, b_ns2_72, b_ns2_73, b_ns2_74, b_ns2_75, b_ns2_76, b_ns2_77, b_ns2_78, b_ns2_79, b_ns2_80, b_ns2_81, b_ns2_82, b_ns2_83, b_ns2_84, b_ns2_85, b_ns2_86, b_ns2_87, b_ns2_88, hn', g4]
      refine hQ μ' acc hf (fun j hj => ?_) (fun j hj => ?_) hl ha
      · rw [hr j hj]
        simp only [hj, true_and]
      · rw [ht j hj]
        simp only [hj, true_and]
    · have hn' : μ'.1 7 9 = nI n := (hf.2 _ _ rfl).trans hn
      obtain ⟨j1, j2, j3, j4, j5, j6⟩ := hj i hi
      have g4 : (nI n ≤ nI i) = False := q_nle (by omega) (by omega)
      have v1 : vp_in (nI i) 100 = True := q_in (by omega) (by omega)
      have e1 : (nI i).toNatClampNeg = i := nI_clamp (by omega)
      have l0' : μ'.2 40 = 100 := by rw [hf.1]; exact l0
      have l1' : μ'.2 38 = 100 := by rw [hf.1]; exact l1
      have l4' : μ'.2 36 = 100 := by rw [hf.1]; exact l4
      have l5' : μ'.2 39 = 100 := by rw [hf.1]; exact l5
      have r40 : μ'.1 40 = μ.1 40 := fr_c hf _ (fun _ => rfl)
      have r36 : μ'.1 36 = μ.1 36 := fr_c hf _ (fun _ => rfl)
      have r35 : μ'.1 35 = μ.1 35 := fr_c hf _ (fun _ => rfl)
      have hs := pu_le (f := fun j => if th_out T sp.toInt dm.toInt (μ.1 36) (μ.1 40) j = true then (μ.1 38 j).toInt else 0) (n := i) (fun j hjj => by
        have := hj j (by omega)
        try dsimp only
        split <;> omega)
      have tm : (nI T - μ.1 36 i).toInt = (T : Int) - (μ.1 36 i).toInt := by rw [i_sub (by omega) (by omega), tT]
      have ri : μ'.1 38 i = μ.1 38 i := by rw [hr i hi, if_neg (by omega)]
      have ti : μ'.1 39 i = μ.1 39 i := by rw [ht i hi, if_neg (by omega)]
      have hre' : ∀ j, j < n → 0 ≤ (μ'.1 38 j).toInt ∧ (μ'.1 38 j).toInt ≤ 3000 := fun j hjn => by
        rw [hr j hjn]
        have := hj j hjn
        split
        · rw [kI_0]; omega
        · omega
      obtain ⟨r, hr3, er⟩ := i_of (x := μ.1 38 i) (n := 3000) j5 j6 (by omega)
      have body : ∀ kp : Int32, kp.toInt = (if μ.1 40 i = 0 then sp.toInt else if sp.toInt - dm.toInt < 0 then 0 else sp.toInt - dm.toInt) → gd_run 79 38 [some (.inr 7), some (.inl (nI T)), some (.inl sp), some (.inl dm), some (.inl acc), some (.inl (nI i)), some (.inl kp), x7] [] μ' b Q := by
        intro kp hkp
        have hx7 : ab_nm gd_mv [x7] = true := by
          unfold ab_nm at hx ⊢
          rw [List.all_cons, Bool.and_eq_true] at hx
          exact hx.2
        simp +decide only [s_79_0, s_79_1, s_79_3, s_79_4, s_79_8, s_79_9, s_79_12, s_79_15, s_79_16, s_79_19, s_79_21, s_79_22, s_79_25, s_79_26, s_79_27, s_79_28, s_79_29, s_79_32, s_79_35, s_79_36, s_79_38, s_79_39, s_79_40, s_79_43, s_79_45, s_79_46, s_79_47, s_79_49, s_79_52, s_79_53, s_79_55, s_79_56, s_79_59, s_79_61, s_79_62, s_79_65, s_79_67, s_79_68, s_79_71, s_79_73, s_79_74, s_79_75, s_79_77, s_79_78, s_79_79, s_79_81, s_79_83, s_79_84, s_79_86, s_79_89, s_79_92, s_79_94, b_res, b_resN, b_nm0, b_nm1, b_nm2, b_ns0, b_ns1, b_l0, b_l1, b_l2, b_l3, b_l4, b_l5, b_l6, Bool.true_and, Bool.and_true, cond_true, b01_0, b01_1, i10, true_and, and_true, true_or, or_true, u_rd, u_2, u_at, reduceIte, eq_self, not_true_eq_false, not_false_eq_true, false_imp_iff, true_imp_iff, forall_const, b_nm3_0, b_nm3_1, b_nm3_2, b_nm3_3, b_nm3_4, b_nm3_5, b_nm3_6, b_nm3_7, b_nm3_8, b_nm3_9, b_nm3_10, b_nm3_11, b_nm3_100, b_nm3_101, b_nm3_102, b_nm3_200, b_nm3_201, b_nm3_202, b_nm3_203, b_nm3_204, b_nm3_205, b_nm3_206, b_nm3_207, b_nm3_208, b_ns2_0, b_ns2_1, b_ns2_2, b_ns2_3, b_ns2_4, b_ns2_5, b_ns2_6, b_ns2_7, b_ns2_8, b_ns2_9, b_ns2_10, b_ns2_11, b_ns2_12, b_ns2_13, b_ns2_14, b_ns2_15, b_ns2_16, b_ns2_17, b_ns2_18, b_ns2_19, b_ns2_20, b_ns2_21, b_ns2_22, b_ns2_23, b_ns2_24, b_ns2_25, b_ns2_26, b_ns2_27, b_ns2_28, b_ns2_29, b_ns2_30, b_ns2_31, b_ns2_32, b_ns2_33, b_ns2_34, b_ns2_35, b_ns2_36, b_ns2_37, b_ns2_38, b_ns2_39, b_ns2_40, b_ns2_41, b_ns2_42, b_ns2_43, b_ns2_44, b_ns2_45, b_ns2_50, b_ns2_51, b_ns2_52, b_ns2_53, b_ns2_54, b_ns2_55, b_ns2_56, b_ns2_57, b_ns2_58, b_ns2_59, b_ns2_60, b_ns2_61, b_ns2_62, b_ns2_63, b_ns2_64, b_ns2_65, b_ns2_66, b_ns2_67, b_ns2_68, b_ns2_69, b_ns2_70, b_ns2_71, b_ns2_72, b_ns2_73, b_ns2_74, b_ns2_75, b_ns2_76, b_ns2_77, b_ns2_78, b_ns2_79, b_ns2_80, b_ns2_81, b_ns2_82, b_ns2_83, b_ns2_84, b_ns2_85, b_ns2_86, b_ns2_87, b_ns2_88, hx7, v1, e1, l4', l1', r36, ri, nI_1]
        refine ⟨fun h => ?_, fun h => ?_⟩
        · have ho : ¬ th_out T sp.toInt dm.toInt (μ.1 36) (μ.1 40) i = true := by
            unfold th_out
            rw [decide_eq_true_eq, ← hkp, ← tm]
            rw [i_le] at h
            omega
          refine ih μ' acc _ _ hx7 hf (fun j hjn => ?_) (fun j hjn => ?_) hl ?_
          · rw [hr j hjn]
            by_cases e : j = i
            · subst e
              rw [if_neg (by omega), if_neg (fun z => ho z.2)]
            · simp only [show (j < i + 1) = (j < i) from propext ⟨fun z => by omega, fun z => by omega⟩]
          · rw [ht j hjn]
            by_cases e : j = i
            · subst e
              rw [if_neg (by omega), if_neg (fun z => ho z.2)]
            · simp only [show (j < i + 1) = (j < i) from propext ⟨fun z => by omega, fun z => by omega⟩]
          · rw [pu_sum, ha]
            try dsimp only
            rw [if_neg ho]
            omega
        · have ho : th_out T sp.toInt dm.toInt (μ.1 36) (μ.1 40) i = true := by
            unfold th_out
            rw [decide_eq_true_eq, ← hkp, ← tm]
            rw [i_le] at h
            omega
          have hz : nI r - nI (min r r) = 0 := by rw [Nat.min_self, pk_sub (Nat.le_refl r), Nat.sub_self]; rfl
          rw [er]
          refine c_take (n := n) (k := i) (w := r) (r := r) hn' hn2 hi (ri.trans er) hr3 (by omega) (by rw [r35]; omega) l1' (by rw [hf.1]; exact l2) (by rw [hf.1]; exact l3) ?_
          simp +decide only [s_79_0, s_79_1, s_79_3, s_79_4, s_79_8, s_79_9, s_79_12, s_79_15, s_79_16, s_79_19, s_79_21, s_79_22, s_79_25, s_79_26, s_79_27, s_79_28, s_79_29, s_79_32, s_79_35, s_79_36, s_79_38, s_79_39, s_79_40, s_79_43, s_79_45, s_79_46, s_79_47, s_79_49, s_79_52, s_79_53, s_79_55, s_79_56, s_79_59, s_79_61, s_79_62, s_79_65, s_79_67, s_79_68, s_79_71, s_79_73, s_79_74, s_79_75, s_79_77, s_79_78, s_79_79, s_79_81, s_79_83, s_79_84, s_79_86, s_79_89, s_79_92, s_79_94, b_res, b_resN, b_nm0, b_nm1, b_nm2, b_ns0, b_ns1, b_l0, b_l1, b_l2, b_l3, b_l4, b_l5, b_l6, Bool.true_and, Bool.and_true, cond_true, b01_0, b01_1, i10, true_and, and_true, true_or, or_true, u_rd, u_2, u_at, reduceIte, eq_self, not_true_eq_false, not_false_eq_true, false_imp_iff, true_imp_iff, forall_const, b_nm3_0, b_nm3_1, b_nm3_2, b_nm3_3, b_nm3_4, b_nm3_5, b_nm3_6, b_nm3_7, b_nm3_8, b_nm3_9, b_nm3_10, b_nm3_11, b_nm3_100, b_nm3_101, b_nm3_102, b_nm3_200, b_nm3_201, b_nm3_202, b_nm3_203, b_nm3_204, b_nm3_205, b_nm3_206, b_nm3_207, b_nm3_208, b_ns2_0, b_ns2_1, b_ns2_2, b_ns2_3, b_ns2_4, b_ns2_5, b_ns2_6, b_ns2_7, b_ns2_8, b_ns2_9, b_ns2_10, b_ns2_11, b_ns2_12, b_ns2_13, b_ns2_14, b_ns2_15, b_ns2_16, b_ns2_17, b_ns2_18, b_ns2_19, b_ns2_20, b_ns2_21, b_ns2_22, b_ns2_23, b_ns2_24, b_ns2_25, b_ns2_26, b_ns2_27, b_ns2_28, b_ns2_29, b_ns2_30, b_ns2_31, b_ns2_32, b_ns2_33, b_ns2_34, b_ns2_35, b_ns2_36, b_ns2_37, b_ns2_38, b_ns2_39, b_ns2_40, b_ns2_41, b_ns2_42, b_ns2_43, b_ns2_44, b_ns2_45, b_ns2_50, b_ns2_51, b_ns2_52, b_ns2_53, b_ns2_54, b_ns2_55, b_ns2_56, b_ns2_57, b_ns2_58, b_ns2_59, b_ns2_60, b_ns2_61, b_ns2_62, b_ns2_63, b_ns2_64, b_ns2_65, b_ns2_66, b_ns2_67, b_ns2_68, b_ns2_69, b_ns2_70, b_ns2_71, b_ns2_72, b_ns2_73, b_ns2_74, b_ns2_75, b_ns2_76, b_ns2_77, b_ns2_78, b_ns2_79, b_ns2_80, b_ns2_81, b_ns2_82, b_ns2_83, b_ns2_84, b_ns2_85, b_ns2_86, b_ns2_87, b_ns2_88, hx7, v1, e1, l5', r35, ti, nI_1, hz]
          rw [Nat.min_self]
          refine ih _ _ _ _ rfl (fr_up (fr_up (fr_up hf rfl) rfl) rfl) (fun j hjn => ?_) (fun j hjn => ?_) ?_ ?_
          · simp +decide only [b_res, b_resN, b_nm0, b_nm1, b_nm2, b_ns0, b_ns1, b_l0, b_l1, b_l2, b_l3, b_l4, b_l5, b_l6, Bool.true_and, Bool.and_true, cond_true, b01_0, b01_1, i10, true_and, and_true, true_or, or_true, u_rd, u_2, u_at, reduceIte, eq_self, not_true_eq_false, not_false_eq_true, false_imp_iff, true_imp_iff, forall_const, b_nm3_0, b_nm3_1, b_nm3_2, b_nm3_3, b_nm3_4, b_nm3_5, b_nm3_6, b_nm3_7, b_nm3_8, b_nm3_9, b_nm3_10, b_nm3_11, b_nm3_100, b_nm3_101, b_nm3_102, b_nm3_200, b_nm3_201, b_nm3_202, b_nm3_203, b_nm3_204, b_nm3_205, b_nm3_206, b_nm3_207, b_nm3_208, b_ns2_0, b_ns2_1, b_ns2_2, b_ns2_3, b_ns2_4, b_ns2_5, b_ns2_6, b_ns2_7, b_ns2_8, b_ns2_9, b_ns2_10, b_ns2_11, b_ns2_12, b_ns2_13, b_ns2_14, b_ns2_15, b_ns2_16, b_ns2_17, b_ns2_18, b_ns2_19, b_ns2_20, b_ns2_21, b_ns2_22, b_ns2_23, b_ns2_24, b_ns2_25, b_ns2_26, b_ns2_27, b_ns2_28, b_ns2_29, b_ns2_30, b_ns2_31, b_ns2_32, b_ns2_33, b_ns2_34, b_ns2_35, b_ns2_36, b_ns2_37, b_ns2_38, b_ns2_39, b_ns2_40, b_ns2_41, b_ns2_42, b_ns2_43, b_ns2_44, b_ns2_45, b_ns2_50, b_ns2_51, b_ns2_52, b_ns2_53, b_ns2_54, b_ns2_55, b_ns2_56, b_ns2_57, b_ns2_58, b_ns2_59, b_ns2_60, b_ns2_61, b_ns2_62, b_ns2_63, b_ns2_64, b_ns2_65, b_ns2_66, b_ns2_67, b_ns2_68, b_ns2_69, b_ns2_70, b_ns2_71, b_ns2_72, b_ns2_73, b_ns2_74, b_ns2_75, b_ns2_76, b_ns2_77, b_ns2_78, b_ns2_79, b_ns2_80, b_ns2_81, b_ns2_82, b_ns2_83, b_ns2_84, b_ns2_85, b_ns2_86, b_ns2_87, b_ns2_88]
            by_cases e : j = i
            · subst e
              rw [if_pos rfl, if_pos ⟨by omega, ho⟩]
            · rw [if_neg e, hr j hjn]
              simp only [show (j < i + 1) = (j < i) from propext ⟨fun z => by omega, fun z => by omega⟩]
          · simp +decide only [b_res, b_resN, b_nm0, b_nm1, b_nm2, b_ns0, b_ns1, b_l0, b_l1, b_l2, b_l3, b_l4, b_l5, b_l6, Bool.true_and, Bool.and_true, cond_true, b01_0, b01_1, i10, true_and, and_true, true_or, or_true, u_rd, u_2, u_at, reduceIte, eq_self, not_true_eq_false, not_false_eq_true, false_imp_iff, true_imp_iff, forall_const, b_nm3_0, b_nm3_1, b_nm3_2, b_nm3_3, b_nm3_4, b_nm3_5, b_nm3_6, b_nm3_7, b_nm3_8, b_nm3_9, b_nm3_10, b_nm3_11, b_nm3_100, b_nm3_101, b_nm3_102, b_nm3_200, b_nm3_201, b_nm3_202, b_nm3_203, b_nm3_204, b_nm3_205, b_nm3_206, b_nm3_207, b_nm3_208, b_ns2_0, b_ns2_1, b_ns2_2, b_ns2_3, b_ns2_4, b_ns2_5, b_ns2_6, b_ns2_7, b_ns2_8, b_ns2_9, b_ns2_10, b_ns2_11, b_ns2_12, b_ns2_13, b_ns2_14, b_ns2_15, b_ns2_16, b_ns2_17, b_ns2_18, b_ns2_19, b_ns2_20, b_ns2_21, b_ns2_22, b_ns2_23, b_ns2_24, b_ns2_25, b_ns2_26, b_ns2_27, b_ns2_28, b_ns2_29, b_ns2_30, b_ns2_31, b_ns2_32, b_ns2_33, b_ns2_34, b_ns2_35, b_ns2_36, b_ns2_37, b_ns2_38, b_ns2_39, b_ns2_40, b_ns2_41, b_ns2_42, b_ns2_43, b_ns2_44, b_ns2_45, b_ns2_50, b_ns2_51, b_ns2_52, b_ns2_53, b_ns2_54, b_ns2_55, b_ns2_56, b_ns2_57, b_ns2_58, b_ns2_59, b_ns2_60, b_ns2_61, b_ns2_62, b_ns2_63, b_ns2_64, b_ns2_65, b_ns2_66, b_ns2_67, b_ns2_68, b_ns2_69, b_ns2_70, b_ns2_71, b_ns2_72, b_ns2_73, b_ns2_74, b_ns2_75, b_ns2_76, b_ns2_77, b_ns2_78, b_ns2_79, b_ns2_80, b_ns2_81, b_ns2_82, b_ns2_83, b_ns2_84, b_ns2_85, b_ns2_86, b_ns2_87, b_ns2_88]
            by_cases e : j = i
            · subst e
              rw [if_pos rfl, if_pos ⟨by omega, ho⟩, er]
            · rw [if_neg e, ht j hjn]
              simp only [show (j < i + 1) = (j < i) from propext ⟨fun z => by omega, fun z => by omega⟩]
          · simp +decide only [b_res, b_resN, b_nm0, b_nm1, b_nm2, b_ns0, b_ns1, b_l0, b_l1, b_l2, b_l3, b_l4, b_l5, b_l6, Bool.true_and, Bool.and_true, cond_true, b01_0, b01_1, i10, true_and, and_true, true_or, or_true, u_rd, u_2, u_at, reduceIte, eq_self, not_true_eq_false, not_false_eq_true, false_imp_iff, true_imp_iff, forall_const, b_nm3_0, b_nm3_1, b_nm3_2, b_nm3_3, b_nm3_4, b_nm3_5, b_nm3_6, b_nm3_7, b_nm3_8, b_nm3_9, b_nm3_10, b_nm3_11, b_nm3_100, b_nm3_101, b_nm3_102, b_nm3_200, b_nm3_201, b_nm3_202, b_nm3_203, b_nm3_204, b_nm3_205, b_nm3_206, b_nm3_207, b_nm3_208, b_ns2_0, b_ns2_1, b_ns2_2, b_ns2_3, b_ns2_4, b_ns2_5, b_ns2_6, b_ns2_7, b_ns2_8, b_ns2_9, b_ns2_10, b_ns2_11, b_ns2_12, b_ns2_13, b_ns2_14, b_ns2_15, b_ns2_16, b_ns2_17, b_ns2_18, b_ns2_19, b_ns2_20, b_ns2_21, b_ns2_22, b_ns2_23, b_ns2_24, b_ns2_25, b_ns2_26, b_ns2_27, b_ns2_28, b_ns2_29, b_ns2_30, b_ns2_31, b_ns2_32, b_ns2_33, b_ns2_34, b_ns2_35, b_ns2_36, b_ns2_37, b_ns2_38, b_ns2_39, b_ns2_40, b_ns2_41, b_ns2_42, b_ns2_43, b_ns2_44, b_ns2_45, b_ns2_50, b_ns2_51, b_ns2_52, b_ns2_53, b_ns2_54, b_ns2_55, b_ns2_56, b_ns2_57, b_ns2_58, b_ns2_59, b_ns2_60, b_ns2_61, b_ns2_62, b_ns2_63, b_ns2_64, b_ns2_65, b_ns2_66, b_ns2_67, b_ns2_68, b_ns2_69, b_ns2_70, b_ns2_71, b_ns2_72, b_ns2_73, b_ns2_74, b_ns2_75, b_ns2_76, b_ns2_77, b_ns2_78, b_ns2_79, b_ns2_80, b_ns2_81, b_ns2_82, b_ns2_83, b_ns2_84, b_ns2_85, b_ns2_86, b_ns2_87, b_ns2_88]
            have := ly_take (x := nI r) hl hn2 hi (by omega) hre' (by rw [ri, er, nI_toInt (by omega)]; omega)
            rw [ri, er] at this
            rw [show nI r - nI r = 0 by rw [pk_sub (Nat.le_refl r), Nat.sub_self]; rfl] at this
            exact this
          · rw [er] at j5 j6
            rw [pu_sum, i_add (by omega) (by omega), ha]
            try dsimp only
            rw [if_pos ho, er]
      rw [s_79_6]
      simp +decide only [s_79_8, s_79_9, s_79_12, s_79_15, s_79_16, s_79_19, s_79_21, s_79_22, s_79_25, s_79_26, s_79_27, s_79_28, s_79_29, s_79_32, s_79_35, s_79_36, b_res, b_resN, b_nm0, b_nm1, b_nm2, b_ns0, b_ns1, b_l0, b_l1, b_l2, b_l3, b_l4, b_l5, b_l6, Bool.true_and, Bool.and_true, cond_true, b01_0, b01_1, i10, true_and, and_true, true_or, or_true, u_rd, u_2, u_at, reduceIte, eq_self, not_true_eq_false, not_false_eq_true, false_imp_iff, true_imp_iff, forall_const, b_nm3_0, b_nm3_1, b_nm3_2, b_nm3_3, b_nm3_4, b_nm3_5, b_nm3_6, b_nm3_7, b_nm3_8, b_nm3_9, b_nm3_10, b_nm3_11, b_nm3_100, b_nm3_101, b_nm3_102, b_nm3_200, b_nm3_201, b_nm3_202, b_nm3_203, b_nm3_204, b_nm3_205, b_nm3_206, b_nm3_207, b_nm3_208, b_ns2_0, b_ns2_1, b_ns2_2, b_ns2_3, b_ns2_4, b_ns2_5, b_ns2_6, b_ns2_7, b_ns2_8, b_ns2_9, b_ns2_10, b_ns2_11, b_ns2_12, b_ns2_13, b_ns2_14, b_ns2_15, b_ns2_16, b_ns2_17, b_ns2_18, b_ns2_19, b_ns2_20, b_ns2_21, b_ns2_22, b_ns2_23, b_ns2_24, b_ns2_25, b_ns2_26, b_ns2_27, b_ns2_28, b_ns2_29, b_ns2_30, b_ns2_31, b_ns2_32, b_ns2_33, b_ns2_34, b_ns2_35, b_ns2_36, b_ns2_37, b_ns2_38, b_ns2_39, b_ns2_40, b_ns2_41, b_ns2_42, b_ns2_43, b_ns2_44, b_ns2_45, b_ns2_50, b_ns2_51, b_ns2_52, b_ns2_53, b_ns2_54, b_ns2_55, b_ns2_56, b_ns2_57, b_ns2_58, b_ns2_59, b_ns2_60, b_ns2_61, b_ns2_62, b_ns2_63, b_ns2_64, b_ns2_65, b_ns2_66, b_ns2_67, b_ns2_68, b_ns2_69, b_ns2_70, b_ns2_71, b_ns2_72, b_ns2_73, b_ns2_74, b_ns2_75, b_ns2_76, b_ns2_77, b_ns2_78, b_ns2_79, b_ns2_80, b_ns2_81, b_ns2_82, b_ns2_83, b_ns2_84, b_ns2_85, b_ns2_86, b_ns2_87, b_ns2_88, hn', g4, v1, e1, l0', r40]
      refine ⟨fun h => body _ ?_, fun h => body _ ?_⟩
      · rw [if_pos h]
      · rw [if_neg h]
        have hd : (sp - dm).toInt = sp.toInt - dm.toInt := i_sub (by omega) (by omega)
        by_cases z : (0 : Int32) < sp - dm
        · rw [if_pos z, hd]
          rw [i_lt, kI_0, hd] at z
          rw [if_neg (by omega)]
        · rw [if_neg z, kI_0]
          rw [i_lt, kI_0, hd] at z
          split <;> omega
  simp +decide only [s_79_0, s_79_1, s_79_3, s_79_4, s_79_8, s_79_9, s_79_12, s_79_15, s_79_16, s_79_19, s_79_21, s_79_22, s_79_25, s_79_26, s_79_27, s_79_28, s_79_29, s_79_32, s_79_35, s_79_36, s_79_38, s_79_39, s_79_40, s_79_43, s_79_45, s_79_46, s_79_47, s_79_49, s_79_52, s_79_53, s_79_55, s_79_56, s_79_59, s_79_61, s_79_62, s_79_65, s_79_67, s_79_68, s_79_71, s_79_73, s_79_74, s_79_75, s_79_77, s_79_78, s_79_79, s_79_81, s_79_83, s_79_84, s_79_86, s_79_89, s_79_92, s_79_94, b_res, b_resN, b_nm0, b_nm1, b_nm2, b_ns0, b_ns1, b_l0, b_l1, b_l2, b_l3, b_l4, b_l5, b_l6, Bool.true_and, Bool.and_true, cond_true, b01_0, b01_1, i10, true_and, and_true, true_or, or_true, u_rd, u_2, u_at, reduceIte, eq_self, not_true_eq_false, not_false_eq_true, false_imp_iff, true_imp_iff, forall_const, b_nm3_0, b_nm3_1, b_nm3_2, b_nm3_3, b_nm3_4, b_nm3_5, b_nm3_6, b_nm3_7, b_nm3_8, b_nm3_9, b_nm3_10, b_nm3_11, b_nm3_100, b_nm3_101, b_nm3_102, b_nm3_200, b_nm3_201, b_nm3_202, b_nm3_203, b_nm3_204, b_nm3_205, b_nm3_206, b_nm3_207, b_nm3_208, b_ns2_0, b_ns2_1, b_ns2_2, b_ns2_3, b_ns2_4, b_ns2_5, b_ns2_6, b_ns2_7, b_ns2_8, b_ns2_9, b_ns2_10, b_ns2_11, b_ns2_12, b_ns2_13, b_ns2_14, b_ns2_15, b_ns2_16, b_ns2_17, b_ns2_18, b_ns2_19, b_ns2_20, b_ns2_21, b_ns2_22, b_ns2_23, b_ns2_24, b_ns2_25, b_ns2_26, b_ns2_27, b_ns2_28, b_ns2_29, b_ns2_30, b_ns2_31, b_ns2_32, b_ns2_33, b_ns2_34, b_ns2_35, b_ns2_36, b_ns2_37, b_ns2_38, b_ns2_39, b_ns2_40, b_ns2_41, b_ns2_42, b_ns2_43, b_ns2_44, b_ns2_45, b_ns2_50, b_ns2_51, b_ns2_52, b_ns2_53, b_ns2_54, b_ns2_55, b_ns2_56, b_ns2_57, b_ns2_58, b_ns2_59, b_ns2_60, b_ns2_61, b_ns2_62, b_ns2_63, b_ns2_64, b_ns2_65, b_ns2_66, b_ns2_67, b_ns2_68, b_ns2_69, b_ns2_70, b_ns2_71, b_ns2_72, b_ns2_73, b_ns2_74, b_ns2_75, b_ns2_76, b_ns2_77, b_ns2_78, b_ns2_79, b_ns2_80, b_ns2_81, b_ns2_82, b_ns2_83, b_ns2_84, b_ns2_85, b_ns2_86, b_ns2_87, b_ns2_88]
  refine key 0 (by omega) μ 0 _ _ rfl fr_rfl (fun j hj => ?_) (fun j hj => ?_) hly rfl
  · rw [if_neg (by omega)]
  · rw [if_neg (by omega)]
theorem m_throwsOut {T : Nat} {μ : ab_S} {b : ab_B} {Q : ab_Q} {n : Nat} {sp dm : Int32} (E : gd_env T μ) (hsp : sp = gd_law μ (nI T) (nI T) 1) (hdm : dm = gd_law μ (nI T) (nI T) 2) (hnow : μ.1 11 0 = nI T) (hn : μ.1 11 18 = nI n) (hn2 : n ≤ 100) (hT : T ≤ 120) (hj : ∀ j, j < n → 0 ≤ (μ.1 66 j).toInt ∧ (μ.1 66 j).toInt ≤ 119 ∧ 0 ≤ (μ.1 68 j).toInt ∧ (μ.1 68 j).toInt ≤ 3000)
    (hQ : ∀ μ' v, ab_fr (fw [68, 69] []) μ μ' → (∀ j, j < n → μ'.1 68 j = if th_out T sp.toInt dm.toInt (μ.1 66) (μ.1 70) j = true then 0 else μ.1 68 j) → (∀ j, j < n → μ'.1 69 j = if th_out T sp.toInt dm.toInt (μ.1 66) (μ.1 70) j = true then μ.1 69 j + μ.1 68 j else μ.1 69 j) → v.toInt = pu_sum (fun j => if th_out T sp.toInt dm.toInt (μ.1 66) (μ.1 70) j = true then (μ.1 68 j).toInt else 0) n → Q (some v) μ') : gd_run 159 0 [some (.inr 11), none, none, none, none, none] [] μ b Q := by
  obtain ⟨⟨L, hL, hl⟩, -⟩ := id E
  have tT : (nI T).toInt = (T : Int) := nI_toInt (by omega)
  have b1 := law_b E (nI T) (nI T) (w := 1) (by omega)
  have b2 := law_b E (nI T) (nI T) (w := 2) (by omega)
  rw [← hsp] at b1
  rw [← hdm] at b2
  have b1 : 0 ≤ sp.toInt ∧ sp.toInt ≤ 60 := b1
  have b2 : 0 ≤ dm.toInt ∧ dm.toInt ≤ 60 := b2
  have hd : (sp - dm).toInt = sp.toInt - dm.toInt := i_sub (by omega) (by omega)
  have key : ∀ i, i ≤ n → ∀ μ' (acc : Int32) x5, ab_nm gd_mv [x5] = true → ab_fr (fw [68, 69] []) μ μ' → (∀ j, j < n → μ'.1 68 j = if j < i ∧ th_out T sp.toInt dm.toInt (μ.1 66) (μ.1 70) j = true then 0 else μ.1 68 j) → (∀ j, j < n → μ'.1 69 j = if j < i ∧ th_out T sp.toInt dm.toInt (μ.1 66) (μ.1 70) j = true then μ.1 69 j + μ.1 68 j else μ.1 69 j) → acc.toInt = pu_sum (fun j => if th_out T sp.toInt dm.toInt (μ.1 66) (μ.1 70) j = true then (μ.1 68 j).toInt else 0) i → gd_run 159 35 [some (.inr 11), some (.inl acc), some (.inl sp), some (.inl (sp - dm)), some (.inl (nI i)), x5] [] μ' b Q := by
    refine lp_up (fun μ' acc x5 hx hf hr ht ha => ?_) (fun i hi ih μ' acc x5 hx hf hr ht ha => ?_)
    · have hn' : μ'.1 11 18 = nI n := (hf.2 _ _ rfl).trans hn
      have g4 : (nI n ≤ nI n) = True := eq_true (Int32.le_refl _)
      rw [s_159_35]
      simp +decide only [s_159_0, s_159_1, s_159_2, s_159_3, s_159_4, s_159_7, s_159_8, s_159_11, s_159_12, s_159_15, s_159_16, s_159_17, s_159_18, s_159_19, s_159_22, s_159_23, s_159_26, s_159_27, s_159_30, s_159_31, s_159_32, s_159_33, s_159_37, s_159_38, s_159_41, s_159_44, s_159_45, s_159_48, s_159_50, s_159_51, s_159_54, s_159_55, s_159_58, s_159_59, s_159_62, s_159_63, s_159_66, s_159_67, s_159_69, s_159_70, s_159_73, s_159_74, s_159_77, s_159_79, s_159_80, s_159_81, s_159_83, s_159_86, s_159_89, s_159_90, s_159_91, s_159_94, s_159_96, s_159_97, s_159_98, s_159_99, s_159_100, s_159_103, s_159_105, s_159_106, s_159_107, s_159_108, s_159_111, s_159_113, s_159_114, s_159_115, s_159_116, s_159_117, s_159_120, s_159_122, s_159_123, s_159_124, s_159_127, s_159_130, s_159_131, b_res, b_resN, b_nm0, b_nm1, b_nm2, b_ns0, b_ns1, b_l0, b_l1, b_l2, b_l3, b_l4, b_l5, b_l6, Bool.true_and, Bool.and_true, cond_true, b01_0, b01_1, i10, true_and, and_true, true_or, or_true, u_rd, u_2, u_at, reduceIte, eq_self, not_true_eq_false, not_false_eq_true, false_imp_iff, true_imp_iff, forall_const, b_nm3_0, b_nm3_1, b_nm3_2, b_nm3_3, b_nm3_4, b_nm3_5, b_nm3_6, b_nm3_7, b_nm3_8, b_nm3_9, b_nm3_10, b_nm3_11, b_nm3_100, b_nm3_101, b_nm3_102, b_nm3_200, b_nm3_201, b_nm3_202, b_nm3_203, b_nm3_204, b_nm3_205, b_nm3_206, b_nm3_207, b_nm3_208, b_ns2_0, b_ns2_1, b_ns2_2, b_ns2_3, b_ns2_4, b_ns2_5, b_ns2_6, b_ns2_7, b_ns2_8, b_ns2_9, b_ns2_10, b_ns2_11, b_ns2_12, b_ns2_13, b_ns2_14, b_ns2_15, b_ns2_16, b_ns2_17, b_ns2_18, b_ns2_19, b_ns2_20, b_ns2_21, b_ns2_22, b_ns2_23, b_ns2_24, b_ns2_25, b_ns2_26, b_ns2_27, b_ns2_28, b_ns2_29, b_ns2_30, b_ns2_31, b_ns2_32, b_ns2_33, b_ns2_34, b_ns2_35, b_ns2_36, b_ns2_37, b_ns2_38, b_ns2_39, b_ns2_40, b_ns2_41, b_ns2_42, b_ns2_43, b_ns2_44, b_ns2_45, b_ns2_50, b_ns2_51, b_ns2_52, b_ns2_53, b_ns2_54, b_ns2_55, b_ns2_56, b_ns2_57, b_ns2_58, b_ns2_59, b_ns2_60, b_ns2_61, b_ns2_62, b_ns2_63, b_ns2_64, b_ns2_65, b_ns2_66, b_ns2_67, b_ns2_68, b_ns2_69, b_ns2_70, b_ns2_71, b_ns2_72, b_ns2_73, b_ns2_74, b_ns2_75, b_ns2_76, b_ns2_77, b_ns2_78, b_ns2_79, b_ns2_80, b_ns2_81, b_ns2_82, b_ns2_83, b_ns2_84, b_ns2_85, b_ns2_86, b_ns2_87, b_ns2_88, hn', g4]
      refine hQ μ' acc hf (fun j hj => ?_) (fun j hj => ?_) ha
      · rw [hr j hj]
        simp only [hj, true_and]
      · rw [ht j hj]
        simp only [hj, true_and]
    · have hn' : μ'.1 11 18 = nI n := (hf.2 _ _ rfl).trans hn
      have hnow' : μ'.1 11 0 = nI T := (hf.2 _ _ rfl).trans hnow
      obtain ⟨j3, j4, j5, j6⟩ := hj i hi
      have g4 : (nI n ≤ nI i) = False := q_nle (by omega) (by omega)
      have v1 : vp_in (nI i) 100 = True := q_in (by omega) (by omega)
      have e1 : (nI i).toNatClampNeg = i := nI_clamp (by omega)
      have lx : μ'.2 = gd_ln L := hf.1.trans hl
      have l70 : μ'.2 70 = 100 := by rw [lx]; rfl
      have l66 : μ'.2 66 = 100 := by rw [lx]; rfl
      have l68 : μ'.2 68 = 100 := by rw [lx]; rfl
      have l69 : μ'.2 69 = 100 := by rw [lx]; rfl
      have r70 : μ'.1 70 = μ.1 70 := fr_c hf _ (fun _ => rfl)
      have r66 : μ'.1 66 = μ.1 66 := fr_c hf _ (fun _ => rfl)
      have hs := pu_le (f := fun j => if th_out T sp.toInt dm.toInt (μ.1 66) (μ.1 70) j = true then (μ.1 68 j).toInt else 0) (n := i) (fun j hjj => by
        have := hj j (by omega)
        try dsimp only
        split <;> omega)
      have tm : (nI T - μ.1 66 i).toInt = (T : Int) - (μ.1 66 i).toInt := by rw [i_sub (by omega) (by omega), tT]
      have ri : μ'.1 68 i = μ.1 68 i := by rw [hr i hi, if_neg (by omega)]
      have ti : μ'.1 69 i = μ.1 69 i := by rw [ht i hi, if_neg (by omega)]
      have body : ∀ kp : Int32, kp.toInt = (if μ.1 70 i = 0 then sp.toInt else if sp.toInt - dm.toInt < 0 then 0 else sp.toInt - dm.toInt) → gd_run 159 69 [some (.inr 11), some (.inl acc), some (.inl sp), some (.inl (sp - dm)), some (.inl (nI i)), some (.inl kp)] [] μ' b Q := by
        intro kp hkp
        simp +decide only [s_159_0, s_159_1, s_159_2, s_159_3, s_159_4, s_159_7, s_159_8, s_159_11, s_159_12, s_159_15, s_159_16, s_159_17, s_159_18, s_159_19, s_159_22, s_159_23, s_159_26, s_159_27, s_159_30, s_159_31, s_159_32, s_159_33, s_159_37, s_159_38, s_159_41, s_159_44, s_159_45, s_159_48, s_159_50, s_159_51, s_159_54, s_159_55, s_159_58, s_159_59, s_159_62, s_159_63, s_159_66, s_159_67, s_159_69, s_159_70, s_159_73, s_159_74, s_159_77, s_159_79, s_159_80, s_159_81, s_159_83, s_159_86, s_159_89, s_159_90, s_159_91, s_159_94, s_159_96, s_159_97, s_159_98, s_159_99, s_159_100, s_159_103, s_159_105, s_159_106, s_159_107, s_159_108, s_159_111, s_159_113, s_159_114, s_159_115, s_159_116, s_159_117, s_159_120, s_159_122, s_159_123, s_159_124, s_159_127, s_159_130, s_159_131, b_res, b_resN, b_nm0, b_nm1, b_nm2, b_ns0, b_ns1, b_l0, b_l1, b_l2, b_l3, b_l4, b_l5, b_l6, Bool.true_and, Bool.and_true, cond_true, b01_0, b01_1, i10, true_and, and_true, true_or, or_true, u_rd, u_2, u_at, reduceIte, eq_self, not_true_eq_false, not_false_eq_true, false_imp_iff, true_imp_iff, forall_const, b_nm3_0, b_nm3_1, b_nm3_2, b_nm3_3, b_nm3_4, b_nm3_5, b_nm3_6, b_nm3_7, b_nm3_8, b_nm3_9, b_nm3_10, b_nm3_11, b_nm3_100, b_nm3_101, b_nm3_102, b_nm3_200, b_nm3_201, b_nm3_202, b_nm3_203, b_nm3_204, b_nm3_205, b_nm3_206, b_nm3_207, b_nm3_208, b_ns2_0, b_ns2_1, b_ns2_2, b_ns2_3, b_ns2_4, b_ns2_5, b_ns2_6, b_ns2_7, b_ns2_8, b_ns2_9, b_ns2_10, b_ns2_11, b_ns2_12, b_ns2_13, b_ns2_14, b_ns2_15, b_ns2_16, b_ns2_17, b_ns2_18, b_ns2_19, b_ns2_20, b_ns2_21, b_ns2_22, b_ns2_23, b_ns2_24, b_ns2_25, b_ns2_26, b_ns2_27, b_ns2_28, b_ns2_29, b_ns2_30, b_ns2_31, b_ns2_32, b_ns2_33, b_ns2_34, b_ns2_35, b_ns2_36, b_ns2_37, b_ns2_38, b_ns2_39, b_ns2_40, b_ns2_41, b_ns2_42, b_ns2_43, b_ns2_44, b_ns2_45, b_ns2_50, b_ns2_51, b_ns2_52, b_ns2_53, b_ns2_54, b_ns2_55, b_ns2_56, b_ns2_57, b_ns2_58, b_ns2_59, b_ns2_60, b_ns2_61, b_ns2_62, b_ns2_63, b_ns2_64, b_ns2_65, b_ns2_66, b_ns2_67, b_ns2_68, b_ns2_69, b_ns2_70, b_ns2_71, b_ns2_72, b_ns2_73, b_ns2_74, b_ns2_75, b_ns2_76, b_ns2_77, b_ns2_78, b_ns2_79, b_ns2_80, b_ns2_81, b_ns2_82, b_ns2_83, b_ns2_84, b_ns2_85, b_ns2_86, b_ns2_87, b_ns2_88, v1, e1, l66, l68, l69, r66, ri, ti, hnow', nI_1]
        refine ⟨fun h => ?_, fun h => ?_⟩
        · have ho : th_out T sp.toInt dm.toInt (μ.1 66) (μ.1 70) i = true := by
            unfold th_out
            rw [decide_eq_true_eq, ← hkp, ← tm]
            rw [i_lt] at h
            omega
          refine ih _ _ _ rfl (fr_up (fr_up hf rfl) rfl) (fun j hjn => ?_) (fun j hjn => ?_) ?_
          · simp +decide only [b_res, b_resN, b_nm0, b_nm1, b_nm2, b_ns0, b_ns1, b_l0, b_l1, b_l2, b_l3, b_l4, b_l5, b_l6, Bool.true_and, Bool.and_true, cond_true, b01_0, b01_1, i10, true_and, and_true, true_or, or_true, u_rd, u_2, u_at, reduceIte, eq_self, not_true_eq_false, not_false_eq_true, false_imp_iff, true_imp_iff, forall_const, b_nm3_0, b_nm3_1, b_nm3_2, b_nm3_3, b_nm3_4, b_nm3_5, b_nm3_6, b_nm3_7, b_nm3_8, b_nm3_9, b_nm3_10, b_nm3_11, b_nm3_100, b_nm3_101, b_nm3_102, b_nm3_200, b_nm3_201, b_nm3_202, b_nm3_203, b_nm3_204, b_nm3_205, b_nm3_206, b_nm3_207, b_nm3_208, b_ns2_0, b_ns2_1, b_ns2_2, b_ns2_3, b_ns2_4, b_ns2_5, b_ns2_6, b_ns2_7, b_ns2_8, b_ns2_9, b_ns2_10, b_ns2_11, b_ns2_12, b_ns2_13, b_ns2_14, b_ns2_15, b_ns2_16, b_ns2_17, b_ns2_18, b_ns2_19, b_ns2_20, b_ns2_21, b_ns2_22, b_ns2_23, b_ns2_24, b_ns2_25, b_ns2_26, b_ns2_27, b_ns2_28, b_ns2_29, b_ns2_30, b_ns2_31, b_ns2_32, b_ns2_33, b_ns2_34, b_ns2_35, b_ns2_36, b_ns2_37, b_ns2_38, b_ns2_39, b_ns2_40, b_ns2_41, b_ns2_42, b_ns2_43, b_ns2_44, b_ns2_45, b_ns2_50, b_ns2_51, b_ns2_52, b_ns2_53, b_ns2_54, b_ns2_55, b_ns2_56, b_ns2_57, b_ns2_58, b_ns2_59, b_ns2_60, b_ns2_61, b_ns2_62, b_ns2_63, b_ns2_64, b_ns2_65, b_ns2_66, b_ns2_67, b_ns2_68, b_ns2_69, b_ns2_70, b_ns2_71, b_ns2_72, b_ns2_73, b_ns2_74, b_ns2_75, b_ns2_76, b_ns2_77, b_ns2_78, b_ns2_79, b_ns2_80, b_ns2_81, b_ns2_82, b_ns2_83, b_ns2_84, b_ns2_85, b_ns2_86, b_ns2_87, b_ns2_88]
            by_cases e : j = i
            · subst e
              rw [if_pos rfl, if_pos ⟨by omega, ho⟩]
            · rw [if_neg e, hr j hjn]
              simp only [show (j < i + 1) = (j < i) from propext ⟨fun z => by omega, fun z => by omega⟩]
          · simp +decide only [b_res, b_resN, b_nm0, b_nm1, b_nm2, b_ns0, b_ns1, b_l0, b_l1, b_l2, b_l3, b_l4, b_l5, b_l6, Bool.true_and, Bool.and_true, cond_true, b01_0, b01_1, i10, true_and, and_true, true_or, or_true, u_rd, u_2, u_at, reduceIte, eq_self, not_true_eq_false, not_false_eq_true, false_imp_iff, true_imp_iff, forall_const, b_nm3_0, b_nm3_1, b_nm3_2, b_nm3_3, b_nm3_4, b_nm3_5, b_nm3_6, b_nm3_7, b_nm3_8, b_nm3_9, b_nm3_10, b_nm3_11, b_nm3_100, b_nm3_101, b_nm3_102, b_nm3_200, b_nm3_201, b_nm3_202, b_nm3_203, b_nm3_204, b_nm3_205, b_nm3_206, b_nm3_207, b_nm3_208, b_ns2_0, b_ns2_1, b_ns2_2, b_ns2_3, b_ns2_4, b_ns2_5, b_ns2_6, b_ns2_7, b_ns2_8, b_ns2_9, b_ns2_10, b_ns2_11, b_ns2_12, b_ns2_13, b_ns2_14, b_ns2_15, b_ns2_16, b_ns2_17, b_ns2_18, b_ns2_19, b_ns2_20, b_ns2_21, b_ns2_22, b_ns2_23, b_ns2_24, b_ns2_25, b_ns2_26, b_ns2_27, b_ns2_28, b_ns2_29, b_ns2_30, b_ns2_31, b_ns2_32, b_ns2_33, b_ns2_34, b_ns2_35, b_ns2_36, b_ns2_37, b_ns2_38, b_ns2_39, b_ns2_40, b_ns2_41, b_ns2_42, b_ns2_43, b_ns2_44, b_ns2_45, b_ns2_50, b_ns2_51, b_ns2_52, b_ns2_53, b_ns2_54, b_ns2_55, b_ns2_56, b_ns2_57, b_ns2_58, b_ns2_59, b_ns2_60, b_ns2_61, b_ns2_62, b_ns2_63, b_ns2_64, b_ns2_65, b_ns2_66, b_ns2_67, b_ns2_68, b_ns2_69, b_ns2_70, b_ns2_71, b_ns2_72, b_ns2_73, b_ns2_74, b_ns2_75, b_ns2_76, b_ns2_77, b_ns2_78, b_ns2_79, b_ns2_80, b_ns2_81, b_ns2_82, b_ns2_83, b_ns2_84, b_ns2_85, b_ns2_86, b_ns2_87, b_ns2_88]
            by_cases e : j = i
            · subst e
              rw [if_pos rfl, if_pos ⟨by omega, ho⟩]
            · rw [if_neg e, ht j hjn]
              simp only [show (j < i + 1) = (j < i) from propext ⟨fun z => by omega, fun z => by omega⟩]
          · rw [pu_sum, i_add (by omega) (by omega), ha]
            try dsimp only
            rw [if_pos ho]
        · have ho : ¬ th_out T sp.toInt dm.toInt (μ.1 66) (μ.1 70) i = true := by
            unfold th_out
            rw [decide_eq_true_eq, ← hkp, ← tm]
            rw [i_lt] at h
            omega
          refine ih μ' acc _ rfl hf (fun j hjn => ?_) (fun j hjn => ?_) ?_
          · rw [hr j hjn]
            by_cases e : j = i
            · subst e
              rw [if_neg (by omega), if_neg (fun z => ho z.2)]
            · simp only [show (j < i + 1) = (j < i) from propext ⟨fun z => by omega, fun z => by omega⟩]
          · rw [ht j hjn]
            by_cases e : j = i
            · subst e
              rw [if_neg (by omega), if_neg (fun z => ho z.2)]
            · simp only [show (j < i + 1) = (j < i) from propext ⟨fun z => by omega, fun z => by omega⟩]
          · rw [pu_sum, ha]
            try dsimp only
            rw [if_neg ho]
            omega
      rw [s_159_35]
      simp +decide only [s_159_37, s_159_38, s_159_41, s_159_44, s_159_45, s_159_48, s_159_50, s_159_51, s_159_54, s_159_55, s_159_58, s_159_59, s_159_62, s_159_63, s_159_66, s_159_67, b_res, b_resN, b_nm0, b_nm1, b_nm2, b_ns0, b_ns1, b_l0, b_l1, b_l2, b_l3, b_l4, b_l5, b_l6, Bool.true_and, Bool.and_true, cond_true, b01_0, b01_1, i10, true_and, and_true, true_or, or_true, u_rd, u_2, u_at, reduceIte, eq_self, not_true_eq_false, not_false_eq_true, false_imp_iff, true_imp_iff, forall_const, b_nm3_0, b_nm3_1, b_nm3_2, b_nm3_3, b_nm3_4, b_nm3_5, b_nm3_6, b_nm3_7, b_nm3_8, b_nm3_9, b_nm3_10, b_nm3_11, b_nm3_100, b_nm3_101, b_nm3_102, b_nm3_200, b_nm3_201, b_nm3_202, b_nm3_203, b_nm3_204, b_nm3_205, b_nm3_206, b_nm3_207, b_nm3_208, b_ns2_0, b_ns2_1, b_ns2_2, b_ns2_3, b_ns2_4, b_ns2_5, b_ns2_6, b_ns2_7, b_ns2_8, b_ns2_9, b_ns2_10, b_ns2_11, b_ns2_12, b_ns2_13, b_ns2_14, b_ns2_15, b_ns2_16, b_ns2_17, b_ns2_18, b_ns2_19, b_ns2_20, b_ns2_21, b_ns2_22, b_ns2_23, b_ns2_24, b_ns2_25, b_ns2_26, b_ns2_27, b_ns2_28, b_ns2_29, b_ns2_30, b_ns2_31, b_ns2_32, b_ns2_33, b_ns2_34, b_ns2_35, b_ns2_36, b_ns2_37, b_ns2_38, b_ns2_39, b_ns2_40, b_ns2_41, b_ns2_42, b_ns2_43, b_ns2_44, b_ns2_45, b_ns2_50, b_ns2_51, b_ns2_52, b_ns2_53, b_ns2_54, b_ns2_55, b_ns2_56, b_ns2_57, b_ns2_58, b_ns2_59, b_ns2_60, b_ns2_61, b_ns2_62, b_ns2_63, b_ns2_64, b_ns2_65, b_ns2_66, b_ns2_67, b_ns2_68, b_ns2_69, b_ns2_70, b_ns2_71, b_ns2_72, b_ns2_73, b_ns2_74, b_ns2_75, b_ns2_76, b_ns2_77, b_ns2_78, b_ns2_79, b_ns2_80, b_ns2_81, b_ns2_82, b_ns2_83, b_ns2_84, b_ns2_85, b_ns2_86, b_ns2_87, b_ns2_88, hn', g4, v1, e1, l70, r70]
      refine ⟨fun h => body _ ?_, fun h => ⟨fun z => body _ ?_, fun z => body _ ?_⟩⟩
      · rw [if_pos h]
      · rw [if_neg h, hd]
        rw [i_le, kI_0, hd] at z
        rw [if_neg (by omega)]
      · rw [if_neg h, kI_0]
        rw [i_le, kI_0, hd] at z
        rw [if_pos (by omega)]
  simp +decide only [s_159_0, s_159_1, s_159_2, s_159_3, s_159_4, s_159_7, s_159_8, s_159_11, s_159_12, s_159_15, s_159_16, s_159_17, s_159_18, s_159_19, s_159_22, s_159_23, s_159_26, s_159_27, s_159_30, s_159_31, s_159_32, s_159_33, s_159_37, s_159_38, s_159_41, s_159_44, s_159_45, s_159_48, s_159_50, s_159_51, s_159_54, s_159_55, s_159_58, s_159_59, s_159_62, s_159_63, s_159_66, s_159_67, s_159_69, s_159_70, s_159_73, s_159_74, s_159_77, s_159_79, s_159_80, s_159_81, s_159_83, s_159_86, s_159_89, s_159_90, s_159_91, s_159_94, s_159_96, s_159_97, s_159_98, s_159_99, s_159_100, s_159_103, s_159_105, s_159_106, s_159_107, s_159_108, s_159_111, s_159_113, s_159_114, s_159_115, s_159_116, s_159_117, s_159_120, s_159_122, s_159_123, s_159_124, s_159_127, s_159_130, s_159_131, b_res, b_resN, b_nm0, b_nm1, b_nm2, b_ns0, b_ns1, b_l0, b_l1, b_l2, b_l3, b_l4, b_l5, b_l6, Bool.true_and, Bool.and_true, cond_true, b01_0, b01_1, i10, true_and, and_true, true_or, or_true, u_rd, u_2, u_at, reduceIte, eq_self, not_true_eq_false, not_false_eq_true, false_imp_iff, true_imp_iff, forall_const, b_nm3_0, b_nm3_1, b_nm3_2, b_nm3_3, b_nm3_4, b_nm3_5, b_nm3_6, b_nm3_7, b_nm3_8, b_nm3_9, b_nm3_10, b_nm3_11, b_nm3_100, b_nm3_101, b_nm3_102, b_nm3_200, b_nm3_201, b_nm3_202, b_nm3_203, b_nm3_204, b_nm3_205, b_nm3_206, b_nm3_207, b_nm3_208, b_ns2_0, b_ns2_1, b_ns2_2, b_ns2_3, b_ns2_4, b_ns2_5, b_ns2_6, b_ns2_7, b_ns2_8, b_ns2_9, b_ns2_10, b_ns2_11, b_ns2_12, b_ns2_13, b_ns2_14, b_ns2_15, b_ns2_16, b_ns2_17, b_ns2_18, b_ns2_19, b_ns2_20, b_ns2_21, b_ns2_22, b_ns2_23, b_ns2_24, b_ns2_25, b_ns2_26, b_ns2_27, b_ns2_28, b_ns2_29, b_ns2_30, b_ns2_31, b_ns2_32, b_ns2_33, b_ns2_34, b_ns2_35, b_ns2_36, b_ns2_37, b_ns2_38, b_ns2_39, b_ns2_40, b_ns2_41, b_ns2_42, b_ns2_43, b_ns2_44, b_ns2_45, b_ns2_50, b_ns2_51, b_ns2_52, b_ns2_53, b_ns2_54, b_ns2_55, b_ns2_56, b_ns2_57, b_ns2_58, b_ns2_59, b_ns2_60, b_ns2_61, b_ns2_62, b_ns2_63, b_ns2_64, b_ns2_65, b_ns2_66, b_ns2_67, b_ns2_68, b_ns2_69, b_ns2_70, b_ns2_71, b_ns2_72, b_ns2_73, b_ns2_74, b_ns2_75, b_ns2_76, b_ns2_77, b_ns2_78, b_ns2_79, b_ns2_80, b_ns2_81, b_ns2_82, b_ns2_83, b_ns2_84, b_ns2_85, b_ns2_86, b_ns2_87, b_ns2_88, hnow]
  refine m_lawv (w := 1) E rfl rfl rfl rfl rfl (by omega) ?_
  simp +decide only [s_159_0, s_159_1, s_159_2, s_159_3, s_159_4, s_159_7, s_159_8, s_159_11, s_159_12, s_159_15, s_159_16, s_159_17, s_159_18, s_159_19, s_159_22, s_159_23, s_159_26, s_159_27, s_159_30, s_159_31, s_159_32, s_159_33, s_159_37, s_159_38, s_159_41, s_159_44, s_159_45, s_159_48, s_159_50, s_159_51, s_159_54, s_159_55, s_159_58, s_159_59, s_159_62, s_159_63, s_159_66, s_159_67, s_159_69, s_159_70, s_159_73, s_159_74, s_159_77, s_159_79, s_159_80, s_159_81, s_159_83, s_159_86, s_159_89, s_159_90, s_159_91, s_159_94, s_159_96, s_159_97, s_159_98, s_159_99, s_159_100, s_159_103, s_159_105, s_159_106, s_159_107, s_159_108, s_159_111, s_159_113, s_159_114, s_159_115, s_159_116, s_159_117, s_159_120, s_159_122, s_159_123, s_159_124, s_159_127, s_159_130, s_159_131, b_res, b_resN, b_nm0, b_nm1, b_nm2, b_ns0, b_ns1, b_l0, b_l1, b_l2, b_l3, b_l4, b_l5, b_l6, Bool.true_and, Bool.and_true, cond_true, b01_0, b01_1, i10, true_and, and_true, true_or, or_true, u_rd, u_2, u_at, reduceIte, eq_self, not_true_eq_false, not_false_eq_true, false_imp_iff, true_imp_iff, forall_const, b_nm3_0, b_nm3_1, b_nm3_2, b_nm3_3, b_nm3_4, b_nm3_5, b_nm3_6, b_nm3_7, b_nm3_8, b_nm3_9, b_nm3_10, b_nm3_11, b_nm3_100, b_nm3_101, b_nm3_102, b_nm3_200, b_nm3_201, b_nm3_202, b_nm3_203, b_nm3_204, b_nm3_205, b_nm3_206, b_nm3_207, b_nm3_208, b_ns2_0, b_ns2_1, b_ns2_2, b_ns2_3, b_ns2_4, b_ns2_5, b_ns2_6, b_ns2_7, b_ns2_8, b_ns2_9, b_ns2_10, b_ns2_11, b_ns2_12, b_ns2_13, b_ns2_14, b_ns2_15, b_ns2_16, b_ns2_17, b_ns2_18, b_ns2_19, b_ns2_20, b_ns2_21, b_ns2_22, b_ns2_23, b_ns2_24, b_ns2_25, b_ns2_26, b_ns2_27, b_ns2_28, b_ns2_29, b_ns2_30, b_ns2_31, b_ns2_32, b_ns2_33, b_ns2_34, b_ns2_35, b_ns2_36, b_ns2_37, b_ns2_38, b_ns2_39, b_ns2_40, b_ns2_41, b_ns2_42, b_ns2_43, b_ns2_44, b_ns2_45, b_ns2_50, b_ns2_51, b_ns2_52, b_ns2_53, b_ns2_54, b_ns2_55, b_ns2_56, b_ns2_57, b_ns2_58, b_ns2_59, b_ns2_60, b_ns2_61, b_ns2_62, b_ns2_63, b_ns2_64, b_ns2_65, b_ns2_66, b_ns2_67, b_ns2_68, b_ns2_69, b_ns2_70, b_ns2_71, b_ns2_72, b_ns2_73, b_ns2_74, b_ns2_75, b_ns2_76, b_ns2_77, b_ns2_78, b_ns2_79, b_ns2_80, b_ns2_81, b_ns2_82, b_ns2_83, b_ns2_84, b_ns2_85, b_ns2_86, b_ns2_87, b_ns2_88, hnow, ← hsp]
  refine m_lawv (w := 2) E rfl rfl rfl rfl rfl (by omega) ?_
  simp +decide only [s_159_0, s_159_1, s_159_2, s_159_3, s_159_4, s_159_7, s_159_8, s_159_11, s_159_12, s_159_15, s_159_16, s_159_17, s_159_18, s_159_19, s_159_22, s_159_23, s_159_26, s_159_27, s_159_30, s_159_31, s_159_32, s_159_33, s_159_37, s_159_38, s_159_41, s_159_44, s_159_45, s_159_48, s_159_50, s_159_51, s_159_54, s_159_55, s_159_58, s_159_59, s_159_62, s_159_63, s_159_66, s_159_67, s_159_69, s_159_70, s_159_73, s_159_74, s_159_77, s_159_79, s_159_80, s_159_81, s_159_83, s_159_86, s_159_89, s_159_90, s_159_91, s_159_94, s_159_96, s_159_97, s_159_98, s_159_99, s_159_100, s_159_103, s_159_105, s_159_106, s_159_107, s_159_108, s_159_111, s_159_113, s_159_114, s_159_115, s_159_116, s_159_117, s_159_120, s_159_122, s_159_123, s_159_124, s_159_127, s_159_130, s_159_131, b_res, b_resN, b_nm0, b_nm1, b_nm2, b_ns0, b_ns1, b_l0, b_l1, b_l2, b_l3, b_l4, b_l5, b_l6, Bool.true_and, Bool.and_true, cond_true, b01_0, b01_1, i10, true_and, and_true, true_or, or_true, u_rd, u_2, u_at, reduceIte, eq_self, not_true_eq_false, not_false_eq_true, false_imp_iff, true_imp_iff, forall_const, b_nm3_0, b_nm3_1, b_nm3_2, b_nm3_3, b_nm3_4, b_nm3_5, b_nm3_6, b_nm3_7, b_nm3_8, b_nm3_9, b_nm3_10, b_nm3_11, b_nm3_100, b_nm3_101, b_nm3_102, b_nm3_200, b_nm3_201, b_nm3_202, b_nm3_203, b_nm3_204, b_nm3_205, b_nm3_206, b_nm3_207, b_nm3_208, b_ns2_0, b_ns2_1, b_ns2_2, b_ns2_3, b_ns2_4, b_ns2_5, b_ns2_6, b_ns2_7, b_ns2_8, b_ns2_9, b_ns2_10, b_ns2_11, b_ns2_12, b_ns2_13, b_ns2_14, b_ns2_15, b_ns2_16, b_ns2_17, b_ns2_18, b_ns2_19, b_ns2_20, b_ns2_21, b_ns2_22, b_ns2_23, b_ns2_24, b_ns2_25, b_ns2_26, b_ns2_27, b_ns2_28, b_ns2_29, b_ns2_30, b_ns2_31, b_ns2_32, b_ns2_33, b_ns2_34, b_ns2_35, b_ns2_36, b_ns2_37, b_ns2_38, b_ns2_39, b_ns2_40, b_ns2_41, b_ns2_42, b_ns2_43, b_ns2_44, b_ns2_45, b_ns2_50, b_ns2_51, b_ns2_52, b_ns2_53, b_ns2_54, b_ns2_55, b_ns2_56, b_ns2_57, b_ns2_58, b_ns2_59, b_ns2_60, b_ns2_61, b_ns2_62, b_ns2_63, b_ns2_64, b_ns2_65, b_ns2_66, b_ns2_67, b_ns2_68, b_ns2_69, b_ns2_70, b_ns2_71, b_ns2_72, b_ns2_73, b_ns2_74, b_ns2_75, b_ns2_76, b_ns2_77, b_ns2_78, b_ns2_79, b_ns2_80, b_ns2_81, b_ns2_82, b_ns2_83, b_ns2_84, b_ns2_85, b_ns2_86, b_ns2_87, b_ns2_88, hnow, ← hdm]
  refine key 0 (by omega) μ 0 _ rfl fr_rfl (fun j hj => ?_) (fun j hj => ?_) rfl
  · rw [if_neg (by omega)]
  · rw [if_neg (by omega)]
