-- what is due, in numbers
def pn_sum (f : Nat → Nat) : Nat → Nat
  | 0 => 0
  | n + 1 => pn_sum f n + f n
theorem pn_le {f : Nat → Nat} {B : Nat} : ∀ {n : Nat}, (∀ p, p < n → f p ≤ B) → pn_sum f n ≤ B * n
  | 0, _ => by rw [pn_sum]; omega
  | n + 1, h => by
    have h1 := pn_le (f := f) (B := B) (n := n) (fun p hp => h p (by omega))
    have h2 := h n (by omega)
    rw [pn_sum, Nat.mul_add]
    omega
theorem pn_mono {f : Nat → Nat} {i : Nat} : ∀ {n : Nat}, i ≤ n → pn_sum f i ≤ pn_sum f n
  | 0, h => by rw [show i = 0 by omega]; omega
  | n + 1, h => by
    by_cases e : i = n + 1
    · rw [e]; omega
    · have := pn_mono (f := f) (i := i) (n := n) (by omega)
      rw [pn_sum]
      omega
theorem pn_cong {f g : Nat → Nat} : ∀ {n : Nat}, (∀ p, p < n → f p = g p) → pn_sum f n = pn_sum g n
  | 0, _ => rfl
  | n + 1, h => by rw [pn_sum, pn_sum, pn_cong (fun p hp => h p (by omega)), h n (by omega)]
def du_0 (get : Nat → Bool) (s : Nat) (p : Nat) : Nat := if get p = true then s else 0
def du_1 (get : Nat → Bool) (s : Nat) (rv : Nat → Nat) (p : Nat) : Nat := if get p = true then s * rv p / 100 else 0
def du_ov (d1 : Nat → Nat) (H A : Nat) : Nat → Int
  | 0 => (H : Int) - (pn_sum (fun p => d1 p * H / A) 30 : Nat)
  | p + 1 => if 0 < d1 p ∧ 0 < du_ov d1 H A p then du_ov d1 H A p - 1 else du_ov d1 H A p
def du_3 (d1 : Nat → Nat) (H A : Nat) (p : Nat) : Nat := d1 p * H / A + (if 0 < d1 p ∧ 0 < du_ov d1 H A p then 1 else 0)
def du (get : Nat → Bool) (s : Nat) (rv : Nat → Nat) (H : Nat) (p : Nat) : Nat := if pn_sum (du_0 get s) 30 ≤ H then du_0 get s p else if pn_sum (du_1 get s rv) 30 ≤ H then du_1 get s rv p else du_3 (du_1 get s rv) H (pn_sum (du_1 get s rv) 30) p
theorem du_1_le {get : Nat → Bool} {s : Nat} {rv : Nat → Nat} (hs : s ≤ 50) (hr : ∀ p, rv p ≤ 100) (p : Nat) : du_1 get s rv p ≤ 50 := by
  unfold du_1
  split
  · have h1 : s * rv p ≤ 50 * 100 := Nat.mul_le_mul hs (hr p)
    omega
  · omega
theorem du_2_le {d1 : Nat → Nat} {H A : Nat} (h1 : ∀ p, d1 p ≤ 50) (hH : H ≤ 20000) (p : Nat) : d1 p * H ≤ 1000000 ∧ d1 p * H / A ≤ 1000000 := by
  have h2 : d1 p * H ≤ 50 * 20000 := Nat.mul_le_mul (h1 p) hH
  have h3 := Nat.div_le_self (d1 p * H) A
  omega
theorem du_ov_b {d1 : Nat → Nat} {H A : Nat} (h1 : ∀ p, d1 p ≤ 50) (hH : H ≤ 20000) : ∀ p, -40000000 ≤ du_ov d1 H A p ∧ du_ov d1 H A p ≤ 20000
  | 0 => by
    rw [du_ov]
    have := pn_le (f := fun p => d1 p * H / A) (B := 1000000) (n := 30) (fun p hp => (du_2_le h1 hH p).2)
    omega
  | p + 1 => by
    have ih := du_ov_b (A := A) h1 hH p
    rw [du_ov]
    split <;> omega
theorem du_2_sum {d1 : Nat → Nat} {H A : Nat} : ∀ n, pn_sum (fun p => d1 p * H / A) n * A ≤ pn_sum d1 n * H
  | 0 => by rw [pn_sum, pn_sum]; omega
  | n + 1 => by
    rw [pn_sum, pn_sum, Nat.add_mul, Nat.add_mul]
    have := du_2_sum (d1 := d1) (H := H) (A := A) n
    have h2 := Nat.div_mul_le_self (d1 n * H) A
    omega
theorem du_3_sum {d1 : Nat → Nat} {H A : Nat} : ∀ n, (pn_sum (du_3 d1 H A) n : Int) = (pn_sum (fun p => d1 p * H / A) n : Nat) + (du_ov d1 H A 0 - du_ov d1 H A n)
  | 0 => by rw [pn_sum, pn_sum]; omega
  | n + 1 => by
    have ih := du_3_sum (d1 := d1) (H := H) (A := A) n
    have e : du_ov d1 H A (n + 1) = if 0 < d1 n ∧ 0 < du_ov d1 H A n then du_ov d1 H A n - 1 else du_ov d1 H A n := rfl
    rw [pn_sum, pn_sum, e]
    have e3 : du_3 d1 H A n = d1 n * H / A + (if 0 < d1 n ∧ 0 < du_ov d1 H A n then 1 else 0) := rfl
    rw [e3]
    generalize d1 n * H / A = z
    split <;> omega
theorem du_ov_pos {d1 : Nat → Nat} {H A : Nat} (h : 0 ≤ du_ov d1 H A 0) : ∀ n, 0 ≤ du_ov d1 H A n
  | 0 => h
  | n + 1 => by
    have ih := du_ov_pos h n
    rw [du_ov]
    split <;> omega
theorem du_le {get : Nat → Bool} {s : Nat} {rv : Nat → Nat} {H : Nat} (hs : s ≤ 50) (hr : ∀ p, rv p ≤ 100) (p : Nat) : du get s rv H p ≤ 50 := by
  unfold du
  split
  · unfold du_0
    split <;> omega
  · split
    · exact du_1_le hs hr p
    · have h1 := du_1_le (get := get) (s := s) (rv := rv) hs hr p
      rename_i hA
      unfold du_3
      generalize pn_sum (du_1 get s rv) 30 = A at hA ⊢
      generalize du_1 get s rv p = d at h1 ⊢
      by_cases hd : 0 < d
      · have hlt : d * H / A < d := by
          rw [Nat.div_lt_iff_lt_mul (by omega)]
          exact Nat.mul_lt_mul_of_pos_left (by omega) hd
        split <;> omega
      · have : d = 0 := by omega
        rw [this, Nat.zero_mul, Nat.zero_div]
        split <;> omega
theorem du_sum {get : Nat → Bool} {s : Nat} {rv : Nat → Nat} {H : Nat} : pn_sum (du get s rv H) 30 ≤ H := by
  by_cases h1 : pn_sum (du_0 get s) 30 ≤ H
  · rw [pn_cong (g := du_0 get s) (fun p hp => by unfold du; rw [if_pos h1])]
    exact h1
  · by_cases h2 : pn_sum (du_1 get s rv) 30 ≤ H
    · rw [pn_cong (g := du_1 get s rv) (fun p hp => by unfold du; rw [if_neg h1, if_pos h2])]
      exact h2
    · rw [pn_cong (g := du_3 (du_1 get s rv) H (pn_sum (du_1 get s rv) 30)) (fun p hp => by unfold du; rw [if_neg h1, if_neg h2])]
      have a1 := du_3_sum (d1 := du_1 get s rv) (H := H) (A := pn_sum (du_1 get s rv) 30) 30
      have a2 := du_2_sum (d1 := du_1 get s rv) (H := H) (A := pn_sum (du_1 get s rv) 30) 30
      have a3 : pn_sum (fun p => du_1 get s rv p * H / pn_sum (du_1 get s rv) 30) 30 ≤ H := by
        refine Nat.le_of_mul_le_mul_right (c := pn_sum (du_1 get s rv) 30) ?_ (by omega)
        rw [Nat.mul_comm H]
        exact a2
      have a4 : 0 ≤ du_ov (du_1 get s rv) H (pn_sum (du_1 get s rv) 30) 0 := by
        rw [du_ov]
        omega
      have a5 := du_ov_pos a4 30
      have a6 : du_ov (du_1 get s rv) H (pn_sum (du_1 get s rv) 30) 0 = (H : Int) - (pn_sum (fun p => du_1 get s rv p * H / pn_sum (du_1 get s rv) 30) 30 : Nat) := by rw [du_ov]
      omega
-- the class's dues
theorem c_dueShares {μ : ab_S} {b : ab_B} {Q : ab_Q} {get : Nat → Bool} {s : Nat} (hs : s ≤ 50) (l1 : μ.2 42 = 30) (l2 : μ.2 25 = 30) (l3 : μ.2 50 = 30) (hg : ∀ p, p < 30 → (get p = true ↔ ¬ μ.1 42 p = 0 ∧ ¬ μ.1 25 p = -1)) (hQ : ∀ μ', ab_fr (fw [50] []) μ μ' → (∀ p, p < 30 → μ'.1 50 p = nI (du_0 get s p)) → Q (some (nI (pn_sum (du_0 get s) 30))) μ') : gd_run 38 0 [some (.inr 10), some (.inl (nI s)), none, none, none] [] μ b Q := by
  have key : ∀ i, i ≤ 30 → ∀ μ' x4, ab_nm gd_mv [x4] = true → ab_fr (fw [50] []) μ μ' → (∀ p, p < i → μ'.1 50 p = nI (du_0 get s p)) → gd_run 38 4 [some (.inr 10), some (.inl (nI s)), some (.inl (nI (pn_sum (du_0 get s) i))), some (.inl (nI i)), x4] [] μ' b Q := by
    refine lp_up (fun μ' x4 hx hf hd => ?_) (fun i hi ih μ' x4 hx hf hd => ?_)
    · have g4 : ((30 : Int32) ≤ nI 30) = True := by decide
      rw [s_38_4]
      simp +decide only [s_38_0, s_38_1, s_38_2, s_38_3, s_38_5, s_38_7, s_38_10, s_38_11, s_38_14, s_38_15, s_38_18, s_38_21, s_38_22, s_38_25, s_38_26, s_38_29, s_38_30, s_38_33, s_38_34, s_38_37, s_38_38, s_38_40, s_38_41, s_38_44, s_38_45, s_38_47, s_38_50, s_38_51, s_38_54, s_38_55, s_38_56, s_38_57, s_38_58, s_38_61, s_38_62, s_38_63, s_38_64, s_38_65, s_38_68, s_38_71, s_38_72, b_res, b_resN, b_nm0, b_nm1, b_nm2, b_ns0, b_ns1, b_l0, b_l1, b_l2, b_l3, b_l4, b_l5, b_l6, Bool.true_and, Bool.and_true, cond_true, b01_0, b01_1, i10, true_and, and_true, true_or, or_true, u_rd, u_2, u_at, reduceIte, eq_self, not_true_eq_false, not_false_eq_true, false_imp_iff, true_imp_iff, forall_const, b_nm3_0, b_nm3_1, b_nm3_2, b_nm3_3, b_nm3_4, b_nm3_5, b_nm3_6, b_nm3_7, b_nm3_8, b_nm3_9, b_nm3_10, b_nm3_11, b_nm3_100, b_nm3_101, b_nm3_102, b_nm3_200, b_nm3_201, b_nm3_202, b_nm3_203, b_nm3_204, b_nm3_205, b_nm3_206, b_nm3_207, b_nm3_208, b_ns2_0, b_ns2_1, b_ns2_2, b_ns2_3, b_ns2_4, b_ns2_5, b_ns2_6, b_ns2_7, b_ns2_8, b_ns2_9, b_ns2_10, b_ns2_11, b_ns2_12, b_ns2_13, b_ns2_14, b_ns2_15, b_ns2_16, b_ns2_17, b_ns2_18, b_ns2_19, b_ns2_20, b_ns2_21, b_ns2_22, b_ns2_23, b_ns2_24, b_ns2_25, b_ns2_26, b_ns2_27, b_ns2_28, b_ns2_29, b_ns2_30, b_ns2_31, b_ns2_32, b_ns2_33, b_ns2_34, b_ns2_35, b_ns2_36, b_ns2_37, b_ns2_38, b_ns2_39, b_ns2_40, b_ns2_41, b_ns2_42, b_ns2_43, b_ns2_44, b_ns2_45, b_ns2_50, b_ns2_51, b_ns2_52, b_ns2_53, b_ns2_54, b_ns2_55, b_ns2_56, b_ns2_57, b_ns2_58, b_ns2_59, b_ns2_60, b_ns2_61, b_ns2_62, b_ns2_63, b_ns2_64, b_ns2_65, b_ns2_66, b_ns2_67, b_ns2_68, b_ns2_69, b_ns2_70, b_ns2_71, b_ns2_72, b_ns2_73, b_ns2_74, b_ns2_75, b_ns2_76, b_ns2_77, b_ns2_78, b_ns2_79, b_ns2_80, b_ns2_81, b_ns2_82, b_ns2_83, b_ns2_84, b_ns2_85, b_ns2_86, b_ns2_87, b_ns2_88, g4]
      exact hQ μ' hf hd
    · have g4 : ((30 : Int32) ≤ nI i) = False := q_nle (b := 30) (by omega) (by omega)
      have g1 : (nI i < 0) = False := q_n0 (by omega)
      have v1 : vp_in (nI i) 30 = True := q_in (by omega) (by omega)
      have e1 : (nI i).toNatClampNeg = i := nI_clamp (by omega)
      have l1' : μ'.2 42 = 30 := by rw [hf.1]; exact l1
      have l2' : μ'.2 25 = 30 := by rw [hf.1]; exact l2
      have l3' : μ'.2 50 = 30 := by rw [hf.1]; exact l3
      have r42 : μ'.1 42 i = μ.1 42 i := hf.2 _ _ rfl
      have r25 : μ'.1 25 i = μ.1 25 i := hf.2 _ _ rfl
      have fin : ∀ d : Nat, d = du_0 get s i → gd_run 38 4 [some (.inr 10), some (.inl (nI s)), some (.inl (nI (pn_sum (du_0 get s) i) + nI d)), some (.inl (nI (i + 1))), some (.inl (if get i = true then 1 else 0))] [] (ab_up μ' 50 i (nI d)) b Q := by
        intro d hdd
        have := ih (ab_up μ' 50 i (nI d)) (some (.inl (if get i = true then 1 else 0))) rfl (fr_up hf rfl) (fun p hp => by
          simp +decide only [b_res, b_resN, b_nm0, b_nm1, b_nm2, b_ns0, b_ns1, b_l0, b_l1, b_l2, b_l3, b_l4, b_l5, b_l6, Bool.true_and, Bool.and_true, cond_true, b01_0, b01_1, i10, true_and, and_true, true_or, or_true, u_rd, u_2, u_at, reduceIte, eq_self, not_true_eq_false, not_false_eq_true, false_imp_iff, true_imp_iff, forall_const, b_nm3_0, b_nm3_1, b_nm3_2, b_nm3_3, b_nm3_4, b_nm3_5, b_nm3_6, b_nm3_7, b_nm3_8, b_nm3_9, b_nm3_10, b_nm3_11, b_nm3_100, b_nm3_101, b_nm3_102, b_nm3_200, b_nm3_201, b_nm3_202, b_nm3_203, b_nm3_204, b_nm3_205, b_nm3_206, b_nm3_207, b_nm3_208, b_ns2_0, b_ns2_1, b_ns2_2, b_ns2_3, b_ns2_4, b_ns2_5, b_ns2_6, b_ns2_7, b_ns2_8, b_ns2_9, b_ns2_10, b_ns2_11, b_ns2_12, b_ns2_13, b_ns2_14, b_ns2_15, b_ns2_16, b_ns2_17, b_ns2_18, b_ns2_19, b_ns2_20, b_ns2_21, b_ns2_22, b_ns2_23, b_ns2_24, b_ns2_25, b_ns2_26, b_ns2_27, b_ns2_28, b_ns2_29, b_ns2_30, b_ns2_31, b_ns2_32, b_ns2_33, b_ns2_34, b_ns2_35, b_ns2_36, b_ns2_37, b_ns2_38, b_ns2_39, b_ns2_40, b_ns2_41, b_ns2_42, b_ns2_43, b_ns2_44, b_ns2_45, b_ns2_50, b_ns2_51, b_ns2_52, b_ns2_53, b_ns2_54, b_ns2_55, b_ns2_56, b_ns2_57, b_ns2_58, b_ns2_59, b_ns2_60, b_ns2_61, b_ns2_62, b_ns2_63, b_ns2_64, b_ns2_65, b_ns2_66, b_ns2_67, b_ns2_68, b_ns2_69, b_ns2_70, b_ns2_71, b_ns2_72, b_ns2_73, b_ns2_74, b_ns2_75, b_ns2_76, b_ns2_77, b_ns2_78, b_ns2_79, b_ns2_80, b_ns2_81, b_ns2_82, b_ns2_83, b_ns2_84, b_ns2_85, b_ns2_86, b_ns2_87, b_ns2_88]
          by_cases e : p = i
          · rw [if_pos e, hdd, e]
          · rw [if_neg e]
            exact hd p (by omega))
        rw [nI_add, hdd]
        rw [hdd] at this
        exact this
      by_cases hget : get i = true
      · obtain ⟨a1, a2⟩ := (hg i hi).mp hget
        have fin := fin s (by unfold du_0; rw [if_pos hget])
        rw [if_pos hget] at fin
        have b1 : (μ.1 42 i = 0) = False := eq_false a1
        have b2 : (μ.1 25 i = -1) = False := eq_false a2
        rw [s_38_4]
        simp +decide only [s_38_0, s_38_1, s_38_2, s_38_3, s_38_5, s_38_7, s_38_10, s_38_11, s_38_14, s_38_15, s_38_18, s_38_21, s_38_22, s_38_25, s_38_26, s_38_29, s_38_30, s_38_33, s_38_34, s_38_37, s_38_38, s_38_40, s_38_41, s_38_44, s_38_45, s_38_47, s_38_50, s_38_51, s_38_54, s_38_55, s_38_56, s_38_57, s_38_58, s_38_61, s_38_62, s_38_63, s_38_64, s_38_65, s_38_68, s_38_71, s_38_72, s_88_0, s_88_1, s_88_4, s_88_7, s_88_8, s_88_11, s_88_12, s_88_13, s_88_16, s_88_17, s_88_20, s_88_21, s_59_0, s_59_1, s_59_4, s_59_7, s_59_8, s_59_11, s_59_12, s_59_13, s_59_16, s_59_17, s_118_0, s_118_1, s_118_4, s_118_5, s_118_7, s_118_10, s_118_11, s_118_14, s_118_15, b_res, b_resN, b_nm0, b_nm1, b_nm2, b_ns0, b_ns1, b_l0, b_l1, b_l2, b_l3, b_l4, b_l5, b_l6, Bool.true_and, Bool.and_true, cond_true, b01_0, b01_1, i10, true_and, and_true, true_or, or_true, u_rd, u_2, u_at, reduceIte, eq_self, not_true_eq_false, not_false_eq_true, false_imp_iff, true_imp_iff, forall_const, b_nm3_0, b_nm3_1, b_nm3_2, b_nm3_3, b_nm3_4, b_nm3_5, b_nm3_6, b_nm3_7, b_nm3_8, b_nm3_9, b_nm3_10, b_nm3_11, b_nm3_100, b_nm3_101, b_nm3_102, b_nm3_200, b_nm3_201, b_nm3_202, b_nm3_203, b_nm3_204, b_nm3_205, b_nm3_206, b_nm3_207, b_nm3_208, b_ns2_0, b_ns2_1, b_ns2_2, b_ns2_3, b_ns2_4, b_ns2_5, b_ns2_6, b_ns2_7, b_ns2_8, b_ns2_9, b_ns2_10, b_ns2_11, b_ns2_12, b_ns2_13, b_ns2_14, b_ns2_15, b_ns2_16, b_ns2_17, b_ns2_18, b_ns2_19, b_ns2_20, b_ns2_21, b_ns2_22, b_ns2_23, b_ns2_24, b_ns2_25, b_ns2_26, b_ns2_27, b_ns2_28, b_ns2_29, b_ns2_30, b_ns2_31, b_ns2_32, b_ns2_33, b_ns2_34, b_ns2_35, b_ns2_36, b_ns2_37, b_ns2_38, b_ns2_39, b_ns2_40, b_ns2_41, b_ns2_42, b_ns2_43, b_ns2_44, b_ns2_45, b_ns2_50, b_ns2_51, b_ns2_52, b_ns2_53, b_ns2_54, b_ns2_55, b_ns2_56, b_ns2_57, b_ns2_58, b_ns2_59, b_ns2_60, b_ns2_61, b_ns2_62, b_ns2_63, b_ns2_64, b_ns2_65, b_ns2_66, b_ns2_67, b_ns2_68, b_ns2_69, b_ns2_70, b_ns2_71, b_ns2_72, b_ns2_73, b_ns2_74, b_ns2_75, b_ns2_76, b_ns2_77, b_ns2_78, b_ns2_79, b_ns2_80, b_ns2_81, b_ns2_82, b_ns2_83, b_ns2_84, b_ns2_85, b_ns2_86, b_ns2_87, b_ns2_88, hx, g4, g1, v1, e1, l1', l2', l3', r42, r25, b1, b2, nI_1]
        exact fin
      · have fin := fin 0 (by unfold du_0; rw [if_neg hget])
        rw [if_neg hget] at fin
        rw [s_38_4]
        by_cases a1 : μ.1 42 i = 0
        · simp +decide only [s_38_0, s_38_1, s_38_2, s_38_3, s_38_5, s_38_7, s_38_10, s_38_11, s_38_14, s_38_15, s_38_18, s_38_21, s_38_22, s_38_25, s_38_26, s_38_29, s_38_30, s_38_33, s_38_34, s_38_37, s_38_38, s_38_40, s_38_41, s_38_44, s_38_45, s_38_47, s_38_50, s_38_51, s_38_54, s_38_55, s_38_56, s_38_57, s_38_58, s_38_61, s_38_62, s_38_63, s_38_64, s_38_65, s_38_68, s_38_71, s_38_72, s_88_0, s_88_1, s_88_4, s_88_7, s_88_8, s_88_11, s_88_12, s_88_13, s_88_16, s_88_17, s_88_20, s_88_21, s_59_0, s_59_1, s_59_4, s_59_7, s_59_8, s_59_11, s_59_12, s_59_13, s_59_16, s_59_17, s_118_0, s_118_1, s_118_4, s_118_5, s_118_7, s_118_10, s_118_11, s_118_14, s_118_15, b_res, b_resN, b_nm0, b_nm1, b_nm2, b_ns0, b_ns1, b_l0, b_l1, b_l2, b_l3, b_l4, b_l5, b_l6, Bool.true_and, Bool.and_true, cond_true, b01_0, b01_1, i10, true_and, and_true, true_or, or_true, u_rd, u_2, u_at, reduceIte, eq_self, not_true_eq_false, not_false_eq_true, false_imp_iff, true_imp_iff, forall_const, b_nm3_0, b_nm3_1, b_nm3_2, b_nm3_3, b_nm3_4, b_nm3_5, b_nm3_6, b_nm3_7, b_nm3_8, b_nm3_9, b_nm3_10, b_nm3_11, b_nm3_100, b_nm3_101, b_nm3_102, b_nm3_200, b_nm3_201, b_nm3_202, b_nm3_203, b_nm3_204, b_nm3_205, b_nm3_206, b_nm3_207, b_nm3_208, b_ns2_0, b_ns2_1, b_ns2_2, b_ns2_3, b_ns2_4, b_ns2_5, b_ns2_6, b_ns2_7, b_ns2_8, b_ns2_9, b_ns2_10, b_ns2_11, b_ns2_12, b_ns2_13, b_ns2_14, b_ns2_15, b_ns2_16, b_ns2_17, b_ns2_18, b_ns2_19, b_ns2_20, b_ns2_21, b_ns2_22, b_ns2_23, b_ns2_24, b_ns2_25, b_ns2_26, b_ns2_27, b_ns2_28, b_ns2_29, b_ns2_30, b_ns2_31, b_ns2_32, b_ns2_33, b_ns2_34, b_ns2_35, b_ns2_36, b_ns2_37, b_ns2_38, b_ns2_39, b_ns2_40, b_ns2_41, b_ns2_42, b_ns2_43, b_ns2_44, b_ns2_45, b_ns2_50, b_ns2_51, b_ns2_52, b_ns2_53, b_ns2_54, b_ns2_55, b_ns2_56, b_ns2_57, b_ns2_58, b_ns2_59, b_ns2_60, b_ns2_61, b_ns2_62, b_ns2_63, b_ns2_64, b_ns2_65, b_ns2_66, b_ns2_67, b_ns2_68, b_ns2_69, b_ns2_70, b_ns2_71, b_ns2_72, b_ns2_73, b_ns2_74, b_ns2_75, b_ns2_76, b_ns2_77, b_ns2_78, b_ns2_79, b_ns2_80, b_ns2_81, b_ns2_82, b_ns2_83, b_ns2_84, b_ns2_85, b_ns2_86, b_ns2_87, b_ns2_88, hx, g4, g1, v1, e1, l1', l2', l3', r42, r25, a1, nI_1]
          exact fin
        · have a2 : μ.1 25 i = -1 := by
            by_cases z : μ.1 25 i = -1
            · exact z
            · exact absurd ((hg i hi).mpr ⟨a1, z⟩) hget
          have b1 : (μ.1 42 i = 0) = False := eq_false a1
          simp +decide only [s_38_0, s_38_1, s_38_2, s_38_3, s_38_5, s_38_7, s_38_10, s_38_11, s_38_14, s_38_15, s_38_18, s_38_21, s_38_22, s_38_25, s_38_26, s_38_29, s_38_30, s_38_33, s_38_34, s_38_37, s_38_38, s_38_40, s_38_41, s_38_44, s_38_45, s_38_47, s_38_50, s_38_51, s_38_54, s_38_55, s_38_56, s_38_57, s_38_58, s_38_61, s_38_62, s_38_63, s_38_64, s_38_65, s_38_68, s_38_71, s_38_72, s_88_0, s_88_1, s_88_4, s_88_7, s_88_8, s_88_11, s_88_12, s_88_13, s_88_16, s_88_17, s_88_20, s_88_21, s_59_0, s_59_1, s_59_4, s_59_7, s_59_8, s_59_11, s_59_12, s_59_13, s_59_16, s_59_17, s_118_0, s_118_1, s_118_4, s_118_5, s_118_7, s_118_10, s_118_11, s_118_14, s_118_15, b_res, b_resN, b_nm0, b_nm1, b_nm2, b_ns0, b_ns1, b_l0, b_l1, b_l2, b_l3, b_l4, b_l5, b_l6, Bool.true_and, Bool.and_true, cond_true, b01_0, b01_1, i10, true_and, and_true, true_or, or_true, u_rd, u_2, u_at, reduceIte, eq_self, not_true_eq_false, not_false_eq_true, false_imp_iff, true_imp_iff, forall_const, b_nm3_0, b_nm3_1, b_nm3_2, b_nm3_3, b_nm3_4, b_nm3_5, b_nm3_6, b_nm3_7, b_nm3_8, b_nm3_9, b_nm3_10, b_nm3_11, b_nm3_100, b_nm3_101, b_nm3_102, b_nm3_200, b_nm3_201, b_nm3_202, b_nm3_203, b_nm3_204, b_nm3_205, b_nm3_206, b_nm3_207, b_nm3_208, b_ns2_0, b_ns2_1, b_ns2_2, b_ns2_3, b_ns2_4, b_ns2_5, b_ns2_6, b_ns2_7, b_ns2_8, b_ns2_9, b_ns2_10, b_ns2_11, b_ns2_12, b_ns2_13, b_ns2_14, b_ns2_15, b_ns2_16, b_ns2_17, b_ns2_18, b_ns2_19, b_ns2_20, b_ns2_21, b_ns2_22, b_ns2_23, b_ns2_24, b_ns2_25, b_ns2_26, b_ns2_27, b_ns2_28, b_ns2_29, b_ns2_30, b_ns2_31, b_ns2_32, b_ns2_33, b_ns2_34, b_ns2_35, b_ns2_36, b_ns2_37, b_ns2_38, b_ns2_39, b_ns2_40, b_ns2_41, b_ns2_42, b_ns2_43, b_ns2_44, b_ns2_45, b_ns2_50, b_ns2_51, b_ns2_52, b_ns2_53, b_ns2_54, b_ns2_55, b_ns2_56, b_ns2_57, b_ns2_58, b_ns2_59, b_ns2_60, b_ns2_61, b_ns2_62, b_ns2_63, b_ns2_64, b_ns2_65, b_ns2_66, b_ns2_67, b_ns2_68, b_ns2_69, b_ns2_70, b_ns2_71, b_ns2_72, b_ns2_73, b_ns2_74, b_ns2_75, b_ns2_76, b_ns2_77, b_ns2_78, b_ns2_79, b_ns2_80, b_ns2_81, b_ns2_82, b_ns2_83, b_ns2_84, b_ns2_85, b_ns2_86, b_ns2_87, b_ns2_88, hx, g4, g1, v1, e1, l1', l2', l3', r42, r25, b1, a2, nI_1]
          exact fin
  simp +decide only [s_38_0, s_38_1, s_38_2, s_38_3, s_38_5, s_38_7, s_38_10, s_38_11, s_38_14, s_38_15, s_38_18, s_38_21, s_38_22, s_38_25, s_38_26, s_38_29, s_38_30, s_38_33, s_38_34, s_38_37, s_38_38, s_38_40, s_38_41, s_38_44, s_38_45, s_38_47, s_38_50, s_38_51, s_38_54, s_38_55, s_38_56, s_38_57, s_38_58, s_38_61, s_38_62, s_38_63, s_38_64, s_38_65, s_38_68, s_38_71, s_38_72, b_res, b_resN, b_nm0, b_nm1, b_nm2, b_ns0, b_ns1, b_l0, b_l1, b_l2, b_l3, b_l4, b_l5, b_l6, Bool.true_and, Bool.and_true, cond_true, b01_0, b01_1, i10, true_and, and_true, true_or, or_true, u_rd, u_2, u_at, reduceIte, eq_self, not_true_eq_false, not_false_eq_true, false_imp_iff, true_imp_iff, forall_const, b_nm3_0, b_nm3_1, b_nm3_2, b_nm3_3, b_nm3_4, b_nm3_5, b_nm3_6, b_nm3_7, b_nm3_8, b_nm3_9, b_nm3_10, b_nm3_11, b_nm3_100, b_nm3_101, b_nm3_102, b_nm3_200, b_nm3_201, b_nm3_202, b_nm3_203, b_nm3_204, b_nm3_205, b_nm3_206, b_nm3_207, b_nm3_208, b_ns2_0, b_ns2_1, b_ns2_2, b_ns2_3, b_ns2_4, b_ns2_5, b_ns2_6, b_ns2_7, b_ns2_8, b_ns2_9, b_ns2_10, b_ns2_11, b_ns2_12, b_ns2_13, b_ns2_14, b_ns2_15, b_ns2_16, b_ns2_17, b_ns2_18, b_ns2_19, b_ns2_20, b_ns2_21, b_ns2_22, b_ns2_23, b_ns2_24, b_ns2_25, b_ns2_26, b_ns2_27, b_ns2_28, b_ns2_29, b_ns2_30, b_ns2_31, b_ns2_32, b_ns2_33, b_ns2_34, b_ns2_35, b_ns2_36, b_ns2_37, b_ns2_38, b_ns2_39, b_ns2_40, b_ns2_41, b_ns2_42, b_ns2_43, b_ns2_44, b_ns2_45, b_ns2_50, b_ns2_51, b_ns2_52, b_ns2_53, b_ns2_54, b_ns2_55, b_ns2_56, b_ns2_57, b_ns2_58, b_ns2_59, b_ns2_60, b_ns2_61, b_ns2_62, b_ns2_63, b_ns2_64, b_ns2_65, b_ns2_66, b_ns2_67, b_ns2_68, b_ns2_69, b_ns2_70, b_ns2_71, b_ns2_72, b_ns2_73, b_ns2_74, b_ns2_75, b_ns2_76, b_ns2_77, b_ns2_78, b_ns2_79, b_ns2_80, b_ns2_81, b_ns2_82, b_ns2_83, b_ns2_84, b_ns2_85, b_ns2_86, b_ns2_87, b_ns2_88]
  exact key 0 (by omega) μ _ rfl fr_rfl (fun p hp => absurd hp (by omega))
theorem c_cutByRank {T : Nat} {μ0 μ : ab_S} {m known : Int32} {pp : Option Nat} {b : ab_B} {Q : ab_Q} {get : Nat → Bool} {s : Nat} {rv rk : Nat → Nat} (E : gd_env T μ0) (hs : s ≤ 50) (hs1 : 1 ≤ s) (hr : ∀ p, rv p ≤ 100) (k0 : μ.2 = μ0.2) (k1 : μ.1 3 3 = μ0.1 3 3) (k2 : μ.1 15 = μ0.1 15) (hpp : pp = lw_best (μ0.1 16) (μ0.1 17) m known (μ0.1 3 3).toInt.toNat) (l1 : μ.2 26 = 30) (l2 : μ.2 25 = 30) (l3 : μ.2 50 = 30) (hg : ∀ p, p < 30 → get p = true → ¬ μ.1 25 p = -1 ∧ μ.1 26 p = nI (rk p) ∧ rk p < 4 ∧ gd_law μ0 m known (6 + rk p) = nI (rv p)) (h0 : ∀ p, p < 30 → μ.1 50 p = nI (du_0 get s p)) (hQ : ∀ μ', ab_fr (fw [50] []) μ μ' → (∀ p, p < 30 → μ'.1 50 p = nI (du_1 get s rv p)) → Q (some (nI (pn_sum (du_1 get s rv) 30))) μ') : gd_run 39 0 [some (.inr 10), some (.inr 3), some (.inl (bI pp)), none, none] [] μ b Q := by
  have k100 : ((100 : Int32) = 0) = False := by decide
  have key : ∀ i, i ≤ 30 → ∀ μ', ab_fr (fw [50] []) μ μ' → (∀ p, p < 30 → μ'.1 50 p = if p < i then nI (du_1 get s rv p) else nI (du_0 get s p)) → gd_run 39 5 [some (.inr 10), some (.inr 3), some (.inl (bI pp)), some (.inl (nI (pn_sum (du_1 get s rv) i))), some (.inl (nI i))] [] μ' b Q := by
    refine lp_up (fun μ' hf hd => ?_) (fun i hi ih μ' hf hd => ?_)
    · have g4 : ((30 : Int32) ≤ nI 30) = True := by decide
      rw [s_39_5]
      simp +decide only [s_39_0, s_39_1, s_39_2, s_39_3, s_39_7, s_39_9, s_39_12, s_39_13, s_39_16, s_39_18, s_39_19, s_39_22, s_39_23, s_39_26, s_39_28, s_39_29, s_39_32, s_39_34, s_39_35, s_39_36, s_39_37, s_39_39, s_39_40, s_39_43, s_39_45, s_39_48, s_39_49, s_39_52, s_39_53, s_39_55, s_39_56, s_39_57, s_39_58, s_39_59, s_39_62, s_39_64, s_39_65, s_39_66, s_39_67, s_39_70, s_39_73, s_39_74, b_res, b_resN, b_nm0, b_nm1, b_nm2, b_ns0, b_ns1, b_l0, b_l1, b_l2, b_l3, b_l4, b_l5, b_l6, Bool.true_and, Bool.and_true, cond_true, b01_0, b01_1, i10, true_and, and_true, true_or, or_true, u_rd, u_2, u_at, reduceIte, eq_self, not_true_eq_false, not_false_eq_true, false_imp_iff, true_imp_iff, forall_const, b_nm3_0, b_nm3_1, b_nm3_2, b_nm3_3, b_nm3_4, b_nm3_5, b_nm3_6, b_nm3_7, b_nm3_8, b_nm3_9, b_nm3_10, b_nm3_11, b_nm3_100, b_nm3_101, b_nm3_102, b_nm3_200, b_nm3_201, b_nm3_202, b_nm3_203, b_nm3_204, b_nm3_205, b_nm3_206, b_nm3_207, b_nm3_208, b_ns2_0, b_ns2_1, b_ns2_2, b_ns2_3, b_ns2_4, b_ns2_5, b_ns2_6, b_ns2_7, b_ns2_8, b_ns2_9, b_ns2_10, b_ns2_11, b_ns2_12, b_ns2_13, b_ns2_14, b_ns2_15, b_ns2_16, b_ns2_17, b_ns2_18, b_ns2_19, b_ns2_20, b_ns2_21, b_ns2_22, b_ns2_23, b_ns2_24, b_ns2_25, b_ns2_26, b_ns2_27, b_ns2_28, b_ns2_29, b_ns2_30, b_ns2_31, b_ns2_32, b_ns2_33, b_ns2_34, b_ns2_35, b_ns2_36, b_ns2_37, b_ns2_38, b_ns2_39, b_ns2_40, b_ns2_41, b_ns2_42, b_ns2_43, b_ns2_44, b_ns2_45, b_ns2_50, b_ns2_51, b_ns2_52, b_ns2_53, b_ns2_54, b_ns2_55, b_ns2_56, b_ns2_57, b_ns2_58, b_ns2_59, b_ns2_60, b_ns2_61, b_ns2_62, b_ns2_63, b_ns2_64, b_ns2_65, b_ns2_66, b_ns2_67, b_ns2_68, b_ns2_69, b_ns2_70, b_ns2_71, b_ns2_72, b_ns2_73, b_ns2_74, b_ns2_75, b_ns2_76, b_ns2_77, b_ns2_78, b_ns2_79, b_ns2_80, b_ns2_81, b_ns2_82, b_ns2_83, b_ns2_84, b_ns2_85, b_ns2_86, b_ns2_87, b_ns2_88, g4]
      refine hQ μ' hf (fun p hp => ?_)
      rw [hd p hp, if_pos hp]
    · have g4 : ((30 : Int32) ≤ nI i) = False := q_nle (b := 30) (by omega) (by omega)
      have g1 : (nI i < 0) = False := q_n0 (by omega)
      have v1 : vp_in (nI i) 30 = True := q_in (by omega) (by omega)
      have e1 : (nI i).toNatClampNeg = i := nI_clamp (by omega)
      have l1' : μ'.2 26 = 30 := by rw [hf.1]; exact l1
      have l2' : μ'.2 25 = 30 := by rw [hf.1]; exact l2
      have l3' : μ'.2 50 = 30 := by rw [hf.1]; exact l3
      have r25 : μ'.1 25 i = μ.1 25 i := hf.2 _ _ rfl
      have r26 : μ'.1 26 i = μ.1 26 i := hf.2 _ _ rfl
      have di : μ'.1 50 i = nI (du_0 get s i) := by rw [hd i hi, if_neg (by omega)]
      rw [s_39_5]
      by_cases hget : get i = true
      · have x0 : du_0 get s i = s := by unfold du_0; rw [if_pos hget]
        have x1 : du_1 get s rv i = s * rv i / 100 := by unfold du_1; rw [if_pos hget]
        rw [x0] at di
        obtain ⟨a1, a2, a3, a4⟩ := hg i hi hget
        have b2 : (μ.1 25 i = -1) = False := eq_false a1
        have g5 : (nI s ≤ 0) = False := q_nle (a := 0) (by omega) (by omega)
        have e6 : 6 + nI (rk i) = nI (6 + rk i) := nI_add 6 _
        have hsr : s * rv i ≤ 50 * 100 := Nat.mul_le_mul hs (hr i)
        have e7 : nI s * nI (rv i) = nI (s * rv i) := pk_mul _ _
        have e8 : nI (s * rv i) / 100 = nI (s * rv i / 100) := pk_div (d := 100) (by omega) (by omega) (by omega)
        simp +decide only [s_39_0, s_39_1, s_39_2, s_39_3, s_39_7, s_39_9, s_39_12, s_39_13, s_39_16, s_39_18, s_39_19, s_39_22, s_39_23, s_39_26, s_39_28, s_39_29, s_39_32, s_39_34, s_39_35, s_39_36, s_39_37, s_39_39, s_39_40, s_39_43, s_39_45, s_39_48, s_39_49, s_39_52, s_39_53, s_39_55, s_39_56, s_39_57, s_39_58, s_39_59, s_39_62, s_39_64, s_39_65, s_39_66, s_39_67, s_39_70, s_39_73, s_39_74, s_60_0, s_60_1, s_60_2, s_60_5, s_60_6, s_60_9, s_60_10, s_60_13, s_60_14, s_60_17, s_60_18, s_60_19, s_59_0, s_59_1, s_59_4, s_59_7, s_59_8, s_59_11, s_59_12, s_59_13, s_59_16, s_59_17, s_118_0, s_118_1, s_118_4, s_118_5, s_118_7, s_118_10, s_118_11, s_118_14, s_118_15, b_res, b_resN, b_nm0, b_nm1, b_nm2, b_ns0, b_ns1, b_l0, b_l1, b_l2, b_l3, b_l4, b_l5, b_l6, Bool.true_and, Bool.and_true, cond_true, b01_0, b01_1, i10, true_and, and_true, true_or, or_true, u_rd, u_2, u_at, reduceIte, eq_self, not_true_eq_false, not_false_eq_true, false_imp_iff, true_imp_iff, forall_const, b_nm3_0, b_nm3_1, b_nm3_2, b_nm3_3, b_nm3_4, b_nm3_5, b_nm3_6, b_nm3_7, b_nm3_8, b_nm3_9, b_nm3_10, b_nm3_11, b_nm3_100, b_nm3_101, b_nm3_102, b_nm3_200, b_nm3_201, b_nm3_202, b_nm3_203, b_nm3_204, b_nm3_205, b_nm3_206, b_nm3_207, b_nm3_208, b_ns2_0, b_ns2_1, b_ns2_2, b_ns2_3, b_ns2_4, b_ns2_5, b_ns2_6, b_ns2_7, b_ns2_8, b_ns2_9, b_ns2_10, b_ns2_11, b_ns2_12, b_ns2_13, b_ns2_14, b_ns2_15, b_ns2_16, b_ns2_17, b_ns2_18, b_ns2_19, b_ns2_20, b_ns2_21, b_ns2_22, b_ns2_23, b_ns2_24, b_ns2_25, b_ns2_26, b_ns2_27, b_ns2_28, b_ns2_29, b_ns2_30, b_ns2_31, b_ns2_32, b_ns2_33, b_ns2_34, b_ns2_35, b_ns2_36, b_ns2_37, b_ns2_38, b_ns2_39, b_ns2_40, b_ns2_41, b_ns2_42, b_ns2_43, b_ns2_44, b_ns2_45, b_ns2_50, b_ns2_51, b_ns2_52, b_ns2_53, b_ns2_54, b_ns2_55, b_ns2_56, b_ns2_57, b_ns2_58, b_ns2_59, b_ns2_60, b_ns2_61, b_ns2_62, b_ns2_63, b_ns2_64, b_ns2_65, b_ns2_66, b_ns2_67, b_ns2_68, b_ns2_69, b_ns2_70, b_ns2_71, b_ns2_72, b_ns2_73, b_ns2_74, b_ns2_75, b_ns2_76, b_ns2_77, b_ns2_78, b_ns2_79, b_ns2_80, b_ns2_81, b_ns2_82, b_ns2_83, b_ns2_84, b_ns2_85, b_ns2_86, b_ns2_87, b_ns2_88, g4, g1, g5, v1, e1, l1', l2', l3', r25, r26, di, b2, a2, e6]
        refine c_lawv (w := 6 + rk i) E (hf.1.trans k0) ((hf.2 _ _ rfl).trans k1) ((fr_c hf _ (fun _ => rfl)).trans k2) hpp (by omega) ?_
        rw [a4]
        simp +decide only [s_39_0, s_39_1, s_39_2, s_39_3, s_39_7, s_39_9, s_39_12, s_39_13, s_39_16, s_39_18, s_39_19, s_39_22, s_39_23, s_39_26, s_39_28, s_39_29, s_39_32, s_39_34, s_39_35, s_39_36, s_39_37, s_39_39, s_39_40, s_39_43, s_39_45, s_39_48, s_39_49, s_39_52, s_39_53, s_39_55, s_39_56, s_39_57, s_39_58, s_39_59, s_39_62, s_39_64, s_39_65, s_39_66, s_39_67, s_39_70, s_39_73, s_39_74, b_res, b_resN, b_nm0, b_nm1, b_nm2, b_ns0, b_ns1, b_l0, b_l1, b_l2, b_l3, b_l4, b_l5, b_l6, Bool.true_and, Bool.and_true, cond_true, b01_0, b01_1, i10, true_and, and_true, true_or, or_true, u_rd, u_2, u_at, reduceIte, eq_self, not_true_eq_false, not_false_eq_true, false_imp_iff, true_imp_iff, forall_const, b_nm3_0, b_nm3_1, b_nm3_2, b_nm3_3, b_nm3_4, b_nm3_5, b_nm3_6, b_nm3_7, b_nm3_8, b_nm3_9, b_nm3_10, b_nm3_11, b_nm3_100, b_nm3_101, b_nm3_102, b_nm3_200, b_nm3_201, b_nm3_202, b_nm3_203, b_nm3_204, b_nm3_205, b_nm3_206, b_nm3_207, b_nm3_208, b_ns2_0, b_ns2_1, b_ns2_2, b_ns2_3, b_ns2_4, b_ns2_5, b_ns2_6, b_ns2_7, b_ns2_8, b_ns2_9, b_ns2_10, b_ns2_11, b_ns2_12, b_ns2_13, b_ns2_14, b_ns2_15, b_ns2_16, b_ns2_17, b_ns2_18, b_ns2_19, b_ns2_20, b_ns2_21, b_ns2_22, b_ns2_23, b_ns2_24, b_ns2_25, b_ns2_26, b_ns2_27, b_ns2_28, b_ns2_29, b_ns2_30, b_ns2_31, b_ns2_32, b_ns2_33, b_ns2_34, b_ns2_35, b_ns2_36, b_ns2_37, b_ns2_38, b_ns2_39, b_ns2_40, b_ns2_41, b_ns2_42, b_ns2_43, b_ns2_44, b_ns2_45, b_ns2_50, b_ns2_51, b_ns2_52, b_ns2_53, b_ns2_54, b_ns2_55, b_ns2_56, b_ns2_57, b_ns2_58, b_ns2_59, b_ns2_60, b_ns2_61, b_ns2_62, b_ns2_63, b_ns2_64, b_ns2_65, b_ns2_66, b_ns2_67, b_ns2_68, b_ns2_69, b_ns2_70, b_ns2_71, b_ns2_72, b_ns2_73, b_ns2_74, b_ns2_75, b_ns2_76, b_ns2_77, b_ns2_78, b_ns2_79, b_ns2_80, b_ns2_81, b_ns2_82, b_ns2_83, b_ns2_84, b_ns2_85, b_ns2_86, b_ns2_87, b_ns2_88, k100, v1, e1, l3', e7, e8, nI_1]
        have := ih (ab_up μ' 50 i (nI (s * rv i / 100))) (fr_up hf rfl) (fun p hp => by
          simp +decide only [b_res, b_resN, b_nm0, b_nm1, b_nm2, b_ns0, b_ns1, b_l0, b_l1, b_l2, b_l3, b_l4, b_l5, b_l6, Bool.true_and, Bool.and_true, cond_true, b01_0, b01_1, i10, true_and, and_true, true_or, or_true, u_rd, u_2, u_at, reduceIte, eq_self, not_true_eq_false, not_false_eq_true, false_imp_iff, true_imp_iff, forall_const, b_nm3_0, b_nm3_1, b_nm3_2, b_nm3_3, b_nm3_4, b_nm3_5, b_nm3_6, b_nm3_7, b_nm3_8, b_nm3_9, b_nm3_10, b_nm3_11, b_nm3_100, b_nm3_101, b_nm3_102, b_nm3_200, b_nm3_201, b_nm3_202, b_nm3_203, b_nm3_204, b_nm3_205, b_nm3_206, b_nm3_207, b_nm3_208, b_ns2_0, b_ns2_1, b_ns2_2, b_ns2_3, b_ns2_4, b_ns2_5, b_ns2_6, b_ns2_7, b_ns2_8, b_ns2_9, b_ns2_10, b_ns2_11, b_ns2_12, b_ns2_13, b_ns2_14, b_ns2_15, b_ns2_16, b_ns2_17, b_ns2_18, b_ns2_19, b_ns2_20, b_ns2_21, b_ns2_22, b_ns2_23, b_ns2_24, b_ns2_25, b_ns2_26, b_ns2_27, b_ns2_28, b_ns2_29, b_ns2_30, b_ns2_31, b_ns2_32, b_ns2_33, b_ns2_34, b_ns2_35, b_ns2_36, b_ns2_37, b_ns2_38, b_ns2_39, b_ns2_40, b_ns2_41, b_ns2_42, b_ns2_43, b_ns2_44, b_ns2_45, b_ns2_50, b_ns2_51, b_ns2_52, b_ns2_53, b_ns2_54, b_ns2_55, b_ns2_56, b_ns2_57, b_ns2_58, b_ns2_59, b_ns2_60, b_ns2_61, b_ns2_62, b_ns2_63, b_ns2_64, b_ns2_65, b_ns2_66, b_ns2_67, b_ns2_68, b_ns2_69, b_ns2_70, b_ns2_71, b_ns2_72, b_ns2_73, b_ns2_74, b_ns2_75, b_ns2_76, b_ns2_77, b_ns2_78, b_ns2_79, b_ns2_80, b_ns2_81, b_ns2_82, b_ns2_83, b_ns2_84, b_ns2_85, b_ns2_86, b_ns2_87, b_ns2_88]
          by_cases e : p = i
          · rw [if_pos e, e, if_pos (by omega), x1]
          · rw [if_neg e, hd p hp]
            simp only [show (p < i + 1) = (p < i) from propext ⟨fun z => by omega, fun z => by omega⟩])
        rw [pn_sum, x1, ← nI_add] at this
        exact this
      · have x0 : du_0 get s i = 0 := by unfold du_0; rw [if_neg hget]
        have x1 : du_1 get s rv i = 0 := by unfold du_1; rw [if_neg hget]
        rw [x0] at di
        have g5 : (nI 0 ≤ 0) = True := by decide
        simp +decide only [s_39_0, s_39_1, s_39_2, s_39_3, s_39_7, s_39_9, s_39_12, s_39_13, s_39_16, s_39_18, s_39_19, s_39_22, s_39_23, s_39_26, s_39_28, s_39_29, s_39_32, s_39_34, s_39_35, s_39_36, s_39_37, s_39_39, s_39_40, s_39_43, s_39_45, s_39_48, s_39_49, s_39_52, s_39_53, s_39_55, s_39_56, s_39_57, s_39_58, s_39_59, s_39_62, s_39_64, s_39_65, s_39_66, s_39_67, s_39_70, s_39_73, s_39_74, b_res, b_resN, b_nm0, b_nm1, b_nm2, b_ns0, b_ns1, b_l0, b_l1, b_l2, b_l3, b_l4, b_l5, b_l6, Bool.true_and, Bool.and_true, cond_true, b01_0, b01_1, i10, true_and, and_true, true_or, or_true, u_rd, u_2, u_at, reduceIte, eq_self, not_true_eq_false, not_false_eq_true, false_imp_iff, true_imp_iff, forall_const, b_nm3_0, b_nm3_1, b_nm3_2, b_nm3_3, b_nm3_4, b_nm3_5, b_nm3_6, b_nm3_7, b_nm3_8, b_nm3_9, b_nm3_10, b_nm3_11, b_nm3_100, b_nm3_101, b_nm3_102, b_nm3_200, b_nm3_201, b_nm3_202, b_nm3_203, b_nm3_204, b_nm3_205, b_nm3_206, b_nm3_207, b_nm3_208, b_ns2_0, b_ns2_1, b_ns2_2, b_ns2_3, b_ns2_4, b_ns2_5, b_ns2_6, b_ns2_7, b_ns2_8, b_ns2_9, b_ns2_10, b_ns2_11, b_ns2_12, b_ns2_13, b_ns2_14, b_ns2_15, b_ns2_16, b_ns2_17, b_ns2_18, b_ns2_19, b_ns2_20, b_ns2_21, b_ns2_22, b_ns2_23, b_ns2_24, b_ns2_25, b_ns2_26, b_ns2_27, b_ns2_28, b_ns2_29, b_ns2_30, b_ns2_31, b_ns2_32, b_ns2_33, b_ns2_34, b_ns2_35, b_ns2_36, b_ns2_37, b_ns2_38, b_ns2_39, b_ns2_40, b_ns2_41, b_ns2_42, b_ns2_43, b_ns2_44, b_ns2_45, b_ns2_50, b_ns2_51, b_ns2_52, b_ns2_53, b_ns2_54, b_ns2_55, b_ns2_56, b_ns2_57, b_ns2_58, b_ns2_59, b_ns2_60, b_ns2_61, b_ns2_62, b_ns2_63, b_ns2_64, b_ns2_65, b_ns2_66, b_ns2_67, b_ns2_68, b_ns2_69, b_ns2_70, b_ns2_71, b_ns2_72, b_ns2_73, b_ns2_74, b_ns2_75, b_ns2_76, b_ns2_77, b_ns2_78, b_ns2_79, b_ns2_80, b_ns2_81, b_ns2_82, b_ns2_83, b_ns2_84, b_ns2_85, b_ns2_86, b_ns2_87, b_ns2_88, g4, v1, e1, l3', di, g5, nI_1]
        have := ih μ' hf (fun p hp => by
          by_cases e : p = i
          · rw [e, if_pos (by omega), x1]
            exact di
          · rw [hd p hp]
            simp only [show (p < i + 1) = (p < i) from propext ⟨fun z => by omega, fun z => by omega⟩])
        rw [pn_sum, x1, Nat.add_zero] at this
        exact this
  simp +decide only [s_39_0, s_39_1, s_39_2, s_39_3, s_39_7, s_39_9, s_39_12, s_39_13, s_39_16, s_39_18, s_39_19, s_39_22, s_39_23, s_39_26, s_39_28, s_39_29, s_39_32, s_39_34, s_39_35, s_39_36, s_39_37, s_39_39, s_39_40, s_39_43, s_39_45, s_39_48, s_39_49, s_39_52, s_39_53, s_39_55, s_39_56, s_39_57, s_39_58, s_39_59, s_39_62, s_39_64, s_39_65, s_39_66, s_39_67, s_39_70, s_39_73, s_39_74, b_res, b_resN, b_nm0, b_nm1, b_nm2, b_ns0, b_ns1, b_l0, b_l1, b_l2, b_l3, b_l4, b_l5, b_l6, Bool.true_and, Bool.and_true, cond_true, b01_0, b01_1, i10, true_and, and_true, true_or, or_true, u_rd, u_2, u_at, reduceIte, eq_self, not_true_eq_false, not_false_eq_true, false_imp_iff, true_imp_iff, forall_const, b_nm3_0, b_nm3_1, b_nm3_2, b_nm3_3, b_nm3_4, b_nm3_5, b_nm3_6, b_nm3_7, b_nm3_8, b_nm3_9, b_nm3_10, b_nm3_11, b_nm3_100, b_nm3_101, b_nm3_102, b_nm3_200, b_nm3_201, b_nm3_202, b_nm3_203, b_nm3_204, b_nm3_205, b_nm3_206, b_nm3_207, b_nm3_208, b_ns2_0, b_ns2_1, b_ns2_2, b_ns2_3, b_ns2_4, b_ns2_5, b_ns2_6, b_ns2_7, b_ns2_8, b_ns2_9, b_ns2_10, b_ns2_11, b_ns2_12, b_ns2_13, b_ns2_14, b_ns2_15, b_ns2_16, b_ns2_17, b_ns2_18, b_ns2_19, b_ns2_20, b_ns2_21, b_ns2_22, b_ns2_23, b_ns2_24, b_ns2_25, b_ns2_26, b_ns2_27, b_ns2_28, b_ns2_29, b_ns2_30, b_ns2_31, b_ns2_32, b_ns2_33, b_ns2_34, b_ns2_35, b_ns2_36, b_ns2_37, b_ns2_38, b_ns2_39, b_ns2_40, b_ns2_41, b_ns2_42, b_ns2_43, b_ns2_44, b_ns2_45, b_ns2_50, b_ns2_51, b_ns2_52, b_ns2_53, b_ns2_54, b_ns2_55, b_ns2_56, b_ns2_57, b_ns2_58, b_ns2_59, b_ns2_60, b_ns2_61, b_ns2_62, b_ns2_63, b_ns2_64, b_ns2_65, b_ns2_66, b_ns2_67, b_ns2_68, b_ns2_69, b_ns2_70, b_ns2_71, b_ns2_72, b_ns2_73, b_ns2_74, b_ns2_75, b_ns2_76, b_ns2_77, b_ns2_78, b_ns2_79, b_ns2_80, b_ns2_81, b_ns2_82, b_ns2_83, b_ns2_84, b_ns2_85, b_ns2_86, b_ns2_87, b_ns2_88]
  refine key 0 (by omega) μ fr_rfl (fun p hp => ?_)
  rw [h0 p hp, if_neg (by omega)]
theorem c_cutTo {μ : ab_S} {b : ab_B} {Q : ab_Q} {d1 : Nat → Nat} {H A : Nat} (h1 : ∀ p, d1 p ≤ 50) (hH : H ≤ 20000) (hA : 0 < A) (hA2 : A ≤ 2000) (l3 : μ.2 50 = 30) (h0 : ∀ p, p < 30 → μ.1 50 p = nI (d1 p)) (hQ : ∀ μ', ab_fr (fw [50] []) μ μ' → (∀ p, p < 30 → μ'.1 50 p = nI (du_3 d1 H A p)) → Q none μ') : gd_run 40 0 [some (.inr 10), some (.inl (nI A)), some (.inl (nI H)), none, none, none] [] μ b Q := by
  have gA : ((0 : Int32) < nI A) = True := q_lt (a := 0) (by omega) (by omega)
  have gA0 : (nI A = 0) = False := q_ne (b := 0) (by omega) (by omega) (by omega)
  have dv : ∀ p, nI (d1 p) * nI H = nI (d1 p * H) ∧ nI (d1 p * H) / nI A = nI (d1 p * H / A) := fun p => ⟨pk_mul _ _, pk_div (by have := (du_2_le (A := A) h1 hH p).1; omega) hA (by omega)⟩
  have k2 : ∀ i, i ≤ 30 → ∀ μ' (ov : Int32) x5, ab_nm gd_mv [x5] = true → ab_fr (fw [50] []) μ μ' → (∀ p, p < 30 → μ'.1 50 p = if p < i then nI (du_3 d1 H A p) else nI (d1 p)) → ov.toInt = du_ov d1 H A i → gd_run 40 40 [some (.inr 10), some (.inl (nI A)), some (.inl (nI H)), some (.inl ov), some (.inl (nI i)), x5] [] μ' b Q := by
    refine lp_up (fun μ' ov x5 hx hf hd ho => ?_) (fun i hi ih μ' ov x5 hx hf hd ho => ?_)
    · have g4 : ((30 : Int32) ≤ nI 30) = True := by decide
      rw [s_40_40]
      simp +decide only [s_40_0, s_40_1, s_40_4, s_40_5, s_40_6, s_40_7, s_40_8, s_40_12, s_40_14, s_40_17, s_40_18, s_40_19, s_40_22, s_40_24, s_40_25, s_40_26, s_40_27, s_40_28, s_40_29, s_40_30, s_40_31, s_40_34, s_40_37, s_40_38, s_40_42, s_40_44, s_40_47, s_40_48, s_40_51, s_40_53, s_40_54, s_40_55, s_40_56, s_40_57, s_40_58, s_40_60, s_40_61, s_40_64, s_40_66, s_40_67, s_40_70, s_40_71, s_40_74, s_40_77, s_40_80, s_40_81, s_40_84, s_40_86, s_40_88, s_40_89, s_40_92, s_40_95, b_res, b_resN, b_nm0, b_nm1, b_nm2, b_ns0, b_ns1, b_l0, b_l1, b_l2, b_l3, b_l4, b_l5, b_l6, Bool.true_and, Bool.and_true, cond_true, b01_0, b01_1, i10, true_and, and_true, true_or, or_true, u_rd, u_2, u_at, reduceIte, eq_self, not_true_eq_false, not_false_eq_true, false_imp_iff, true_imp_iff, forall_const, b_nm3_0, b_nm3_1, b_nm3_2, b_nm3_3, b_nm3_4, b_nm3_5, b_nm3_6, b_nm3_7, b_nm3_8, b_nm3_9, b_nm3_10, b_nm3_11, b_nm3_100, b_nm3_101, b_nm3_102, b_nm3_200, b_nm3_201, b_nm3_202, b_nm3_203, b_nm3_204, b_nm3_205, b_nm3_206, b_nm3_207, b_nm3_208, b_ns2_0, b_ns2_1, b_ns2_2, b_ns2_3, b_ns2_4, b_ns2_5, b_ns2_6, b_ns2_7, b_ns2_8, b_ns2_9, b_ns2_10, b_ns2_11, b_ns2_12, b_ns2_13, b_ns2_14, b_ns2_15, b_ns2_16, b_ns2_17, b_ns2_18, b_ns2_19, b_ns2_20, b_ns2_21, b_ns2_22, b_ns2_23, b_ns2_24, b_ns2_25, b_ns2_26, b_ns2_27, b_ns2_28, b_ns2_29, b_ns2_30, b_ns2_31, b_ns2_32, b_ns2_33, b_ns2_34, b_ns2_35, b_ns2_36, b_ns2_37, b_ns2_38, b_ns2_39, b_ns2_40, b_ns2_41, b_ns2_42, b_ns2_43, b_ns2_44, b_ns2_45, b_ns2_50, b_ns2_51, b_ns2_52, b_ns2_53, b_ns2_54, b_ns2_55, b_ns2_56, b_ns2_57, b_ns2_58, b_ns2_59, b_ns2_60, b_ns2_61, b_ns2_62, b_ns2_63, b_ns2_64, b_ns2_65, b_ns2_66, b_ns2_67, b_ns2_68, b_ns2_69, b_ns2_70, b_ns2_71, b_ns2_72, b_ns2_73, b_ns2_74, b_ns2_75, b_ns2_76, b_ns2_77, b_ns2_78, b_ns2_79, b_ns2_80, b_ns2_81, b_ns2_82, b_ns2_83, b_ns2_84, b_ns2_85, b_ns2_86, b_ns2_87, b_ns2_88, g4]
      refine hQ μ' hf (fun p hp => ?_)
      rw [hd p hp, if_pos hp]
    · have g4 : ((30 : Int32) ≤ nI i) = False := q_nle (b := 30) (by omega) (by omega)
      have v1 : vp_in (nI i) 30 = True := q_in (by omega) (by omega)
      have e1 : (nI i).toNatClampNeg = i := nI_clamp (by omega)
      have l3' : μ'.2 50 = 30 := by rw [hf.1]; exact l3
      have di : μ'.1 50 i = nI (d1 i) := by rw [hd i hi, if_neg (by omega)]
      obtain ⟨d2, d3⟩ := dv i
      have hb := du_ov_b (A := A) h1 hH i
      have fin : ∀ x5 (ov' : Int32), ab_nm gd_mv [x5] = true → ov'.toInt = du_ov d1 H A (i + 1) → gd_run 40 40 [some (.inr 10), some (.inl (nI A)), some (.inl (nI H)), some (.inl ov'), some (.inl (nI (i + 1))), x5] [] (ab_up μ' 50 i (nI (du_3 d1 H A i))) b Q := by
        intro x5 ov' hx5 ho'
        refine ih _ ov' x5 hx5 (fr_up hf rfl) (fun p hp => ?_) ho'
        simp +decide only [b_res, b_resN, b_nm0, b_nm1, b_nm2, b_ns0, b_ns1, b_l0, b_l1, b_l2, b_l3, b_l4, b_l5, b_l6, Bool.true_and, Bool.and_true, cond_true, b01_0, b01_1, i10, true_and, and_true, true_or, or_true, u_rd, u_2, u_at, reduceIte, eq_self, not_true_eq_false, not_false_eq_true, false_imp_iff, true_imp_iff, forall_const, b_nm3_0, b_nm3_1, b_nm3_2, b_nm3_3, b_nm3_4, b_nm3_5, b_nm3_6, b_nm3_7, b_nm3_8, b_nm3_9, b_nm3_10, b_nm3_11, b_nm3_100, b_nm3_101, b_nm3_102, b_nm3_200, b_nm3_201, b_nm3_202, b_nm3_203, b_nm3_204, b_nm3_205, b_nm3_206, b_nm3_207, b_nm3_208, b_ns2_0, b_ns2_1, b_ns2_2, b_ns2_3, b_ns2_4, b_ns2_5, b_ns2_6, b_ns2_7, b_ns2_8, b_ns2_9, b_ns2_10, b_ns2_11, b_ns2_12, b_ns2_13, b_ns2_14, b_ns2_15, b_ns2_16, b_ns2_17, b_ns2_18, b_ns2_19, b_ns2_20, b_ns2_21, b_ns2_22, b_ns2_23, b_ns2_24, b_ns2_25, b_ns2_26, b_ns2_27, b_ns2_28, b_ns2_29, b_ns2_30, b_ns2_31, b_ns2_32, b_ns2_33, b_ns2_34, b_ns2_35, b_ns2_36, b_ns2_37, b_ns2_38, b_ns2_39, b_ns2_40, b_ns2_41, b_ns2_42, b_ns2_43, b_ns2_44, b_ns2_45, b_ns2_50, b_ns2_51, b_ns2_52, b_ns2_53, b_ns2_54, b_ns2_55, b_ns2_56, b_ns2_57, b_ns2_58, b_ns2_59, b_ns2_60, b_ns2_61, b_ns2_62, b_ns2_63, b_ns2_64, b_ns2_65, b_ns2_66, b_ns2_67, b_ns2_68, b_ns2_69, b_ns2_70, b_ns2_71, b_ns2_72, b_ns2_73, b_ns2_74, b_ns2_75, b_ns2_76, b_ns2_77, b_ns2_78, b_ns2_79, b_ns2_80, b_ns2_81, b_ns2_82, b_ns2_83, b_ns2_84, b_ns2_85, b_ns2_86, b_ns2_87, b_ns2_88]
        by_cases e : p = i
        · rw [if_pos e, e, if_pos (by omega)]
        · rw [if_neg e, hd p hp]
          simp only [show (p < i + 1) = (p < i) from propext ⟨fun z => by omega, fun z => by omega⟩]
      rw [s_40_40]
      simp +decide only [s_40_0, s_40_1, s_40_4, s_40_5, s_40_6, s_40_7, s_40_8, s_40_12, s_40_14, s_40_17, s_40_18, s_40_19, s_40_22, s_40_24, s_40_25, s_40_26, s_40_27, s_40_28, s_40_29, s_40_30, s_40_31, s_40_34, s_40_37, s_40_38, s_40_42, s_40_44, s_40_47, s_40_48, s_40_51, s_40_53, s_40_54, s_40_55, s_40_56, s_40_57, s_40_58, s_40_60, s_40_61, s_40_64, s_40_66, s_40_67, s_40_70, s_40_71, s_40_74, s_40_77, s_40_80, s_40_81, s_40_84, s_40_86, s_40_88, s_40_89, s_40_92, s_40_95, b_res, b_resN, b_nm0, b_nm1, b_nm2, b_ns0, b_ns1, b_l0, b_l1, b_l2, b_l3, b_l4, b_l5, b_l6, Bool.true_and, Bool.and_true, cond_true, b01_0, b01_1, i10, true_and, and_true, true_or, or_true, u_rd, u_2, u_at, reduceIte, eq_self, not_true_eq_false, not_false_eq_true, false_imp_iff, true_imp_iff, forall_const, b_nm3_0, b_nm3_1, b_nm3_2, b_nm3_3, b_nm3_4, b_nm3_5, b_nm3_6, b_nm3_7, b_nm3_8, b_nm3_9, b_nm3_10, b_nm3_11, b_nm3_100, b_nm3_101, b_nm3_102, b_nm3_200, b_nm3_201, b_nm3_202, b_nm3_203, b_nm3_204, b_nm3_205, b_nm3_206, b_nm3_207, b_nm3_208, b_ns2_0, b_ns2_1, b_ns2_2, b_ns2_3, b_ns2_4, b_ns2_5, b_ns2_6, b_ns2_7, b_ns2_8, b_ns2_9, b_ns2_10, b_ns2_11, b_ns2_12, b_ns2_13, b_ns2_14, b_ns2_15, b_ns2_16, b_ns2_17, b_ns2_18, b_ns2_19, b_ns2_20, b_ns2_21, b_ns2_22, b_ns2_23, b_ns2_24, b_ns2_25, b_ns2_26, b_ns2_27, b_ns2_28, b_ns2_29, b_ns2_30, b_ns2_31, b_ns2_32, b_ns2_33, b_ns2_34, b_ns2_35, b_ns2_36, b_ns2_37, b_ns2_38, b_ns2_39, b_ns2_40, b_ns2_41, b_ns2_42, b_ns2_43, b_ns2_44, b_ns2_45, b_ns2_50, b_ns2_51, b_ns2_52, b_ns2_53, b_ns2_54, b_ns2_55, b_ns2_56, b_ns2_57, b_ns2_58, b_ns2_59, b_ns2_60, b_ns2_61, b_ns2_62, b_ns2_63, b_ns2_64, b_ns2_65, b_ns2_66, b_ns2_67, b_ns2_68, b_ns2_69, b_ns2_70, b_ns2_71, b_ns2_72, b_ns2_73, b_ns2_74, b_ns2_75, b_ns2_76, b_ns2_77, b_ns2_78, b_ns2_79, b_ns2_80, b_ns2_81, b_ns2_82, b_ns2_83, b_ns2_84, b_ns2_85, b_ns2_86, b_ns2_87, b_ns2_88, g4, v1, e1, l3', di, d2, d3, gA0, nI_1]
      have hle : (nI (d1 i) ≤ 0) = (d1 i = 0) := propext ⟨fun z => by rw [i_le, nI_toInt (by have := h1 i; omega), kI_0] at z; omega, fun z => by rw [z]; decide⟩
      have hov : (ov ≤ 0) = (du_ov d1 H A i ≤ 0) := by rw [i_le, kI_0, ho]
      rw [hle, hov]
      refine ⟨fun z => ?_, fun z => ⟨fun w => ?_, fun w => ?_⟩⟩
      · have x3 : du_3 d1 H A i = d1 i * H / A := by unfold du_3; rw [if_neg (by omega)]; omega
        rw [← x3]
        exact fin _ ov rfl (by rw [du_ov, if_neg (by omega)]; exact ho)
      · have x3 : du_3 d1 H A i = d1 i * H / A := by unfold du_3; rw [if_neg (by omega)]; omega
        rw [← x3]
        exact fin _ ov rfl (by rw [du_ov, if_neg (by omega)]; exact ho)
      · have x3 : du_3 d1 H A i = d1 i * H / A + 1 := by unfold du_3; rw [if_pos (by omega)]
        rw [← x3]
        exact fin _ _ rfl (by rw [du_ov, if_pos (by omega), i_add (by rw [kI_m1]; omega) (by rw [kI_m1]; omega), ho, kI_m1]; omega)
  have k1 : ∀ i, i ≤ 30 → ∀ ov : Int32, ov.toInt = (H : Int) - (pn_sum (fun p => d1 p * H / A) i : Nat) → gd_run 40 10 [some (.inr 10), some (.inl (nI A)), some (.inl (nI H)), some (.inl ov), some (.inl (nI i)), none] [] μ b Q := by
    refine lp_up (fun ov ho => ?_) (fun i hi ih ov ho => ?_)
    · have g4 : ((30 : Int32) ≤ nI 30) = True := by decide
      rw [s_40_10]
      simp +decide only [s_40_0, s_40_1, s_40_4, s_40_5, s_40_6, s_40_7, s_40_8, s_40_12, s_40_14, s_40_17, s_40_18, s_40_19, s_40_22, s_40_24, s_40_25, s_40_26, s_40_27, s_40_28, s_40_29, s_40_30, s_40_31, s_40_34, s_40_37, s_40_38, s_40_42, s_40_44, s_40_47, s_40_48, s_40_51, s_40_53, s_40_54, s_40_55, s_40_56, s_40_57, s_40_58, s_40_60, s_40_61, s_40_64, s_40_66, s_40_67, s_40_70, s_40_71, s_40_74, s_40_77, s_40_80, s_40_81, s_40_84, s_40_86, s_40_88, s_40_89, s_40_92, s_40_95, b_res, b_resN, b_nm0, b_nm1, b_nm2, b_ns0, b_ns1, b_l0, b_l1, b_l2, b_l3, b_l4, b_l5, b_l6, Bool.true_and, Bool.and_true, cond_true, b01_0, b01_1, i10, true_and, and_true, true_or, or_true, u_rd, u_2, u_at, reduceIte, eq_self, not_true_eq_false, not_false_eq_true, false_imp_iff, true_imp_iff, forall_const, b_nm3_0, b_nm3_1, b_nm3_2, b_nm3_3, b_nm3_4, b_nm3_5, b_nm3_6, b_nm3_7, b_nm3_8, b_nm3_9, b_nm3_10, b_nm3_11, b_nm3_100, b_nm3_101, b_nm3_102, b_nm3_200, b_nm3_201, b_nm3_202, b_nm3_203, b_nm3_204, b_nm3_205, b_nm3_206, b_nm3_207, b_nm3_208, b_ns2_0, b_ns2_1, b_ns2_2, b_ns2_3, b_ns2_4, b_ns2_5, b_ns2_6, b_ns2_7, b_ns2_8, b_ns2_9, b_ns2_10, b_ns2_11, b_ns2_12, b_ns2_13, b_ns2_14, b_ns2_15, b_ns2_16, b_ns2_17, b_ns2_18, b_ns2_19, b_ns2_20, b_ns2_21, b_ns2_22, b_ns2_23, b_ns2_24, b_ns2_25, b_ns2_26, b_ns2_27, b_ns2_28, b_ns2_29, b_ns2_30, b_ns2_31, b_ns2_32, b_ns2_33, b_ns2_34, b_ns2_35, b_ns2_36, b_ns2_37, b_ns2_38, b_ns2_39, b_ns2_40, b_ns2_41, b_ns2_42, b_ns2_43, b_ns2_44, b_ns2_45, b_ns2_50, b_ns2_51, b_ns2_52, b_ns2_53, b_ns2_54, b_ns2_55, b_ns2_56, b_ns2_57, b_ns2_58, b_ns2_59, b_ns2_60, b_ns2_61, b_ns2_62, b_ns2_63, b_ns2_64, b_ns2_65, b_ns2_66, b_ns2_67, b_ns2_68, b_ns2_69, b_ns2_70, b_ns2_71, b_ns2_72, b_ns2_73, b_ns2_74, b_ns2_75, b_ns2_76, b_ns2_77, b_ns2_78, b_ns2_79, b_ns2_80, b_ns2_81, b_ns2_82, b_ns2_83, b_ns2_84, b_ns2_85, b_ns2_86, b_ns2_87, b_ns2_88, g4]
      refine k2 0 (by omega) μ ov _ rfl fr_rfl (fun p hp => ?_) (by rw [du_ov]; exact ho)
      rw [h0 p hp, if_neg (by omega)]
    · have g4 : ((30 : Int32) ≤ nI i) = False := q_nle (b := 30) (by omega) (by omega)
      have v1 : vp_in (nI i) 30 = True := q_in (by omega) (by omega)
      have e1 : (nI i).toNatClampNeg = i := nI_clamp (by omega)
      obtain ⟨d2, d3⟩ := dv i
      have di := h0 i hi
      have hb := pn_le (f := fun p => d1 p * H / A) (B := 1000000) (n := i) (fun p hp => (du_2_le h1 hH p).2)
      have hb2 := (du_2_le (A := A) h1 hH i).2
      have td : (nI (d1 i * H / A)).toInt = ((d1 i * H / A : Nat) : Int) := nI_toInt (by omega)
      have td1 : 0 ≤ (nI (d1 i * H / A)).toInt ∧ (nI (d1 i * H / A)).toInt ≤ 1000000 := by
        rw [td]
        generalize d1 i * H / A = z at hb2
        omega
      rw [s_40_10]
      simp +decide only [s_40_0, s_40_1, s_40_4, s_40_5, s_40_6, s_40_7, s_40_8, s_40_12, s_40_14, s_40_17, s_40_18, s_40_19, s_40_22, s_40_24, s_40_25, s_40_26, s_40_27, s_40_28, s_40_29, s_40_30, s_40_31, s_40_34, s_40_37, s_40_38, s_40_42, s_40_44, s_40_47, s_40_48, s_40_51, s_40_53, s_40_54, s_40_55, s_40_56, s_40_57, s_40_58, s_40_60, s_40_61, s_40_64, s_40_66, s_40_67, s_40_70, s_40_71, s_40_74, s_40_77, s_40_80, s_40_81, s_40_84, s_40_86, s_40_88, s_40_89, s_40_92, s_40_95, b_res, b_resN, b_nm0, b_nm1, b_nm2, b_ns0, b_ns1, b_l0, b_l1, b_l2, b_l3, b_l4, b_l5, b_l6, Bool.true_and, Bool.and_true, cond_true, b01_0, b01_1, i10, true_and, and_true, true_or, or_true, u_rd, u_2, u_at, reduceIte, eq_self, not_true_eq_false, not_false_eq_true, false_imp_iff, true_imp_iff, forall_const, b_nm3_0, b_nm3_1, b_nm3_2, b_nm3_3, b_nm3_4, b_nm3_5, b_nm3_6, b_nm3_7, b_nm3_8, b_nm3_9, b_nm3_10, b_nm3_11, b_nm3_100, b_nm3_101, b_nm3_102, b_nm3_200, b_nm3_201, b_nm3_202, b_nm3_203, b_nm3_204, b_nm3_205, b_nm3_206, b_nm3_207, b_nm3_208, b_ns2_0, b_ns2_1, b_ns2_2, b_ns2_3, b_ns2_4, b_ns2_5, b_ns2_6, b_ns2_7, b_ns2_8, b_ns2_9, b_ns2_10, b_ns2_11, b_ns2_12, b_ns2_13, b_ns2_14, b_ns2_15, b_ns2_16, b_ns2_17, b_ns2_18, b_ns2_19, b_ns2_20, b_ns2_21, b_ns2_22, b_ns2_23, b_ns2_24, b_ns2_25, b_ns2_26, b_ns2_27, b_ns2_28, b_ns2_29, b_ns2_30, b_ns2_31, b_ns2_32, b_ns2_33, b_ns2_34, b_ns2_35, b_ns2_36, b_ns2_37, b_ns2_38, b_ns2_39, b_ns2_40, b_ns2_41, b_ns2_42, b_ns2_43, b_ns2_44, b_ns2_45, b_ns2_50, b_ns2_51, b_ns2_52, b_ns2_53, b_ns2_54, b_ns2_55, b_ns2_56, b_ns2_57, b_ns2_58, b_ns2_59, b_ns2_60, b_ns2_61, b_ns2_62, b_ns2_63, b_ns2_64, b_ns2_65, b_ns2_66, b_ns2_67, b_ns2_68, b_ns2_69, b_ns2_70, b_ns2_71, b_ns2_72, b_ns2_73, b_ns2_74, b_ns2_75, b_ns2_76, b_ns2_77, b_ns2_78, b_ns2_79, b_ns2_80, b_ns2_81, b_ns2_82, b_ns2_83, b_ns2_84, b_ns2_85, b_ns2_86, b_ns2_87, b_ns2_88, g4, v1, e1, l3, di, d2, d3, gA0, nI_1]
      refine ih _ ?_
      rw [pn_sum, i_sub (by omega) (by omega), ho, td]
      generalize d1 i * H / A = z
      omega
  simp +decide only [s_40_0, s_40_1, s_40_4, s_40_5, s_40_6, s_40_7, s_40_8, s_40_12, s_40_14, s_40_17, s_40_18, s_40_19, s_40_22, s_40_24, s_40_25, s_40_26, s_40_27, s_40_28, s_40_29, s_40_30, s_40_31, s_40_34, s_40_37, s_40_38, s_40_42, s_40_44, s_40_47, s_40_48, s_40_51, s_40_53, s_40_54, s_40_55, s_40_56, s_40_57, s_40_58, s_40_60, s_40_61, s_40_64, s_40_66, s_40_67, s_40_70, s_40_71, s_40_74, s_40_77, s_40_80, s_40_81, s_40_84, s_40_86, s_40_88, s_40_89, s_40_92, s_40_95, b_res, b_resN, b_nm0, b_nm1, b_nm2, b_ns0, b_ns1, b_l0, b_l1, b_l2, b_l3, b_l4, b_l5, b_l6, Bool.true_and, Bool.and_true, cond_true, b01_0, b01_1, i10, true_and, and_true, true_or, or_true, u_rd, u_2, u_at, reduceIte, eq_self, not_true_eq_false, not_false_eq_true, false_imp_iff, true_imp_iff, forall_const, b_nm3_0, b_nm3_1, b_nm3_2, b_nm3_3, b_nm3_4, b_nm3_5, b_nm3_6, b_nm3_7, b_nm3_8, b_nm3_9, b_nm3_10, b_nm3_11, b_nm3_100, b_nm3_101, b_nm3_102, b_nm3_200, b_nm3_201, b_nm3_202, b_nm3_203, b_nm3_204, b_nm3_205, b_nm3_206, b_nm3_207, b_nm3_208, b_ns2_0, b_ns2_1, b_ns2_2, b_ns2_3, b_ns2_4, b_ns2_5, b_ns2_6, b_ns2_7, b_ns2_8, b_ns2_9, b_ns2_10, b_ns2_11, b_ns2_12, b_ns2_13, b_ns2_14, b_ns2_15, b_ns2_16, b_ns2_17, b_ns2_18, b_ns2_19, b_ns2_20, b_ns2_21, b_ns2_22, b_ns2_23, b_ns2_24, b_ns2_25, b_ns2_26, b_ns2_27, b_ns2_28, b_ns2_29, b_ns2_30, b_ns2_31, b_ns2_32, b_ns2_33, b_ns2_34, b_ns2_35, b_ns2_36, b_ns2_37, b_ns2_38, b_ns2_39, b_ns2_40, b_ns2_41, b_ns2_42, b_ns2_43, b_ns2_44, b_ns2_45, b_ns2_50, b_ns2_51, b_ns2_52, b_ns2_53, b_ns2_54, b_ns2_55, b_ns2_56, b_ns2_57, b_ns2_58, b_ns2_59, b_ns2_60, b_ns2_61, b_ns2_62, b_ns2_63, b_ns2_64, b_ns2_65, b_ns2_66, b_ns2_67, b_ns2_68, b_ns2_69, b_ns2_70, b_ns2_71, b_ns2_72, b_ns2_73, b_ns2_74, b_ns2_75, b_ns2_76, b_ns2_77, b_ns2_78, b_ns2_79, b_ns2_80, b_ns2_81, b_ns2_82, b_ns2_83, b_ns2_84, b_ns2_85, b_ns2_86, b_ns2_87, b_ns2_88, gA]
  refine k1 0 (by omega) _ ?_
  rw [nI_toInt (by omega), pn_sum]
  omega
