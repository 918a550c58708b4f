theorem gd_layok : ab_layok gd_lay gd_N := by
  intro c hc
  by_cases h : c < 300
  · have key : ∀ x : Fin 300, (match gd_lay x.val with
      | .inr t => decide (gd_N ≤ x.val → 3 ≤ t)
      | .inl _ => decide (x.val < gd_N)) = true := by decide +kernel
    have h1 := key ⟨c, h⟩
    dsimp only at h1
    cases hl : gd_lay c with
    | inl o =>
      rw [hl] at h1
      have := of_decide_eq_true h1
      omega
    | inr t =>
      rw [hl] at h1
      exact ⟨t, rfl, of_decide_eq_true h1 hc⟩
  · refine ⟨9, ?_, by decide⟩
    unfold gd_lay
    rw [show Nat.blt c 300 = false from by
      cases hb : Nat.blt c 300 with
      | false => rfl
      | true => exact absurd (Nat.le_of_ble_eq_true hb) (by omega)]
    rfl
theorem gd_mvN : ∀ k, gd_N ≤ k → gd_mv k = false := by
  intro k hk
  have hk : 89 ≤ k := hk
  unfold gd_mv
  cases hb : Nat.ble k 49 with
  | false => rw [Bool.and_false]
  | true => exact absurd (Nat.le_of_ble_eq_true hb) (by omega)
def gd_nest : List (String × Nat × MethodName) := [(RX3, 46, yX10_isMonth), (RX5, 37, yX10_isPlace), (RX5, 41, yX10_isCitizen), (RX5, 44, yX10_isRank), (RX6, 79, yX10_isPlace), (RX6, 117, yX10_isCitizen), (RX7, 44, yX10_isGranary), (RX9, 22, yX10_isPlace), (RX9, 32, yX10_isGate)]
def gd_sl : List Nat := [5, 4, 5, 4, 4, 4, 7, 3, 2]
def gd_sb : List (List Int32) := [[115, 104, 97, 114, 101], [114, 97, 110, 107], [115, 112, 111, 105, 108], [100, 97, 109, 112], [115, 97, 108, 101], [98, 97, 99, 107], [112, 114, 101, 109, 105, 117, 109], [121, 101, 115], [110, 111]]
def gd_strs : List (Nat × String × Nat) := [(96, "share", 200), (98, "rank", 201), (100, "spoil", 202), (102, "damp", 203), (104, "sale", 204), (106, "back", 205), (108, "premium", 206), (81, "yes", 207), (87, "no", 208)]
def gd_X (adS : Nat → Nat) (A : Nat → Prop) (U : State) : Prop :=
  (∀ q ∈ gd_nest, va_Nw (.methodLinkNest q.1 q.2.1 q.2.2 "GrainDole") U) ∧
  (va_Z RX1 "WITHOUT" "[I" (.ref (adS 100)) A U U.heap ∧ va_T .int (adS 100) gd_t100.length (fun j => .int (gd_t100.getD j 0)) A U U.heap) ∧
  (va_Z RX2 "LEAST" "[I" (.ref (adS 101)) A U U.heap ∧ va_T .int (adS 101) gd_t101.length (fun j => .int (gd_t101.getD j 0)) A U U.heap) ∧
  (va_Z RX2 "MOST" "[I" (.ref (adS 102)) A U U.heap ∧ va_T .int (adS 102) gd_t102.length (fun j => .int (gd_t102.getD j 0)) A U U.heap) ∧
  va_Z "java/lang/String" "COMPACT_STRINGS" "Z" (.int 1) A U U.heap ∧
  va_Zq "jdk/internal/util/Preconditions" "SIOOBE_FORMATTER" "Ljava/util/function/BiFunction;" A U U.heap ∧
  vk_S 9 gd_sl gd_sb (fun i => adS (200 + i)) (fun i => adS (250 + i)) A U U.heap ∧
  (∀ q ∈ gd_strs, vk_R RX2 q.1 q.2.1 (adS q.2.2) U)
theorem gx_ok {adS : Nat → Nat} : ab_Xok (gd_X adS) := by
  refine ⟨?_, ?_⟩
  · intro A A' s U H locs h hS hA hU hW
    subst hU
    obtain ⟨h0, ⟨a1, a2⟩, ⟨b1, b2⟩, ⟨c1, c2⟩, h4, h5, h6, h7⟩ := h
    exact ⟨fun q hq => (h0 q hq).warmM hW, ⟨((a1.kept hS.2.1).narrow hA).moved hW.alike, ((a2.kept hS.2.1).narrow hA).moved hW.alike⟩, ⟨((b1.kept hS.2.1).narrow hA).moved hW.alike, ((b2.kept hS.2.1).narrow hA).moved hW.alike⟩, ⟨((c1.kept hS.2.1).narrow hA).moved hW.alike, ((c2.kept hS.2.1).narrow hA).moved hW.alike⟩, ((h4.kept hS.2.1).narrow hA).moved hW.alike, ((h5.kept hS.2.1).narrow hA).moved hW.alike, ((h6.kept hS.2.1).narrow hA).moved hW.alike, fun q hq => (h7 q hq).warm hW⟩
  · intro A U g mk a h
    obtain ⟨h0, ⟨a1, a2⟩, ⟨b1, b2⟩, ⟨c1, c2⟩, h4, h5, h6, h7⟩ := h
    have ha : U.vm.Alike (U.calling g mk a).vm := Vm.Alike.refl U.vm
    exact ⟨fun q hq => va_Nw.same rfl rfl (h0 q hq), ⟨a1.moved ha, a2.moved ha⟩, ⟨b1.moved ha, b2.moved ha⟩, ⟨c1.moved ha, c2.moved ha⟩, h4.moved ha, h5.moved ha, h6.moved ha, fun q hq => vk_R.same rfl (h7 q hq)⟩
section GX
variable {adS : Nat → Nat}
theorem gx_z100 : ∀ A U, gd_X adS A U → va_Z RX1 "WITHOUT" "[I" (.ref (adS 100)) A U U.heap := fun _ _ h => h.2.1.1
theorem gx_t100 : ∀ A U, gd_X adS A U → va_T .int (adS 100) gd_t100.length (fun j => .int (gd_t100.getD j 0)) A U U.heap := fun _ _ h => h.2.1.2
theorem gx_z101 : ∀ A U, gd_X adS A U → va_Z RX2 "LEAST" "[I" (.ref (adS 101)) A U U.heap := fun _ _ h => h.2.2.1.1
theorem gx_t101 : ∀ A U, gd_X adS A U → va_T .int (adS 101) gd_t101.length (fun j => .int (gd_t101.getD j 0)) A U U.heap := fun _ _ h => h.2.2.1.2
theorem gx_z102 : ∀ A U, gd_X adS A U → va_Z RX2 "MOST" "[I" (.ref (adS 102)) A U U.heap := fun _ _ h => h.2.2.2.1.1
theorem gx_t102 : ∀ A U, gd_X adS A U → va_T .int (adS 102) gd_t102.length (fun j => .int (gd_t102.getD j 0)) A U U.heap := fun _ _ h => h.2.2.2.1.2
theorem gx_cs : ∀ A U, gd_X adS A U → va_Z "java/lang/String" "COMPACT_STRINGS" "Z" (.int 1) A U U.heap := fun _ _ h => h.2.2.2.2.1
theorem gd_k4 {k : Nat} (h : gd_lay k = .inr 4) : ∃ i, i < 9 ∧ k = 200 + i := by
  by_cases hk : k < 300
  · have key : ∀ x : Fin 300, (match gd_lay x.val with
      | .inr 4 => decide (200 ≤ x.val ∧ x.val < 200 + 9)
      | _ => true) = true := by decide +kernel
    have h1 := key ⟨k, hk⟩
    dsimp only at h1
    rw [h] at h1
    have := of_decide_eq_true h1
    exact ⟨k - 200, by omega, by omega⟩
  · obtain ⟨t, ht, -⟩ := gd_layok k (by show 89 ≤ k; omega)
    exfalso
    have : gd_lay k = .inr 9 := by
      unfold gd_lay
      rw [show Nat.blt k 300 = false from by
        cases hb : Nat.blt k 300 with
        | false => rfl
        | true => exact absurd (Nat.le_of_ble_eq_true hb) (by omega)]
      rfl
    rw [this] at h
    cases h
theorem gd_k5 {k : Nat} (h : gd_lay k = .inr 5) : ∃ i, i < 9 ∧ k = 250 + i := by
  by_cases hk : k < 300
  · have key : ∀ x : Fin 300, (match gd_lay x.val with
      | .inr 5 => decide (250 ≤ x.val ∧ x.val < 250 + 9)
      | _ => true) = true := by decide +kernel
    have h1 := key ⟨k, hk⟩
    dsimp only at h1
    rw [h] at h1
    have := of_decide_eq_true h1
    exact ⟨k - 250, by omega, by omega⟩
  · obtain ⟨t, ht, -⟩ := gd_layok k (by show 89 ≤ k; omega)
    exfalso
    have : gd_lay k = .inr 9 := by
      unfold gd_lay
      rw [show Nat.blt k 300 = false from by
        cases hb : Nat.blt k 300 with
        | false => rfl
        | true => exact absurd (Nat.le_of_ble_eq_true hb) (by omega)]
      rfl
    rw [this] at h
    cases h
theorem gx_so : ∀ k, gd_lay k = .inr 4 → gd_N ≤ k ∧ ∀ A U, gd_X adS A U → va_O "java/lang/String" (adS k) A U U.heap := by
  intro k hk
  obtain ⟨i, hi, rfl⟩ := gd_k4 hk
  exact ⟨by show 89 ≤ 200 + i; omega, fun A U h => (h.2.2.2.2.2.2.1.1 i hi).1⟩
theorem gx_s0 : ∀ k, gd_lay k = .inr 4 → gd_N ≤ k ∧ ∀ A U, gd_X adS A U → va_OF "java/lang/String" "coder" "B" (.int 0) (adS k) A U U.heap := by
  intro k hk
  obtain ⟨i, hi, rfl⟩ := gd_k4 hk
  exact ⟨by show 89 ≤ 200 + i; omega, fun A U h => (h.2.2.2.2.2.2.1.1 i hi).2.1⟩
theorem gx_s1 : ∀ k, gd_lay k = .inr 4 → gd_N ≤ k ∧ gd_N ≤ k + 50 ∧ ∀ A U, gd_X adS A U → va_OF "java/lang/String" "value" "[B" (.ref (adS (k + 50))) (adS k) A U U.heap := by
  intro k hk
  obtain ⟨i, hi, rfl⟩ := gd_k4 hk
  refine ⟨by show 89 ≤ 200 + i; omega, by show 89 ≤ 200 + i + 50; omega, fun A U h => ?_⟩
  rw [show 200 + i + 50 = 250 + i by omega]
  exact (h.2.2.2.2.2.2.1.1 i hi).2.2.1
theorem gx_sv : ∀ k, gd_lay k = .inr 5 → gd_N ≤ k ∧ ∀ A U, gd_X adS A U → va_T .byte (adS k) (gd_sv k).length (fun j => .int ((gd_sv k).getD j 0)) A U U.heap := by
  intro k hk
  obtain ⟨i, hi, rfl⟩ := gd_k5 hk
  refine ⟨by show 89 ≤ 250 + i; omega, fun A U h => ?_⟩
  have h1 := (h.2.2.2.2.2.2.1.1 i hi).2.2.2
  have key : ∀ x : Fin 9, gd_sb.getD x.val [] = gd_sv (250 + x.val) ∧ gd_sl.getD x.val 0 = (gd_sv (250 + x.val)).length := by decide +kernel
  obtain ⟨e1, e2⟩ := key ⟨i, hi⟩
  dsimp only at e1 e2
  rw [e2] at h1
  simp only [e1] at h1
  exact h1
theorem gx_r200 : ∀ A U, gd_X adS A U → vk_R RX2 96 "share" (adS 200) U := fun _ _ h => h.2.2.2.2.2.2.2 (96, "share", 200) (List.mem_of_getElem? (i := 0) rfl)
theorem gx_r201 : ∀ A U, gd_X adS A U → vk_R RX2 98 "rank" (adS 201) U := fun _ _ h => h.2.2.2.2.2.2.2 (98, "rank", 201) (List.mem_of_getElem? (i := 1) rfl)
theorem gx_r202 : ∀ A U, gd_X adS A U → vk_R RX2 100 "spoil" (adS 202) U := fun _ _ h => h.2.2.2.2.2.2.2 (100, "spoil", 202) (List.mem_of_getElem? (i := 2) rfl)
theorem gx_r203 : ∀ A U, gd_X adS A U → vk_R RX2 102 "damp" (adS 203) U := fun _ _ h => h.2.2.2.2.2.2.2 (102, "damp", 203) (List.mem_of_getElem? (i := 3) rfl)
theorem gx_r204 : ∀ A U, gd_X adS A U → vk_R RX2 104 "sale" (adS 204) U := fun _ _ h => h.2.2.2.2.2.2.2 (104, "sale", 204) (List.mem_of_getElem? (i := 4) rfl)
theorem gx_r205 : ∀ A U, gd_X adS A U → vk_R RX2 106 "back" (adS 205) U := fun _ _ h => h.2.2.2.2.2.2.2 (106, "back", 205) (List.mem_of_getElem? (i := 5) rfl)
theorem gx_r206 : ∀ A U, gd_X adS A U → vk_R RX2 108 "premium" (adS 206) U := fun _ _ h => h.2.2.2.2.2.2.2 (108, "premium", 206) (List.mem_of_getElem? (i := 6) rfl)
theorem gx_r207 : ∀ A U, gd_X adS A U → vk_R RX2 81 "yes" (adS 207) U := fun _ _ h => h.2.2.2.2.2.2.2 (81, "yes", 207) (List.mem_of_getElem? (i := 7) rfl)
theorem gx_r208 : ∀ A U, gd_X adS A U → vk_R RX2 87 "no" (adS 208) U := fun _ _ h => h.2.2.2.2.2.2.2 (87, "no", 208) (List.mem_of_getElem? (i := 8) rfl)
theorem gx_n46_X3 : ∀ A U, gd_X adS A U → va_Nw (.methodLinkNest RX3 46 yX10_isMonth "GrainDole") U := fun _ _ h => h.1 (RX3, 46, yX10_isMonth) (List.mem_of_getElem? (i := 0) rfl)
theorem gx_n37_X5 : ∀ A U, gd_X adS A U → va_Nw (.methodLinkNest RX5 37 yX10_isPlace "GrainDole") U := fun _ _ h => h.1 (RX5, 37, yX10_isPlace) (List.mem_of_getElem? (i := 1) rfl)
theorem gx_n41_X5 : ∀ A U, gd_X adS A U → va_Nw (.methodLinkNest RX5 41 yX10_isCitizen "GrainDole") U := fun _ _ h => h.1 (RX5, 41, yX10_isCitizen) (List.mem_of_getElem? (i := 2) rfl)
theorem gx_n44_X5 : ∀ A U, gd_X adS A U → va_Nw (.methodLinkNest RX5 44 yX10_isRank "GrainDole") U := fun _ _ h => h.1 (RX5, 44, yX10_isRank) (List.mem_of_getElem? (i := 3) rfl)
theorem gx_n79_X6 : ∀ A U, gd_X adS A U → va_Nw (.methodLinkNest RX6 79 yX10_isPlace "GrainDole") U := fun _ _ h => h.1 (RX6, 79, yX10_isPlace) (List.mem_of_getElem? (i := 4) rfl)
theorem gx_n117_X6 : ∀ A U, gd_X adS A U → va_Nw (.methodLinkNest RX6 117 yX10_isCitizen "GrainDole") U := fun _ _ h => h.1 (RX6, 117, yX10_isCitizen) (List.mem_of_getElem? (i := 5) rfl)
theorem gx_n44_X7 : ∀ A U, gd_X adS A U → va_Nw (.methodLinkNest RX7 44 yX10_isGranary "GrainDole") U := fun _ _ h => h.1 (RX7, 44, yX10_isGranary) (List.mem_of_getElem? (i := 6) rfl)
theorem gx_n22_X9 : ∀ A U, gd_X adS A U → va_Nw (.methodLinkNest RX9 22 yX10_isPlace "GrainDole") U := fun _ _ h => h.1 (RX9, 22, yX10_isPlace) (List.mem_of_getElem? (i := 7) rfl)
theorem gx_n32_X9 : ∀ A U, gd_X adS A U → va_Nw (.methodLinkNest RX9 32 yX10_isGate "GrainDole") U := fun _ _ h => h.1 (RX9, 32, yX10_isGate) (List.mem_of_getElem? (i := 8) rfl)
end GX
