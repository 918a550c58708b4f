-- frames: which cells and fields may have changed
def fw (cs : List Nat) (fs : List (Nat × Nat)) (d j : Nat) : Bool := cs.any (fun c => Nat.beq d c) || fs.any (fun q => Nat.beq d q.1 && Nat.beq j q.2)
def ab_fr (w : Nat → Nat → Bool) (μ μ' : ab_S) : Prop := μ'.2 = μ.2 ∧ ∀ d j, w d j = false → μ'.1 d j = μ.1 d j
theorem fr_rfl {w : Nat → Nat → Bool} {μ : ab_S} : ab_fr w μ μ := ⟨rfl, fun _ _ _ => rfl⟩
theorem fr_tr {w : Nat → Nat → Bool} {μ μ1 μ2 : ab_S} (h : ab_fr w μ μ1) (h' : ab_fr w μ1 μ2) : ab_fr w μ μ2 := ⟨h'.1.trans h.1, fun d j q => (h'.2 d j q).trans (h.2 d j q)⟩
theorem fr_mo {w v : Nat → Nat → Bool} {μ μ1 : ab_S} (h : ab_fr w μ μ1) (hv : ∀ d j, v d j = false → w d j = false) : ab_fr v μ μ1 := ⟨h.1, fun d j q => h.2 d j (hv d j q)⟩
theorem fr_up {w : Nat → Nat → Bool} {μ μ' : ab_S} {c j : Nat} {x : Int32} (h : ab_fr w μ μ') (hw : w c j = true) : ab_fr w μ (ab_up μ' c j x) := ⟨h.1, fun d k q => by
  rw [u_rd]
  by_cases e : d = c
  · subst e
    rw [if_pos rfl, u_at, if_neg (fun e => by subst e; rw [hw] at q; cases q)]
    exact h.2 d k q
  · rw [if_neg e]
    exact h.2 d k q⟩
theorem fr_c {w : Nat → Nat → Bool} {μ μ' : ab_S} (h : ab_fr w μ μ') (c : Nat) (hc : ∀ j, w c j = false) : μ'.1 c = μ.1 c := funext fun j => h.2 c j (hc j)
theorem fw_sub {cs cs' : List Nat} {fs fs' : List (Nat × Nat)} (h1 : ∀ c ∈ cs, c ∈ cs') (h2 : ∀ q ∈ fs, q ∈ fs' ∨ q.1 ∈ cs') (d j : Nat) (h : fw cs' fs' d j = false) : fw cs fs d j = false := by
  unfold fw at h ⊢
  rw [Bool.or_eq_false_iff, List.any_eq_false, List.any_eq_false] at h ⊢
  refine ⟨fun c hc => h.1 c (h1 c hc), fun q hq => ?_⟩
  rcases h2 q hq with h2 | h2
  · exact h.2 q h2
  · intro z
    rw [Bool.and_eq_true] at z
    exact h.1 _ h2 z.1
theorem fr_sub {cs cs' : List Nat} {fs fs' : List (Nat × Nat)} {μ μ' : ab_S} (h : ab_fr (fw cs fs) μ μ') (h1 : ∀ c ∈ cs, c ∈ cs') (h2 : ∀ q ∈ fs, q ∈ fs' ∨ q.1 ∈ cs') : ab_fr (fw cs' fs') μ μ' := fr_mo h (fw_sub h1 h2)
-- loops that count up
theorem lp_up {P : Nat → Prop} {n : Nat} (h0 : P n) (hs : ∀ i, i < n → P (i + 1) → P i) : ∀ i, i ≤ n → P i := by
  have key : ∀ k i, i + k = n → P i := by
    intro k
    induction k with
    | zero => intro i hi; rw [show i = n by omega]; exact h0
    | succ k ih => intro i hi; exact hs i (by omega) (ih (i + 1) (by omega))
  exact fun i hi => key (n - i) i (by omega)
theorem pu_le2 {f : Nat → Int} {B : Nat} : ∀ {n : Nat}, (∀ j, j < n → 0 ≤ f j ∧ f j ≤ B) → 0 ≤ pu_sum f n ∧ pu_sum f n ≤ B * n
  | 0, _ => by simp [pu_sum]
  | n + 1, h => by
    have h1 := pu_le2 (n := n) (fun j hj => h j (by omega))
    have h2 := h n (by omega)
    rw [pu_sum]
    have : ((n + 1 : Nat) : Int) = (n : Int) + 1 := by omega
    rw [this, Int.mul_add]
    omega
theorem i_nat {k : Nat} (h : k < 2 ^ 31) : (nI k).toInt.toNat = k := by rw [nI_toInt h]; omega
theorem i_cl (x : Int32) : x.toNatClampNeg = x.toInt.toNat := rfl
