-- handing out, purely: what lies in the lots, how many gifts, how often the rows have grown, the gifts' places, lots, measures
def updN (f : Nat → Nat) (k x : Nat) : Nat → Nat := fun j => if j = k then x else f j
abbrev hd_G : Type := (Nat → Nat) × Nat × Nat × (Nat → Nat) × (Nat → Nat) × (Nat → Nat)
abbrev g_r (G : hd_G) : Nat → Nat := G.1
abbrev g_n (G : hd_G) : Nat := G.2.1
abbrev g_i (G : hd_G) : Nat := G.2.2.1
abbrev g_p (G : hd_G) : Nat → Nat := G.2.2.2.1
abbrev g_l (G : hd_G) : Nat → Nat := G.2.2.2.2.1
abbrev g_m (G : hd_G) : Nat → Nat := G.2.2.2.2.2
def hd_put (G : hd_G) (p k t : Nat) : hd_G := (updN (g_r G) k (g_r G k - t), g_n G + 1, (if g_n G = 32 * 2 ^ g_i G then g_i G + 1 else g_i G), updN (g_p G) (g_n G) p, updN (g_l G) (g_n G) k, updN (g_m G) (g_n G) t)
def hd_step (p k : Nat) (X : Nat × hd_G) : Nat × hd_G := if min X.1 (g_r X.2 k) = 0 then X else (X.1 - min X.1 (g_r X.2 k), hd_put X.2 p k (min X.1 (g_r X.2 k)))
def hd_lots (p : Nat) : Nat → Nat × hd_G → Nat × hd_G
  | 0, X => X
  | k + 1, X => hd_step p k (hd_lots p k X)
def hd_all (due : Nat → Nat) (n : Nat) : Nat → hd_G → hd_G
  | 0, G => G
  | p + 1, G => (hd_lots p n (due p, hd_all due n p G)).2
theorem hd_step_z {p k : Nat} {X : Nat × hd_G} (h : min X.1 (g_r X.2 k) = 0) : hd_step p k X = X := if_pos h
theorem hd_step_t {p k : Nat} {X : Nat × hd_G} (h : ¬ min X.1 (g_r X.2 k) = 0) : hd_step p k X = (X.1 - min X.1 (g_r X.2 k), hd_put X.2 p k (min X.1 (g_r X.2 k))) := if_neg h
theorem hd_stay {p k : Nat} {X : Nat × hd_G} (h : (hd_lots p k X).1 = 0) : ∀ m, hd_lots p (k + m) X = hd_lots p k X
  | 0 => rfl
  | m + 1 => by
    have ih := hd_stay h m
    show hd_step p (k + m) (hd_lots p (k + m) X) = _
    rw [ih, hd_step_z (by rw [h]; exact Nat.zero_min _)]
def ps_c (gp : Nat → Nat) (s : Nat) : Nat → Nat × Int
  | 0 => (0, -1)
  | i + 1 => if (gp (s + i) : Int) = (ps_c gp s i).2 then ps_c gp s i else ((ps_c gp s i).1 + 1, (gp (s + i) : Int))
theorem ps_cong {gp gp' : Nat → Nat} {s : Nat} : ∀ {n : Nat}, (∀ i, i < n → gp (s + i) = gp' (s + i)) → ps_c gp s n = ps_c gp' s n
  | 0, _ => rfl
  | n + 1, h => by
    have ih := ps_cong (gp := gp) (gp' := gp') (s := s) (n := n) (fun i hi => h i (by omega))
    rw [ps_c, ps_c, ih, h n (by omega)]
def gs_c (gp gm : Nat → Nat) (s q n : Nat) : Nat := pn_sum (fun i => if gp (s + i) = q then gm (s + i) else 0) n
theorem gs_cong {gp gp' gm gm' : Nat → Nat} {s q n : Nat} (h : ∀ i, i < n → gp (s + i) = gp' (s + i) ∧ gm (s + i) = gm' (s + i)) : gs_c gp gm s q n = gs_c gp' gm' s q n := pn_cong (fun i hi => by rw [(h i hi).1, (h i hi).2])
def c0 (r : Nat → Nat) (n : Nat) : Nat := pu_cnt (fun j => decide (r j = 0)) n
def cp (due : Nat → Nat) (p : Nat) : Nat := pu_cnt (fun q => decide (0 < due q)) p
theorem c0_le (r : Nat → Nat) : ∀ n, c0 r n ≤ n
  | 0 => Nat.le_refl _
  | n + 1 => by
    have := c0_le r n
    unfold c0 at this ⊢
    rw [pu_cnt]
    split <;> omega
theorem c0_lt {r : Nat → Nat} {k : Nat} : ∀ {n : Nat}, k < n → r k ≠ 0 → c0 r n < n
  | 0, h, _ => absurd h (by omega)
  | n + 1, h, hk => by
    unfold c0
    rw [pu_cnt]
    by_cases e : k = n
    · have := c0_le r n
      unfold c0 at this
      rw [if_neg (by rw [decide_eq_true_eq, ← e]; exact hk)]
      omega
    · have := c0_lt (r := r) (k := k) (n := n) (by omega) hk
      unfold c0 at this
      split <;> omega
theorem c0_upd {r : Nat → Nat} {k x : Nat} : ∀ {n : Nat}, k < n → r k ≠ 0 → c0 (updN r k x) n = c0 r n + (if x = 0 then 1 else 0)
  | 0, h, _ => absurd h (by omega)
  | n + 1, h, hk => by
    unfold c0
    rw [pu_cnt, pu_cnt]
    by_cases e : k = n
    · subst e
      rw [pu_cnt_cong (g := fun j => decide (r j = 0)) (fun j hj => by unfold updN; rw [if_neg (by omega)])]
      have e1 : updN r k x k = x := by unfold updN; rw [if_pos rfl]
      try dsimp only
      rw [e1]
      have e2 : (if decide (r k = 0) = true then (1 : Nat) else 0) = 0 := if_neg (by rw [decide_eq_true_eq]; exact hk)
      rw [e2]
      by_cases hx : x = 0
      · rw [if_pos (show decide (x = 0) = true by rw [decide_eq_true_eq]; exact hx), if_pos hx]
      · rw [if_neg (show ¬ decide (x = 0) = true by rw [decide_eq_true_eq]; exact hx), if_neg hx]
    · have ih := c0_upd (r := r) (k := k) (x := x) (n := n) (by omega) hk
      unfold c0 at ih
      have e1 : updN r k x n = r n := by unfold updN; rw [if_neg (by omega)]
      try dsimp only
      rw [ih, e1]
      split <;> split <;> omega
theorem pn_upd {r : Nat → Nat} {k t : Nat} : ∀ {n : Nat}, k < n → t ≤ r k → pn_sum (updN r k (r k - t)) n + t = pn_sum r n
  | 0, h, _ => absurd h (by omega)
  | n + 1, h, ht => by
    rw [pn_sum, pn_sum]
    by_cases e : k = n
    · subst e
      rw [pn_cong (g := r) (fun j hj => by unfold updN; rw [if_neg (by omega)])]
      have e1 : updN r k (r k - t) k = r k - t := by unfold updN; rw [if_pos rfl]
      rw [e1]
      omega
    · have ih := pn_upd (r := r) (k := k) (t := t) (n := n) (by omega) ht
      have e1 : updN r k (r k - t) n = r n := by unfold updN; rw [if_neg (by omega)]
      rw [e1]
      omega
def hd_I (T n : Nat) (due : Nat → Nat) (G0 : hd_G) (p o : Nat) (G : hd_G) : Prop :=
  (∀ j, g_r G j ≤ g_r G0 j) ∧ o ≤ due p ∧ pn_sum (g_r G) n + pn_sum due p + (due p - o) = pn_sum (g_r G0) n ∧ g_n G0 ≤ g_n G ∧ g_n G ≤ 32 * 2 ^ g_i G ∧ g_i G ≤ 7 ∧ g_i G0 ≤ g_i G ∧ (o ≠ 0 → g_n G ≤ 30 * T + p + c0 (g_r G) n) ∧ g_n G ≤ 30 * T + p + 1 + c0 (g_r G) n ∧
  (∀ g, g < g_n G0 → g_p G g = g_p G0 g ∧ g_l G g = g_l G0 g ∧ g_m G g = g_m G0 g) ∧ (∀ g, g_n G0 ≤ g → g < g_n G → g_p G g ≤ p ∧ g_l G g < n ∧ 1 ≤ g_m G g ∧ g_m G g ≤ 3000) ∧
  (∀ q, gs_c (g_p G) (g_m G) (g_n G0) q (g_n G - g_n G0) = if q < p then due q else if q = p then due p - o else 0) ∧
  (ps_c (g_p G) (g_n G0) (g_n G - g_n G0)).1 = cp due p + (if o < due p then 1 else 0) ∧ (o < due p → (ps_c (g_p G) (g_n G0) (g_n G - g_n G0)).2 = (p : Int)) ∧ (¬ o < due p → (ps_c (g_p G) (g_n G0) (g_n G - g_n G0)).2 < (p : Int))
theorem hd_I_put {T n : Nat} {due : Nat → Nat} {G0 : hd_G} {p o k : Nat} {G : hd_G} (hT : T < 120) (hp : p < 30) (hn : n ≤ 100) (hk : k < n) (hr0 : ∀ j, g_r G0 j ≤ 3000) (h : hd_I T n due G0 p o G) (ht : ¬ min o (g_r G k) = 0) : hd_I T n due G0 p (o - min o (g_r G k)) (hd_put G p k (min o (g_r G k))) ∧ g_n G < 3700 := by
  obtain ⟨i1, i2, i3, i4, i5, i6, i7, i8, i9, i10, i11, i12, i13, i14, i15⟩ := h
  have hb := c0_lt (r := g_r G) (n := n) hk (by omega)
  have hng : g_n G < 3700 := by
    have := i8 (by omega)
    omega
  refine ⟨?_, hng⟩
  have hrk := i1 k
  have hrk0 := hr0 k
  have e1 : ∀ j, j < g_n G → g_p (hd_put G p k (min o (g_r G k))) j = g_p G j ∧ g_l (hd_put G p k (min o (g_r G k))) j = g_l G j ∧ g_m (hd_put G p k (min o (g_r G k))) j = g_m G j := fun j hj => by
    unfold hd_put updN
    dsimp only [g_p, g_l, g_m]
    rw [if_neg (by omega), if_neg (by omega), if_neg (by omega)]
    exact ⟨rfl, rfl, rfl⟩
  have e2 : g_p (hd_put G p k (min o (g_r G k))) (g_n G) = p ∧ g_l (hd_put G p k (min o (g_r G k))) (g_n G) = k ∧ g_m (hd_put G p k (min o (g_r G k))) (g_n G) = min o (g_r G k) := by
    unfold hd_put updN
    dsimp only [g_p, g_l, g_m]
    rw [if_pos rfl, if_pos rfl, if_pos rfl]
    exact ⟨rfl, rfl, rfl⟩
  have e3 : g_n (hd_put G p k (min o (g_r G k))) = g_n G + 1 := rfl
  have e4 : g_r (hd_put G p k (min o (g_r G k))) = updN (g_r G) k (g_r G k - min o (g_r G k)) := rfl
  have e5 : g_i (hd_put G p k (min o (g_r G k))) = if g_n G = 32 * 2 ^ g_i G then g_i G + 1 else g_i G := rfl
  generalize hd_put G p k (min o (g_r G k)) = G' at e1 e2 e3 e4 e5 ⊢
  have hc := c0_upd (r := g_r G) (k := k) (x := g_r G k - min o (g_r G k)) (n := n) hk (by omega)
  have hsum := pn_upd (r := g_r G) (k := k) (t := min o (g_r G k)) (n := n) hk (by omega)
  have hgn : g_n G + 1 - g_n G0 = (g_n G - g_n G0) + 1 := by omega
  have hgs : g_n G0 + (g_n G - g_n G0) = g_n G := by omega
  have hps : ps_c (g_p G') (g_n G0) (g_n G - g_n G0) = ps_c (g_p G) (g_n G0) (g_n G - g_n G0) := ps_cong (fun i hi => (e1 _ (by omega)).1)
  have hcond : (min o (g_r G k) = g_r G k ∧ g_r G k - min o (g_r G k) = 0) ∨ (min o (g_r G k) = o ∧ o - min o (g_r G k) = 0) := by omega
  have hpow : (32 * 2 ^ (g_i G + 1)) = 2 * (32 * 2 ^ g_i G) := by rw [Nat.pow_succ]; omega
  have hpow7 : g_i G = 7 → 32 * 2 ^ g_i G = 4096 := fun z => by rw [z]
  refine ⟨fun j => ?_, by omega, ?_, by omega, ?_, ?_, ?_, fun ho => ?_, ?_, fun g hg => ?_, fun g hg1 hg2 => ?_, fun q => ?_, ?_, fun ho => ?_, fun ho => ?_⟩
  · rw [e4]
    unfold updN
    split
    · rename_i e; rw [e]; omega
    · exact i1 j
  · rw [e4]
    omega
  · rw [e3, e5]
    split
    · rw [hpow]
      have := Nat.two_pow_pos (g_i G)
      omega
    · omega
  · rw [e5]
    split
    · by_cases z : g_i G = 7
      · have := hpow7 z
        omega
      · omega
    · exact i6
  · rw [e5]
    split <;> omega
  · have := i8 (by omega)
    rw [e3, e4, hc]
    rcases hcond with ⟨a, c⟩ | ⟨a, c⟩
    · rw [if_pos c]
      omega
    · omega
  · have := i8 (by omega)
    rw [e3, e4, hc]
    rcases hcond with ⟨a, c⟩ | ⟨a, c⟩
    · rw [if_pos c]
      omega
    · split <;> omega
  · obtain ⟨a, c, d⟩ := e1 g (by omega)
    obtain ⟨a', c', d'⟩ := i10 g hg
    exact ⟨a.trans a', c.trans c', d.trans d'⟩
  · by_cases e : g = g_n G
    · subst e
      obtain ⟨a, c, d⟩ := e2
      rw [a, c, d]
      omega
    · obtain ⟨a, c, d⟩ := e1 g (by omega)
      rw [a, c, d]
      exact i11 g hg1 (by omega)
  · have := i12 q
    rw [e3, hgn]
    unfold gs_c
    rw [pn_sum, hgs]
    have hcg : pn_sum (fun i => if g_p G' (g_n G0 + i) = q then g_m G' (g_n G0 + i) else 0) (g_n G - g_n G0) = gs_c (g_p G) (g_m G) (g_n G0) q (g_n G - g_n G0) := gs_cong (gp := g_p G') (gm := g_m G') (fun i hi => ⟨(e1 _ (by omega)).1, (e1 _ (by omega)).2.2⟩)
    rw [hcg, this, e2.1, e2.2.2]
    by_cases z1 : q < p
    · rw [if_pos z1, if_pos z1, if_neg (by omega)]
      omega
    · rw [if_neg z1, if_neg z1]
      by_cases z2 : q = p
      · rw [if_pos z2, if_pos z2, if_pos z2.symm]
        omega
      · rw [if_neg z2, if_neg z2, if_neg (by omega)]
  · rw [e3, hgn, ps_c, hps, hgs, e2.1, if_pos (show o - min o (g_r G k) < due p by omega)]
    by_cases z : o < due p
    · rw [if_pos z] at i13
      rw [if_pos (i14 z).symm, i13]
    · rw [if_neg z] at i13
      have := i15 z
      rw [if_neg (by omega)]
      try dsimp only
      rw [i13]
  · rw [e3, hgn, ps_c, hps, hgs, e2.1]
    split
    · rename_i z
      exact z.symm
    · rfl
  · omega
theorem hd_I_lots {T n : Nat} {due : Nat → Nat} {G0 : hd_G} {p : Nat} {G : hd_G} (hT : T < 120) (hp : p < 30) (hn : n ≤ 100) (hr0 : ∀ j, g_r G0 j ≤ 3000) (h : hd_I T n due G0 p (due p) G) : ∀ k, k ≤ n → hd_I T n due G0 p (hd_lots p k (due p, G)).1 (hd_lots p k (due p, G)).2 ∧ ((hd_lots p k (due p, G)).1 = 0 ∨ ∀ j, j < k → g_r (hd_lots p k (due p, G)).2 j = 0)
  | 0, _ => ⟨h, Or.inr (fun j hj => absurd hj (by omega))⟩
  | k + 1, hk => by
    obtain ⟨h1, h2⟩ := hd_I_lots hT hp hn hr0 h k (by omega)
    rw [hd_lots]
    generalize hd_lots p k (due p, G) = X at h1 h2 ⊢
    by_cases hz : min X.1 (g_r X.2 k) = 0
    · rw [hd_step_z hz]
      refine ⟨h1, ?_⟩
      rcases h2 with h2 | h2
      · exact Or.inl h2
      · by_cases ho : X.1 = 0
        · exact Or.inl ho
        · refine Or.inr (fun j hj => ?_)
          by_cases e : j = k
          · rw [e]; omega
          · exact h2 j (by omega)
    · rw [hd_step_t hz]
      refine ⟨(hd_I_put hT hp hn (by omega) hr0 h1 hz).1, ?_⟩
      by_cases ho : X.1 - min X.1 (g_r X.2 k) = 0
      · exact Or.inl ho
      · refine Or.inr (fun j hj => ?_)
        show updN (g_r X.2) k (g_r X.2 k - min X.1 (g_r X.2 k)) j = 0
        unfold updN
        by_cases e : j = k
        · rw [if_pos e]; omega
        · rw [if_neg e]
          rcases h2 with h2 | h2
          · omega
          · exact h2 j (by omega)
theorem pn_zero {f : Nat → Nat} : ∀ {n : Nat}, (∀ j, j < n → f j = 0) → pn_sum f n = 0
  | 0, _ => rfl
  | n + 1, h => by rw [pn_sum, pn_zero (fun j hj => h j (by omega)), h n (by omega)]
theorem hd_I_all {T n : Nat} {due : Nat → Nat} {G0 : hd_G} (hT : T < 120) (hn : n ≤ 100) (hr0 : ∀ j, g_r G0 j ≤ 3000) (hsum : pn_sum due 30 ≤ pn_sum (g_r G0) n) (hi : g_n G0 ≤ 32 * 2 ^ g_i G0) (hi7 : g_i G0 ≤ 7) (hc : g_n G0 ≤ 30 * T + c0 (g_r G0) n) : ∀ p, p ≤ 29 → hd_I T n due G0 p (due p) (hd_all due n p G0) ∧ (hd_lots p n (due p, hd_all due n p G0)).1 = 0 := by
  have zero : ∀ p, p ≤ 29 → hd_I T n due G0 p (due p) (hd_all due n p G0) → (hd_lots p n (due p, hd_all due n p G0)).1 = 0 := by
    intro p hp h
    obtain ⟨h1, h2⟩ := hd_I_lots hT (by omega) hn hr0 h n (Nat.le_refl _)
    rcases h2 with h2 | h2
    · exact h2
    · have := pn_zero h2
      obtain ⟨-, i2, i3, -⟩ := h1
      have h4 := pn_mono (f := due) (i := p + 1) (n := 30) (by omega)
      rw [pn_sum] at h4
      omega
  intro p
  induction p with
  | zero =>
    intro hp
    have h : hd_I T n due G0 0 (due 0) (hd_all due n 0 G0) := by
      show hd_I T n due G0 0 (due 0) G0
      refine ⟨fun j => Nat.le_refl _, Nat.le_refl _, ?_, Nat.le_refl _, hi, hi7, Nat.le_refl _, fun _ => by omega, by omega, fun g hg => ⟨rfl, rfl, rfl⟩, fun g h1 h2 => absurd h2 (by omega), fun q => ?_, ?_, fun h => absurd h (by omega), fun h => ?_⟩
      · rw [pn_sum]; omega
      · rw [Nat.sub_self]
        show 0 = _
        rw [if_neg (by omega)]
        split <;> omega
      · rw [Nat.sub_self, if_neg (by omega)]
        rfl
      · rw [Nat.sub_self]
        show (-1 : Int) < _
        omega
    exact ⟨h, zero 0 hp h⟩
  | succ p ih =>
    intro hp
    obtain ⟨h, hz⟩ := ih (by omega)
    have h' := (hd_I_lots hT (by omega) hn hr0 h n (Nat.le_refl _)).1
    have e : hd_all due n (p + 1) G0 = (hd_lots p n (due p, hd_all due n p G0)).2 := rfl
    rw [hz] at h'
    rw [← e] at h'
    have key : hd_I T n due G0 (p + 1) (due (p + 1)) (hd_all due n (p + 1) G0) := by
      obtain ⟨i1, i2, i3, i4, i5, i6, i7, i8, i9, i10, i11, i12, i13, i14, i15⟩ := h'
      generalize hd_all due n (p + 1) G0 = G at *
      refine ⟨i1, Nat.le_refl _, ?_, i4, i5, i6, i7, fun _ => by omega, by omega, i10, fun g h1 h2 => ?_, fun q => ?_, ?_, fun h => absurd h (by omega), fun _ => ?_⟩
      · rw [pn_sum]; omega
      · have := i11 g h1 h2
        omega
      · rw [i12 q]
        by_cases z1 : q < p
        · rw [if_pos z1, if_pos (by omega)]
        · rw [if_neg z1]
          by_cases z2 : q = p
          · rw [if_pos z2, if_pos (by omega), z2]
            omega
          · rw [if_neg z2, if_neg (by omega)]
            split <;> omega
      · rw [i13, if_neg (show ¬ due (p + 1) < due (p + 1) by omega)]
        unfold cp
        rw [pu_cnt]
        by_cases z : 0 < due p
        · rw [if_pos z, if_pos (by rw [decide_eq_true_eq]; exact z)]
        · rw [if_neg z, if_neg (by rw [decide_eq_true_eq]; exact z)]
      · by_cases z : 0 < due p
        · have := i14 z
          omega
        · have := i15 z
          omega
    exact ⟨key, zero (p + 1) hp key⟩
