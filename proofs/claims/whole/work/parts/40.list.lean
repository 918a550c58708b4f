-- the list, purely: holders, ranks, the dead
abbrev ls_S : Type := (Nat → Int32) × (Nat → Int32) × (Nat → Int32)
def ls_in (S : ls_S) (c : Int32) : Prop := ∃ p, p < 30 ∧ S.1 p = c
noncomputable def ls_if (P : Prop) (S' : ls_S) : Option ls_S := @ite _ P (Classical.propDecidable P) (some S') none
theorem ls_if_t {P : Prop} {S' : ls_S} (h : P) : ls_if P S' = some S' := if_pos h
theorem ls_if_f {P : Prop} {S' : ls_S} (h : ¬ P) : ls_if P S' = none := if_neg h
theorem ls_if_s {P : Prop} {S' X : ls_S} (h : ls_if P S' = some X) : P ∧ S' = X := by
  by_cases hp : P
  · rw [ls_if_t hp] at h
    exact ⟨hp, Option.some.inj h⟩
  · rw [ls_if_f hp] at h
    cases h
noncomputable def ls_step (kd pl ci rk : Int32) (sale : Prop) (S : ls_S) : Option ls_S :=
  if kd = 0 then ls_if (S.1 pl.toNatClampNeg = -1 ∧ S.2.2 ci.toNatClampNeg = 0 ∧ ¬ ls_in S ci) (upd S.1 pl.toNatClampNeg ci, upd S.2.1 pl.toNatClampNeg rk, S.2.2)
  else if kd = 1 then ls_if (S.2.2 ci.toNatClampNeg = 0) (fun p => if S.1 p = ci then -1 else S.1 p, S.2.1, upd S.2.2 ci.toNatClampNeg 1)
  else if kd = 2 then ls_if (sale ∧ ¬ S.1 pl.toNatClampNeg = -1 ∧ S.2.2 ci.toNatClampNeg = 0 ∧ ¬ ls_in S ci) (upd S.1 pl.toNatClampNeg ci, S.2.1, S.2.2)
  else ls_if (¬ S.1 pl.toNatClampNeg = -1) (upd S.1 pl.toNatClampNeg (-1), S.2.1, S.2.2)
def ls_ok (S : ls_S) : Prop := (∀ p, p < 30 → S.1 p = -1 ∨ ∃ c : Nat, c < 100 ∧ S.1 p = nI c) ∧ (∀ p q, p < 30 → q < 30 → S.1 p = S.1 q → ¬ S.1 p = -1 → p = q) ∧ (∀ c, c < 100 → S.2.2 c = 0 ∨ S.2.2 c = 1) ∧ ∀ p, p < 30 → ¬ S.1 p = -1 → ∃ k : Nat, k < 4 ∧ S.2.1 p = nI k
theorem ls_m1 {c : Nat} (hc : c < 2 ^ 31) : ¬ nI c = -1 := fun h => by rw [← q_m1 hc]; exact h
theorem ls_step_ok {kd pl ci rk two three : Int32} {sale : Prop} {S S' : ls_S} (hS : ls_ok S) (he : R_ent kd pl ci rk two three) (h : ls_step kd pl ci rk sale S = some S') : ls_ok S' := by
  obtain ⟨o1, o2, o3, o4⟩ := hS
  unfold ls_step at h
  rcases he with ⟨rfl, a1, a2, -, a3, a4, -, a5, a6⟩ | ⟨rfl, rfl, a1, a2⟩ | ⟨rfl, a1, a2, -, a3, a4⟩ | ⟨rfl, a1, a2⟩
  · rw [if_pos rfl] at h
    obtain ⟨⟨h1, h2, h3⟩, rfl⟩ := ls_if_s h
    obtain ⟨p, hp, rfl⟩ := i_of (x := pl) (n := 29) a1 (by omega) (by omega)
    obtain ⟨c, hc, rfl⟩ := i_of (x := ci) (n := 99) a3 (by omega) (by omega)
    obtain ⟨r, hr, rfl⟩ := i_of (x := rk) (n := 3) a5 (by omega) (by omega)
    rw [nI_clamp (by omega)]
    refine ⟨fun q hq => ?_, fun q q' hq hq' hqq hq1 => ?_, o3, fun q hq hq1 => ?_⟩
    · dsimp only
      rw [u_at]
      by_cases e : q = p
      · rw [if_pos e]
        exact Or.inr ⟨c, by omega, rfl⟩
      · rw [if_neg e]
        exact o1 q hq
    · dsimp only at hqq hq1
      rw [u_at, u_at] at hqq
      by_cases e : q = p
      · by_cases e' : q' = p
        · omega
        · rw [if_pos e, if_neg e'] at hqq
          exact absurd ⟨q', hq', hqq.symm⟩ h3
      · by_cases e' : q' = p
        · rw [if_neg e, if_pos e'] at hqq
          exact absurd ⟨q, hq, hqq⟩ h3
        · rw [if_neg e, if_neg e'] at hqq
          rw [u_at, if_neg e] at hq1
          exact o2 q q' hq hq' hqq hq1
    · dsimp only at hq1 ⊢
      rw [u_at] at hq1 ⊢
      by_cases e : q = p
      · rw [if_pos e]
        exact ⟨r, by omega, rfl⟩
      · rw [if_neg e] at hq1 ⊢
        exact o4 q hq hq1
  · rw [if_neg (by decide), if_pos rfl] at h
    obtain ⟨h1, rfl⟩ := ls_if_s h
    refine ⟨fun q hq => ?_, fun q q' hq hq' hqq hq1 => ?_, fun c hc => ?_, fun q hq hq1 => ?_⟩
    · dsimp only
      split
      · exact Or.inl rfl
      · exact o1 q hq
    · dsimp only at hqq hq1
      by_cases e : S.1 q = ci
      · rw [if_pos e] at hq1
        exact absurd rfl hq1
      · rw [if_neg e] at hq1 hqq
        by_cases e' : S.1 q' = ci
        · rw [if_pos e'] at hqq
          exact absurd hqq hq1
        · rw [if_neg e'] at hqq
          exact o2 q q' hq hq' hqq hq1
    · dsimp only
      rw [u_at]
      split
      · exact Or.inr rfl
      · exact o3 c hc
    · dsimp only at hq1 ⊢
      by_cases e : S.1 q = ci
      · rw [if_pos e] at hq1
        exact absurd rfl hq1
      · rw [if_neg e] at hq1
        exact o4 q hq hq1
  · rw [if_neg (by decide), if_neg (by decide), if_pos rfl] at h
    obtain ⟨⟨h0, h1, h2, h3⟩, rfl⟩ := ls_if_s h
    obtain ⟨p, hp, rfl⟩ := i_of (x := pl) (n := 29) a1 (by omega) (by omega)
    obtain ⟨c, hc, rfl⟩ := i_of (x := ci) (n := 99) a3 (by omega) (by omega)
    rw [nI_clamp (by omega)] at h1 ⊢
    refine ⟨fun q hq => ?_, fun q q' hq hq' hqq hq1 => ?_, o3, fun q hq hq1 => ?_⟩
    · dsimp only
      rw [u_at]
      by_cases e : q = p
      · rw [if_pos e]
        exact Or.inr ⟨c, by omega, rfl⟩
      · rw [if_neg e]
        exact o1 q hq
    · dsimp only at hqq hq1
      rw [u_at, u_at] at hqq
      by_cases e : q = p
      · by_cases e' : q' = p
        · omega
        · rw [if_pos e, if_neg e'] at hqq
          exact absurd ⟨q', hq', hqq.symm⟩ h3
      · by_cases e' : q' = p
        · rw [if_neg e, if_pos e'] at hqq
          exact absurd ⟨q, hq, hqq⟩ h3
        · rw [if_neg e, if_neg e'] at hqq
          rw [u_at, if_neg e] at hq1
          exact o2 q q' hq hq' hqq hq1
    · dsimp only at hq1 ⊢
      rw [u_at] at hq1
      by_cases e : q = p
      · rw [e]
        exact o4 p (by omega) h1
      · rw [if_neg e] at hq1
        exact o4 q hq hq1
  · rw [if_neg (by decide), if_neg (by decide), if_neg (by decide)] at h
    obtain ⟨h1, rfl⟩ := ls_if_s h
    refine ⟨fun q hq => ?_, fun q q' hq hq' hqq hq1 => ?_, o3, fun q hq hq1 => ?_⟩
    · dsimp only
      rw [u_at]
      split
      · exact Or.inl rfl
      · exact o1 q hq
    · dsimp only at hqq hq1
      rw [u_at] at hq1
      rw [u_at, u_at] at hqq
      by_cases e : q = pl.toNatClampNeg
      · rw [if_pos e] at hq1
        exact absurd rfl hq1
      · rw [if_neg e] at hq1 hqq
        by_cases e' : q' = pl.toNatClampNeg
        · rw [if_pos e'] at hqq
          exact absurd hqq hq1
        · rw [if_neg e'] at hqq
          exact o2 q q' hq hq' hqq hq1
    · dsimp only at hq1 ⊢
      rw [u_at] at hq1
      by_cases e : q = pl.toNatClampNeg
      · rw [if_pos e] at hq1
        exact absurd rfl hq1
      · rw [if_neg e] at hq1
        exact o4 q hq hq1
-- runs over entries
abbrev ls_X : Type := ls_S × (Nat → Int32)
noncomputable def ls_go (st : Nat → ls_S → Option ls_S) (X : ls_X) (e : Nat) : ls_X := match st e X.1 with
  | some S' => (S', upd X.2 e 0)
  | none => (X.1, upd X.2 e 1)
def ls_0 : ls_X := ((fun _ => -1, fun _ => 0, fun _ => 0), fun _ => 0)
theorem ls_ok_0 : ls_ok ls_0.1 := ⟨fun _ _ => Or.inl rfl, fun _ _ _ _ _ h => absurd rfl h, fun _ _ => Or.inl rfl, fun _ _ h => absurd rfl h⟩
noncomputable def ls_run (st : Nat → ls_S → Option ls_S) (l : List Nat) : ls_X := l.foldl (ls_go st) ls_0
theorem ls_run_snoc (st : Nat → ls_S → Option ls_S) (l : List Nat) (e : Nat) : ls_run st (l ++ [e]) = ls_go st (ls_run st l) e := by
  unfold ls_run
  rw [List.foldl_append]
  rfl
theorem ls_run_some {st : Nat → ls_S → Option ls_S} {l : List Nat} {e : Nat} {S' : ls_S} (h : st e (ls_run st l).1 = some S') : ls_run st (l ++ [e]) = (S', upd (ls_run st l).2 e 0) := by
  rw [ls_run_snoc]
  unfold ls_go
  rw [h]
theorem ls_run_none {st : Nat → ls_S → Option ls_S} {l : List Nat} {e : Nat} (h : st e (ls_run st l).1 = none) : ls_run st (l ++ [e]) = ((ls_run st l).1, upd (ls_run st l).2 e 1) := by
  rw [ls_run_snoc]
  unfold ls_go
  rw [h]
theorem ls_run_ok {st : Nat → ls_S → Option ls_S} (n : Nat) (hst : ∀ e S S', e < n → ls_ok S → st e S = some S' → ls_ok S') (l : List Nat) : (∀ e ∈ l, e < n) → ls_ok (ls_run st l).1 := by
  have key : ∀ (l : List Nat) (X : ls_X), (∀ e ∈ l, e < n) → ls_ok X.1 → ls_ok (l.foldl (ls_go st) X).1 := by
    intro l
    induction l with
    | nil => intro X _ h; exact h
    | cons e l ih =>
      intro X hl h
      rw [List.foldl_cons]
      refine ih _ (fun e he => hl e (List.mem_cons_of_mem _ he)) ?_
      unfold ls_go
      cases hs : st e X.1 with
      | none => exact h
      | some S' => exact hst e X.1 S' (hl e List.mem_cons_self) h hs
  exact fun hl => key l ls_0 hl ls_ok_0
theorem ls_run_void {st : Nat → ls_S → Option ls_S} {l l' : List Nat} {e : Nat} (h : e ∉ l') : (ls_run st (l ++ l')).2 e = (ls_run st l).2 e := by
  unfold ls_run
  rw [List.foldl_append]
  generalize l.foldl (ls_go st) ls_0 = X
  induction l' generalizing X with
  | nil => rfl
  | cons a l' ih =>
    rw [List.foldl_cons, ih (fun q => h (List.mem_cons_of_mem _ q))]
    have ha : ¬ e = a := fun q => h (by rw [q]; exact List.mem_cons_self)
    unfold ls_go
    split
    · dsimp only
      rw [u_at, if_neg ha]
    · dsimp only
      rw [u_at, if_neg ha]
noncomputable def ls_lst (q : Nat → Nat) (P : Nat → Prop) : Nat → List Nat
  | 0 => []
  | i + 1 => @ite _ (P (q i)) (Classical.propDecidable _) (ls_lst q P i ++ [q i]) (ls_lst q P i)
theorem ls_lst_t {q : Nat → Nat} {P : Nat → Prop} {i : Nat} (h : P (q i)) : ls_lst q P (i + 1) = ls_lst q P i ++ [q i] := by
  rw [ls_lst, if_pos h]
theorem ls_lst_f {q : Nat → Nat} {P : Nat → Prop} {i : Nat} (h : ¬ P (q i)) : ls_lst q P (i + 1) = ls_lst q P i := by
  rw [ls_lst, if_neg h]
theorem ls_lst_mem {q : Nat → Nat} {P : Nat → Prop} {x : Nat} : ∀ {i : Nat}, x ∈ ls_lst q P i ↔ ∃ j, j < i ∧ q j = x ∧ P x
  | 0 => ⟨fun h => (by rw [ls_lst] at h; cases h), fun ⟨j, hj, _⟩ => absurd hj (by omega)⟩
  | i + 1 => by
    by_cases hp : P (q i)
    · rw [ls_lst_t hp, List.mem_append, ls_lst_mem, List.mem_singleton]
      constructor
      · rintro (⟨j, hj, h⟩ | rfl)
        · exact ⟨j, by omega, h⟩
        · exact ⟨i, by omega, rfl, hp⟩
      · rintro ⟨j, hj, h1, h2⟩
        by_cases e : j = i
        · subst e
          exact Or.inr h1.symm
        · exact Or.inl ⟨j, by omega, h1, h2⟩
    · rw [ls_lst_f hp, ls_lst_mem]
      constructor
      · rintro ⟨j, hj, h⟩
        exact ⟨j, by omega, h⟩
      · rintro ⟨j, hj, h1, h2⟩
        by_cases e : j = i
        · subst e
          subst h1
          exact absurd h2 hp
        · exact ⟨j, by omega, h1, h2⟩
theorem ls_lst_srt {q : Nat → Nat} {P : Nat → Prop} {lt : Nat → Nat → Prop} {n : Nat} (hq : ∀ i k, i < k → k < n → lt (q i) (q k)) : ∀ {i : Nat}, i ≤ n → (ls_lst q P i).Pairwise lt
  | 0, _ => by rw [ls_lst]; exact List.Pairwise.nil
  | i + 1, hi => by
    have ih := ls_lst_srt (P := P) hq (i := i) (by omega)
    by_cases hp : P (q i)
    · rw [ls_lst_t hp, List.pairwise_append]
      refine ⟨ih, List.pairwise_singleton _ _, fun a ha b hb => ?_⟩
      rw [List.mem_singleton] at hb
      obtain ⟨j, hj, rfl, _⟩ := ls_lst_mem.mp ha
      rw [hb]
      exact hq j i hj (by omega)
    · rw [ls_lst_f hp]
      exact ih
theorem ls_lst_end {q : Nat → Nat} {P : Nat → Prop} {i : Nat} : ∀ {n : Nat}, i ≤ n → (∀ j, i ≤ j → j < n → ¬ P (q j)) → ls_lst q P n = ls_lst q P i
  | 0, hi, _ => by rw [show i = 0 by omega]
  | n + 1, hi, h => by
    by_cases e : i = n + 1
    · rw [e]
    · rw [ls_lst_f (h n (by omega) (by omega)), ls_lst_end (n := n) (by omega) (fun j h1 h2 => h j h1 (by omega))]
theorem ls_lst_cong {q : Nat → Nat} {P P' : Nat → Prop} : ∀ {n : Nat}, (∀ j, j < n → (P (q j) ↔ P' (q j))) → ls_lst q P n = ls_lst q P' n
  | 0, _ => rfl
  | n + 1, h => by
    by_cases hp : P (q n)
    · rw [ls_lst_t hp, ls_lst_t ((h n (by omega)).mp hp), ls_lst_cong (fun j hj => h j (by omega))]
    · rw [ls_lst_f hp, ls_lst_f (fun z => hp ((h n (by omega)).mpr z)), ls_lst_cong (fun j hj => h j (by omega))]
theorem ls_lst_pre {q : Nat → Nat} {P : Nat → Prop} {i : Nat} : ∀ {n : Nat}, i ≤ n → ∃ l', ls_lst q P n = ls_lst q P i ++ l' ∧ ∀ x ∈ l', ∃ j, i ≤ j ∧ j < n ∧ q j = x
  | 0, hi => ⟨[], by rw [show i = 0 by omega, List.append_nil], fun x hx => by cases hx⟩
  | n + 1, hi => by
    by_cases e : i = n + 1
    · exact ⟨[], by rw [e, List.append_nil], fun x hx => by cases hx⟩
    · obtain ⟨l', h1, h2⟩ := ls_lst_pre (q := q) (P := P) (n := n) (i := i) (by omega)
      by_cases hp : P (q n)
      · refine ⟨l' ++ [q n], by rw [ls_lst_t hp, h1, List.append_assoc], fun x hx => ?_⟩
        rw [List.mem_append, List.mem_singleton] at hx
        rcases hx with hx | rfl
        · obtain ⟨j, a, b, c⟩ := h2 x hx
          exact ⟨j, a, by omega, c⟩
        · exact ⟨n, by omega, by omega, rfl⟩
      · refine ⟨l', by rw [ls_lst_f hp, h1], fun x hx => ?_⟩
        obtain ⟨j, a, b, c⟩ := h2 x hx
        exact ⟨j, a, by omega, c⟩
theorem ls_uniq {lt : Nat → Nat → Prop} (hirr : ∀ a, ¬ lt a a) (hasy : ∀ a b, lt a b → ¬ lt b a) : ∀ (l1 l2 : List Nat), l1.Pairwise lt → l2.Pairwise lt → (∀ x, x ∈ l1 ↔ x ∈ l2) → l1 = l2
  | [], [], _, _, _ => rfl
  | [], b :: l2, _, _, h => absurd ((h b).mpr List.mem_cons_self) (by simp)
  | a :: l1, [], _, _, h => absurd ((h a).mp List.mem_cons_self) (by simp)
  | a :: l1, b :: l2, h1, h2, h => by
    rw [List.pairwise_cons] at h1 h2
    have e : a = b := by
      have ha := (h a).mp List.mem_cons_self
      have hb := (h b).mpr List.mem_cons_self
      rw [List.mem_cons] at ha hb
      rcases ha with ha | ha
      · exact ha
      · rcases hb with hb | hb
        · exact hb.symm
        · exact absurd (h1.1 b hb) (hasy _ _ (h2.1 a ha))
    subst e
    rw [ls_uniq hirr hasy l1 l2 h1.2 h2.2 (fun x => ?_)]
    constructor
    · intro hx
      have := (h x).mp (List.mem_cons_of_mem _ hx)
      rw [List.mem_cons] at this
      rcases this with rfl | this
      · exact absurd (h1.1 x hx) (hirr x)
      · exact this
    · intro hx
      have := (h x).mpr (List.mem_cons_of_mem _ hx)
      rw [List.mem_cons] at this
      rcases this with rfl | this
      · exact absurd (h2.1 x hx) (hirr x)
      · exact this
theorem or_irr (mo : Nat → Int32) (a : Nat) : ¬ or_lt mo a a := by
  unfold or_lt
  omega
theorem or_asy (mo : Nat → Int32) (a b : Nat) (h : or_lt mo a b) : ¬ or_lt mo b a := by
  unfold or_lt at h ⊢
  omega
-- the class's cells and the reference's, against the pure state
def C_st (ho ra pl de : Nat → Int32) (S : ls_S) : Prop := (∀ p, p < 30 → ho p = S.1 p) ∧ (∀ p, p < 30 → ¬ S.1 p = -1 → ra p = S.2.1 p) ∧ (∀ c, c < 100 → de c = S.2.2 c) ∧ ∀ c : Nat, c < 100 → (∃ p : Nat, p < 30 ∧ pl c = nI p ∧ S.1 p = nI c) ∨ (pl c = -1 ∧ ∀ p, p < 30 → ¬ S.1 p = nI c)
def M_st (ho ra de : Nat → Int32) (S : ls_S) : Prop := (∀ p, p < 30 → ho p = S.1 p) ∧ (∀ p, p < 30 → ¬ S.1 p = -1 → ra p = S.2.1 p) ∧ ∀ c, c < 100 → de c = S.2.2 c
theorem cst_enrol {ho ra pl de : Nat → Int32} {S : ls_S} {p c : Nat} {r : Int32} (h : C_st ho ra pl de S) (hp : p < 30) (hc : c < 100) (h1 : S.1 p = -1) (h2 : ∀ q, q < 30 → ¬ S.1 q = nI c) : C_st (upd ho p (nI c)) (upd ra p r) (upd pl c (nI p)) de (upd S.1 p (nI c), upd S.2.1 p r, S.2.2) := by
  obtain ⟨a1, a2, a3, a4⟩ := h
  refine ⟨fun q hq => ?_, fun q hq hq1 => ?_, a3, fun d hd => ?_⟩
  · dsimp only
    rw [u_at, u_at, a1 q hq]
  · dsimp only at hq1 ⊢
    rw [u_at] at hq1
    rw [u_at, u_at]
    by_cases e : q = p
    · rw [if_pos e, if_pos e]
    · rw [if_neg e] at hq1
      rw [if_neg e, if_neg e]
      exact a2 q hq hq1
  · dsimp only
    by_cases e : d = c
    · subst e
      refine Or.inl ⟨p, hp, ?_, ?_⟩
      · rw [u_at, if_pos rfl]
      · rw [u_at, if_pos rfl]
    · rcases a4 d hd with ⟨q, b1, b2, b3⟩ | ⟨b1, b2⟩
      · have hqp : ¬ q = p := fun z => by rw [z, h1] at b3; exact ls_m1 (by omega) b3.symm
        exact Or.inl ⟨q, b1, by rw [u_at, if_neg e]; exact b2, by rw [u_at, if_neg hqp]; exact b3⟩
      · refine Or.inr ⟨by rw [u_at, if_neg e]; exact b1, fun q hq => ?_⟩
        rw [u_at]
        by_cases hqp : q = p
        · rw [if_pos hqp, q_eq (by omega) (by omega)]
          omega
        · rw [if_neg hqp]
          exact b2 q hq
theorem cst_vac {ho ra pl de : Nat → Int32} {S : ls_S} {p c : Nat} (h : C_st ho ra pl de S) (ok : ls_ok S) (hp : p < 30) (hc : c < 100) (h1 : S.1 p = nI c) : C_st (upd ho p (-1)) ra (upd pl c (-1)) de (upd S.1 p (-1), S.2.1, S.2.2) := by
  obtain ⟨a1, a2, a3, a4⟩ := h
  refine ⟨fun q hq => ?_, fun q hq hq1 => ?_, a3, fun d hd => ?_⟩
  · dsimp only
    rw [u_at, u_at, a1 q hq]
  · dsimp only at hq1 ⊢
    rw [u_at] at hq1
    by_cases e : q = p
    · rw [if_pos e] at hq1
      exact absurd rfl hq1
    · rw [if_neg e] at hq1
      exact a2 q hq hq1
  · dsimp only
    by_cases e : d = c
    · subst e
      refine Or.inr ⟨by rw [u_at, if_pos rfl], fun q hq => ?_⟩
      rw [u_at]
      by_cases hqp : q = p
      · rw [if_pos hqp]
        exact fun z => ls_m1 (by omega) z.symm
      · rw [if_neg hqp]
        intro z
        exact hqp (ok.2.1 q p hq hp (by rw [z, h1]) (by rw [z]; exact ls_m1 (by omega)))
    · rcases a4 d hd with ⟨q, b1, b2, b3⟩ | ⟨b1, b2⟩
      · have hqp : ¬ q = p := fun z => by
          rw [z, h1, q_eq (by omega) (by omega)] at b3
          exact e b3.symm
        exact Or.inl ⟨q, b1, by rw [u_at, if_neg e]; exact b2, by rw [u_at, if_neg hqp]; exact b3⟩
      · refine Or.inr ⟨by rw [u_at, if_neg e]; exact b1, fun q hq => ?_⟩
        rw [u_at]
        by_cases hqp : q = p
        · rw [if_pos hqp]
          exact fun z => ls_m1 (by omega) z.symm
        · rw [if_neg hqp]
          exact b2 q hq
theorem cst_sell {ho ra pl de : Nat → Int32} {S : ls_S} {p c c0 : Nat} (h : C_st ho ra pl de S) (ok : ls_ok S) (hp : p < 30) (hc : c < 100) (hc0 : c0 < 100) (h1 : S.1 p = nI c0) (h2 : ∀ q, q < 30 → ¬ S.1 q = nI c) : C_st (upd (upd ho p (-1)) p (nI c)) ra (upd (upd pl c0 (-1)) c (nI p)) de (upd S.1 p (nI c), S.2.1, S.2.2) := by
  obtain ⟨a1, a2, a3, a4⟩ := h
  refine ⟨fun q hq => ?_, fun q hq hq1 => ?_, a3, fun d hd => ?_⟩
  · dsimp only
    rw [u_at, u_at, u_at]
    by_cases e : q = p
    · rw [if_pos e, if_pos e]
    · rw [if_neg e, if_neg e, if_neg e, a1 q hq]
  · dsimp only at hq1 ⊢
    rw [u_at] at hq1
    by_cases e : q = p
    · rw [e]
      exact a2 p hp (by rw [h1]; exact ls_m1 (by omega))
    · rw [if_neg e] at hq1
      exact a2 q hq hq1
  · dsimp only
    by_cases e : d = c
    · subst e
      refine Or.inl ⟨p, hp, ?_, ?_⟩
      · rw [u_at, if_pos rfl]
      · rw [u_at, if_pos rfl]
    · by_cases e0 : d = c0
      · subst e0
        refine Or.inr ⟨by rw [u_at, if_neg e, u_at, if_pos rfl], fun q hq => ?_⟩
        rw [u_at]
        by_cases hqp : q = p
        · rw [if_pos hqp, q_eq (by omega) (by omega)]
          omega
        · rw [if_neg hqp]
          intro z
          exact hqp (ok.2.1 q p hq hp (by rw [z, h1]) (by rw [z]; exact ls_m1 (by omega)))
      · rcases a4 d hd with ⟨q, b1, b2, b3⟩ | ⟨b1, b2⟩
        · have hqp : ¬ q = p := fun z => by
            rw [z, h1, q_eq (by omega) (by omega)] at b3
            exact e0 b3.symm
          exact Or.inl ⟨q, b1, by rw [u_at, if_neg e, u_at, if_neg e0]; exact b2, by rw [u_at, if_neg hqp]; exact b3⟩
        · refine Or.inr ⟨by rw [u_at, if_neg e, u_at, if_neg e0]; exact b1, fun q hq => ?_⟩
          rw [u_at]
          by_cases hqp : q = p
          · rw [if_pos hqp, q_eq (by omega) (by omega)]
            omega
          · rw [if_neg hqp]
            exact b2 q hq
theorem ls_die {S : ls_S} {p c : Nat} (ok : ls_ok S) (hp : p < 30) (hc : c < 100) (h1 : S.1 p = nI c) (q : Nat) (hq : q < 30) : upd S.1 p (-1) q = if S.1 q = nI c then -1 else S.1 q := by
  rw [u_at]
  by_cases e : q = p
  · rw [if_pos e, e, if_pos h1]
  · rw [if_neg e, if_neg (fun z => e (ok.2.1 q p hq hp (by rw [z, h1]) (by rw [z]; exact ls_m1 (by omega))))]
theorem cst_die {ho ra pl de : Nat → Int32} {S S' : ls_S} (h : C_st ho ra pl de S) (h1 : ∀ q, q < 30 → S.1 q = S'.1 q) (h2 : S.2 = S'.2) : C_st ho ra pl de S' := by
  obtain ⟨a1, a2, a3, a4⟩ := h
  refine ⟨fun q hq => (a1 q hq).trans (h1 q hq), fun q hq hq1 => ?_, fun c hc => (a3 c hc).trans (by rw [h2]), fun c hc => ?_⟩
  · rw [← h2]
    exact a2 q hq (by rw [h1 q hq]; exact hq1)
  · rcases a4 c hc with ⟨q, b1, b2, b3⟩ | ⟨b1, b2⟩
    · exact Or.inl ⟨q, b1, b2, by rw [← h1 q b1]; exact b3⟩
    · exact Or.inr ⟨b1, fun q hq => by rw [← h1 q hq]; exact b2 q hq⟩
theorem cst_dead {ho ra pl de : Nat → Int32} {S : ls_S} {c : Nat} (h : C_st ho ra pl de S) : C_st ho ra pl (upd de c 1) (S.1, S.2.1, upd S.2.2 c 1) := by
  obtain ⟨a1, a2, a3, a4⟩ := h
  refine ⟨a1, a2, fun d hd => ?_, a4⟩
  dsimp only
  rw [u_at, u_at, a3 d hd]
