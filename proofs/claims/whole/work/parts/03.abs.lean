-- THE ABSTRACT MACHINE: values, memory by numbered cells, instructions as transformers of predicates
abbrev ab_V : Type := Int32 ⊕ Nat
abbrev ab_L : Type := List (Option ab_V)
abbrev ab_S : Type := (Nat → Nat → Int32) × (Nat → Nat)
abbrev ab_B : Type := Nat × Nat
abbrev ab_Q : Type := Option Int32 → ab_S → Prop
abbrev ab_K : Type := Nat → ab_L → List ab_V → ab_S → ab_B → Prop
abbrev ab_C : Type := Nat → List ab_V → ab_S → ab_B → ab_Q → Prop
abbrev ab_T : Type := ab_K → ab_C → ab_L → List ab_V → ab_S → ab_B → ab_Q → Prop
abbrev ab_Y : Type := Nat → (Nat × List (Option Nat)) ⊕ Nat
abbrev ab_I : Type := Nat → MethodName × List Cond × ByteArray × Nat × Option FieldType × Nat × Nat
abbrev i_y (I : ab_I) (M : Nat) : MethodName := (I M).1
abbrev i_w (I : ab_I) (M : Nat) : List Cond := (I M).2.1
abbrev i_c (I : ab_I) (M : Nat) : ByteArray := (I M).2.2.1
abbrev i_n (I : ab_I) (M : Nat) : Nat := (I M).2.2.2.1
abbrev i_r (I : ab_I) (M : Nat) : Option FieldType := (I M).2.2.2.2.1
abbrev i_f (I : ab_I) (M : Nat) : Nat := (I M).2.2.2.2.2.1
abbrev i_l (I : ab_I) (M : Nat) : Nat := (I M).2.2.2.2.2.2
def ab_cv (ad : Nat → Nat) (v : ab_V) : Value := match v with
  | .inl x => .int x
  | .inr k => .ref (ad k)
def ab_up (μ : ab_S) (c j : Nat) (x : Int32) : ab_S := (fun d => if d = c then upd (μ.1 c) j x else μ.1 d, μ.2)
def ab_f (ad : Nat → Nat) (f : Nat → Int32) (fs : List (Option Nat)) : List Value := fs.mapIdx fun j o => match o with
  | none => Value.int (f j)
  | some k => Value.ref (ad k)
def ab_E (lay : ab_Y) (cy : Nat → ClassId) (ad : Nat → Nat) (μ : ab_S) (k : Nat) : va_E := match lay k with
  | .inl o => .inr (o.1, ab_f ad (μ.1 k) o.2)
  | .inr t => .inl (cy t, μ.2 k, .inl (μ.1 k))
def ab_W (lay : ab_Y) (N : Nat) (cy : Nat → ClassId) (ad : Nat → Nat) (μ : ab_S) : va_W := (List.range N).map fun k => (ad k, ab_E lay cy ad μ k)
def ab_lv (ad : Nat → Nat) (ls : ab_L) : List (Nat × Value) := (List.range ls.length).filterMap fun i => ((ls.getD i none).map fun v => (i, ab_cv ad v))
def ab_nm (mv : Nat → Bool) (ls : ab_L) : Bool := ls.all fun o => match o with
  | some (.inr k) => !mv k
  | _ => true
def ab_nmS (mv : Nat → Bool) (st : List ab_V) : Bool := st.all fun v => match v with
  | .inr k => !mv k
  | _ => true
def ab_res (r : Option Int32) (st : List ab_V) : List ab_V := match r with
  | some x => .inl x :: st
  | none => st
-- instructions
def o_fail : ab_T := fun _ _ _ _ _ _ _ => False
def o_iload (i nx : Nat) : ab_T := fun K _ ls st μ b _ => match ls.getD i none with
  | some (.inl x) => K nx ls (.inl x :: st) μ b
  | _ => False
def o_aload (i nx : Nat) : ab_T := fun K _ ls st μ b _ => match ls.getD i none with
  | some (.inr x) => K nx ls (.inr x :: st) μ b
  | _ => False
def o_istore (i nx : Nat) : ab_T := fun K _ ls st μ b _ => match st with
  | .inl x :: r => cond (Nat.blt i ls.length) (K nx (ls.set i (some (.inl x))) r μ b) False
  | _ => False
def o_astore (i nx : Nat) : ab_T := fun K _ ls st μ b _ => match st with
  | .inr x :: r => cond (Nat.blt i ls.length) (K nx (ls.set i (some (.inr x))) r μ b) False
  | _ => False
def o_iinc (i : Nat) (d : Int32) (nx : Nat) : ab_T := fun K _ ls st μ b _ => match ls.getD i none with
  | some (.inl x) => K nx (ls.set i (some (.inl (x + d)))) st μ b
  | _ => False
def o_const (v : Int32) (nx : Nat) : ab_T := fun K _ ls st μ b _ => K nx ls (.inl v :: st) μ b
def o_bin (f : Int32 → Int32 → Int32) (nx : Nat) : ab_T := fun K _ ls st μ b _ => match st with
  | .inl y :: .inl x :: r => K nx ls (.inl (f x y) :: r) μ b
  | _ => False
def o_min (nx : Nat) : ab_T := fun K _ ls st μ b _ => match st with
  | .inl y :: .inl x :: r => cond (Nat.ble r.length 8) (K nx ls (.inl (if y < x then y else x) :: r) μ b) False
  | _ => False
def o_max (nx : Nat) : ab_T := fun K _ ls st μ b _ => match st with
  | .inl y :: .inl x :: r => cond (Nat.ble r.length 8) (K nx ls (.inl (if x < y then y else x) :: r) μ b) False
  | _ => False
def o_idiv (nx : Nat) : ab_T := fun K _ ls st μ b _ => match st with
  | .inl y :: .inl x :: r => ¬ y = 0 ∧ K nx ls (.inl (x / y) :: r) μ b
  | _ => False
def o_i2b (nx : Nat) : ab_T := fun K _ ls st μ b _ => match st with
  | .inl x :: r => K nx ls (.inl x.toInt8.toInt32 :: r) μ b
  | _ => False
def o_if (c : Int32 → Prop) (tg nx : Nat) : ab_T := fun K _ ls st μ b _ => match st with
  | .inl x :: r => (c x → K tg ls r μ b) ∧ (¬ c x → K nx ls r μ b)
  | _ => False
def o_icmp (c : Int32 → Int32 → Prop) (tg nx : Nat) : ab_T := fun K _ ls st μ b _ => match st with
  | .inl y :: .inl x :: r => (c x y → K tg ls r μ b) ∧ (¬ c x y → K nx ls r μ b)
  | _ => False
def o_goto (tg : Nat) : ab_T := fun K _ ls st μ b _ => K tg ls st μ b
def o_dup (nx : Nat) : ab_T := fun K _ ls st μ b _ => match st with
  | v :: r => K nx ls (v :: v :: r) μ b
  | _ => False
def o_dup2 (nx : Nat) : ab_T := fun K _ ls st μ b _ => match st with
  | v :: w :: r => K nx ls (v :: w :: v :: w :: r) μ b
  | _ => False
def o_pop (nx : Nat) : ab_T := fun K _ ls st μ b _ => match st with
  | _ :: r => K nx ls r μ b
  | _ => False
def o_get (lay : ab_Y) (ci j nx : Nat) : ab_T := fun K _ ls st μ b _ => match st with
  | .inr c :: r => match lay c with
    | .inl o => cond (Nat.beq o.1 ci) (match o.2[j]? with
      | some none => K nx ls (.inl (μ.1 c j) :: r) μ b
      | some (some k) => K nx ls (.inr k :: r) μ b
      | none => False) False
    | .inr _ => False
  | _ => False
def o_put (lay : ab_Y) (z : Bool) (ci j nx : Nat) : ab_T := fun K _ ls st μ b _ => match st with
  | .inl x :: .inr c :: r => match lay c with
    | .inl o => cond (Nat.beq o.1 ci) (match o.2[j]? with
      | some none => cond z ((x = 0 ∨ x = 1) ∧ K nx ls r (ab_up μ c j x) b) (K nx ls r (ab_up μ c j x) b)
      | _ => False) False
    | .inr _ => False
  | _ => False
/-- array loads: ts the kinds that this load takes -/
def o_ald (lay : ab_Y) (ts : Nat → Bool) (nx : Nat) : ab_T := fun K _ ls st μ b _ => match st with
  | .inl i :: .inr c :: r => match lay c with
    | .inr t => cond (ts t) (vp_in i (μ.2 c) ∧ K nx ls (.inl (μ.1 c i.toNatClampNeg) :: r) μ b) False
    | .inl _ => False
  | _ => False
def ab_sto (t : Nat) (x : Int32) : Int32 := match t with
  | 0 => x
  | 1 => vp_nar .boolean x
  | _ => vp_nar .byte x
def o_ast (lay : ab_Y) (ts : Nat → Bool) (nx : Nat) : ab_T := fun K _ ls st μ b _ => match st with
  | .inl x :: .inl i :: .inr c :: r => match lay c with
    | .inr t => cond (ts t) (vp_in i (μ.2 c) ∧ K nx ls r (ab_up μ c i.toNatClampNeg (ab_sto t x)) b) False
    | .inl _ => False
  | _ => False
def o_alen (lay : ab_Y) (nx : Nat) : ab_T := fun K _ ls st μ b _ => match st with
  | .inr c :: r => match lay c with
    | .inr t => cond (Nat.blt t 3) (K nx ls (.inl (nI (μ.2 c)) :: r) μ b) False
    | .inl _ => False
  | _ => False
/-- a table that nobody writes: cell c, with the values vs -/
def o_tld (c : Nat) (vs : List Int32) (nx : Nat) : ab_T := fun K _ ls st μ b _ => match st with
  | .inl i :: .inr d :: r => cond (Nat.beq d c) (vp_in i vs.length ∧ K nx ls (.inl (vs.getD i.toNatClampNeg 0) :: r) μ b) False
  | _ => False
def o_cell (c nx : Nat) : ab_T := fun K _ ls st μ b _ => K nx ls (.inr c :: st) μ b
def ab_sw (K : Nat → Prop) (x : Int32) : Int → List Nat → Prop
  | _, [] => True
  | lo, t :: r => (x.toInt = lo → K t) ∧ ab_sw K x (lo + 1) r
def o_sw (lo hi : Int) (ts : List Nat) (d : Nat) : ab_T := fun K _ ls st μ b _ => match st with
  | .inl x :: r => ab_sw (fun t => K t ls r μ b) x lo ts ∧ (x.toInt < lo ∨ hi < x.toInt → K d ls r μ b)
  | _ => False
def o_ret (z : Bool) : ab_T := fun _ _ _ st μ _ Q => match st with
  | [.inl x] => cond z ((x = 0 ∨ x = 1) ∧ Q (some x) μ) (Q (some x) μ)
  | _ => False
def o_vret : ab_T := fun _ _ _ st μ _ Q => match st with
  | [] => Q none μ
  | _ => False
/-- a call of method M with n values off the stack; it makes nothing -/
def o_callS (mv : Nat → Bool) (M n nx : Nat) : ab_T := fun K C ls st μ b _ =>
  cond (Nat.ble n st.length && ab_nm mv ls && ab_nmS mv (st.drop n) && Nat.ble (st.drop n).length 8) (C M (st.take n).reverse μ (0, 0) (fun r μ' => K nx ls (ab_res r (st.drop n)) μ' b)) False
/-- a virtual call: n values and the receiver, of class ci -/
def o_callV (lay : ab_Y) (mv : Nat → Bool) (ci M n nx : Nat) : ab_T := fun K C ls st μ b _ =>
  cond (ab_nm mv ls && ab_nmS mv (st.drop (n + 1)) && Nat.ble (st.drop (n + 1)).length 8) (match st.drop n with
    | .inr k :: r => match lay k with
      | .inl o => cond (Nat.beq o.1 ci) (C M (.inr k :: (st.take n).reverse) μ (0, 0) (fun v μ' => K nx ls (ab_res v r) μ' b)) False
      | .inr _ => False
    | _ => False) False
/-- the same, of a method that may make cells: out of what is left -/
def o_callB (lay : ab_Y) (mv : Nat → Bool) (ci M n nx : Nat) : ab_T := fun K C ls st μ b _ =>
  cond (ab_nm mv ls && ab_nmS mv (st.drop (n + 1)) && Nat.ble (st.drop (n + 1)).length 8) (match st.drop n with
    | .inr k :: r => match lay k with
      | .inl o => cond (Nat.beq o.1 ci) (∃ b1 : ab_B, b1.1 ≤ b.1 ∧ b1.2 ≤ b.2 ∧ C M (.inr k :: (st.take n).reverse) μ b1 (fun v μ' => K nx ls (ab_res v r) μ' (b.1 - b1.1, b.2 - b1.2))) False
      | .inr _ => False
    | _ => False) False
-- Strings that are constants: a cell of kind 4, its bytes the cell 50 on, of kind 5
def o_sget1 (lay : ab_Y) (nx : Nat) : ab_T := fun K _ ls st μ b _ => match st with
  | .inr c :: r => match lay c with
    | .inr t => cond (Nat.beq t 4) (K nx ls (.inr (c + 50) :: r) μ b) False
    | .inl _ => False
  | _ => False
def o_sget0 (lay : ab_Y) (nx : Nat) : ab_T := fun K _ ls st μ b _ => match st with
  | .inr c :: r => match lay c with
    | .inr t => cond (Nat.beq t 4) (K nx ls (.inl 0 :: r) μ b) False
    | .inl _ => False
  | _ => False
def o_slen (lay : ab_Y) (sv : Nat → List Int32) (nx : Nat) : ab_T := fun K _ ls st μ b _ => match st with
  | .inr c :: r => match lay c with
    | .inr t => cond (Nat.beq t 5) (K nx ls (.inl (nI (sv c).length) :: r) μ b) False
    | .inl _ => False
  | _ => False
def o_sld (lay : ab_Y) (sv : Nat → List Int32) (nx : Nat) : ab_T := fun K _ ls st μ b _ => match st with
  | .inl i :: .inr c :: r => match lay c with
    | .inr t => cond (Nat.beq t 5) (vp_in i (sv c).length ∧ K nx ls (.inl ((sv c).getD i.toNatClampNeg 0) :: r) μ b) False
    | .inl _ => False
  | _ => False
def o_i2c (nx : Nat) : ab_T := fun K _ ls st μ b _ => match st with
  | .inl x :: r => K nx ls (.inl (x.toUInt32 % 65536).toInt32 :: r) μ b
  | _ => False
def o_retT (ty : FieldType) : ab_T := fun _ _ _ st μ _ Q => match st with
  | [.inl x] => narrow ty (.int x) = .int x ∧ Q (some x) μ
  | _ => False
def o_callT (lay : ab_Y) (mv : Nat → Bool) (M n nx : Nat) : ab_T := fun K C ls st μ b _ =>
  cond (ab_nm mv ls && ab_nmS mv (st.drop (n + 1)) && Nat.ble (st.drop (n + 1)).length 8) (match st.drop n with
    | .inr k :: r => match lay k with
      | .inr t => cond (Nat.beq t 4) (C M (.inr k :: (st.take n).reverse) μ (0, 0) (fun v μ' => K nx ls (ab_res v r) μ' b)) False
      | .inl _ => False
    | _ => False) False
def ab_init (I : ab_I) (M : Nat) (as : List ab_V) : ab_L := as.map some ++ List.replicate (i_n I M - as.length) none
/-- what must hold so that method M, from pc on, comes to its end with Q: the least predicate that the instructions are closed under -/
def ab_run (I : ab_I) (code : Nat → Nat → ab_T) (M pc : Nat) (ls : ab_L) (st : List ab_V) (μ : ab_S) (b : ab_B) (Q : ab_Q) : Prop :=
  ∀ P : Nat → Nat → ab_L → List ab_V → ab_S → ab_B → ab_Q → Prop, (∀ M pc ls st μ b Q, code M pc (fun pc ls st μ b => P M pc ls st μ b Q) (fun M as μ b Q => P M 0 (ab_init I M as) [] μ b Q) ls st μ b Q → P M pc ls st μ b Q) → P M pc ls st μ b Q
def ab_mono (t : ab_T) : Prop := ∀ (K K' : ab_K) (C C' : ab_C) (Q Q' : ab_Q), (∀ pc ls st μ b, K pc ls st μ b → K' pc ls st μ b) → (∀ M as μ b (Qa Qb : ab_Q), (∀ r μ, Qa r μ → Qb r μ) → C M as μ b Qa → C' M as μ b Qb) → (∀ r μ, Q r μ → Q' r μ) → ∀ ls st μ b, t K C ls st μ b Q → t K' C' ls st μ b Q'
section RUN
variable {I : ab_I} {code : Nat → Nat → ab_T}
theorem run_mono (hm : ∀ M pc, ab_mono (code M pc)) {M pc : Nat} {ls : ab_L} {st : List ab_V} {μ : ab_S} {b : ab_B} {Q Q' : ab_Q} (hQ : ∀ r μ, Q r μ → Q' r μ) (h : ab_run I code M pc ls st μ b Q) : ab_run I code M pc ls st μ b Q' := by
  intro P hP
  refine h (fun M pc ls st μ b Q => ∀ Q' : ab_Q, (∀ r μ, Q r μ → Q' r μ) → P M pc ls st μ b Q') ?_ Q' hQ
  intro M pc ls st μ b Q hc Q' hq
  refine hP M pc ls st μ b Q' (hm M pc _ _ _ _ _ _ ?_ ?_ hq ls st μ b hc)
  · intro pc ls st μ b h
    exact h Q' hq
  · intro M as μ b Qa Qb hab h
    exact h Qb hab
theorem run_in (hm : ∀ M pc, ab_mono (code M pc)) {M pc : Nat} {ls : ab_L} {st : List ab_V} {μ : ab_S} {b : ab_B} {Q : ab_Q} (h : code M pc (fun pc ls st μ b => ab_run I code M pc ls st μ b Q) (fun M as μ b Q => ab_run I code M 0 (ab_init I M as) [] μ b Q) ls st μ b Q) : ab_run I code M pc ls st μ b Q := by
  intro P hP
  refine hP M pc ls st μ b Q (hm M pc _ _ _ _ _ _ ?_ ?_ (fun _ _ h => h) ls st μ b h)
  · intro pc ls st μ b h
    exact h P hP
  · intro M as μ b Qa Qb hab h
    exact run_mono hm hab h P hP
theorem run_out (hm : ∀ M pc, ab_mono (code M pc)) {M pc : Nat} {ls : ab_L} {st : List ab_V} {μ : ab_S} {b : ab_B} {Q : ab_Q} (h : ab_run I code M pc ls st μ b Q) : code M pc (fun pc ls st μ b => ab_run I code M pc ls st μ b Q) (fun M as μ b Q => ab_run I code M 0 (ab_init I M as) [] μ b Q) ls st μ b Q := by
  refine h (fun M pc ls st μ b Q => code M pc (fun pc ls st μ b => ab_run I code M pc ls st μ b Q) (fun M as μ b Q => ab_run I code M 0 (ab_init I M as) [] μ b Q) ls st μ b Q) ?_
  intro M pc ls st μ b Q hc
  refine hm M pc _ _ _ _ _ _ ?_ ?_ (fun _ _ h => h) ls st μ b hc
  · intro pc ls st μ b h
    exact run_in hm h
  · intro M as μ b Qa Qb hab h
    exact run_mono hm hab (run_in hm h)
theorem run_eq (hm : ∀ M pc, ab_mono (code M pc)) (M pc : Nat) (ls : ab_L) (st : List ab_V) (μ : ab_S) (b : ab_B) (Q : ab_Q) : ab_run I code M pc ls st μ b Q = code M pc (fun pc ls st μ b => ab_run I code M pc ls st μ b Q) (fun M as μ b Q => ab_run I code M 0 (ab_init I M as) [] μ b Q) ls st μ b Q := propext ⟨run_out hm, run_in hm⟩
end RUN
theorem mo_cond {z : Bool} {a b : ab_T} (ha : ab_mono a) (hb : ab_mono b) : ab_mono (cond z a b) := by
  cases z
  · exact hb
  · exact ha
theorem mo_condM {z : Bool} {a b : Nat → ab_T} (ha : ∀ pc, ab_mono (a pc)) (hb : ∀ pc, ab_mono (b pc)) : ∀ pc, ab_mono ((cond z a b) pc) := by
  cases z
  · exact hb
  · exact ha
theorem mo_fail : ab_mono o_fail := fun _ _ _ _ _ _ _ _ _ _ _ _ _ h => h
theorem mo_iload (i nx : Nat) : ab_mono (o_iload i nx) := by
  intro K K' C C' Q Q' hK hC hQ ls st μ b h
  unfold o_iload at h ⊢
  split at h
  · exact hK _ _ _ _ _ h
  · exact h.elim
theorem mo_aload (i nx : Nat) : ab_mono (o_aload i nx) := by
  intro K K' C C' Q Q' hK hC hQ ls st μ b h
  unfold o_aload at h ⊢
  split at h
  · exact hK _ _ _ _ _ h
  · exact h.elim
theorem mo_istore (i nx : Nat) : ab_mono (o_istore i nx) := by
  intro K K' C C' Q Q' hK hC hQ ls st μ b h
  unfold o_istore at h ⊢
  split at h
  · cases hz : Nat.blt i ls.length <;> rw [hz] at h
    · exact h.elim
    · exact hK _ _ _ _ _ h
  · exact h.elim
theorem mo_astore (i nx : Nat) : ab_mono (o_astore i nx) := by
  intro K K' C C' Q Q' hK hC hQ ls st μ b h
  unfold o_astore at h ⊢
  split at h
  · cases hz : Nat.blt i ls.length <;> rw [hz] at h
    · exact h.elim
    · exact hK _ _ _ _ _ h
  · exact h.elim
theorem mo_iinc (i : Nat) (d : Int32) (nx : Nat) : ab_mono (o_iinc i d nx) := by
  intro K K' C C' Q Q' hK hC hQ ls st μ b h
  unfold o_iinc at h ⊢
  split at h
  · exact hK _ _ _ _ _ h
  · exact h.elim
theorem mo_const (v : Int32) (nx : Nat) : ab_mono (o_const v nx) := by
  intro K K' C C' Q Q' hK hC hQ ls st μ b h
  exact hK _ _ _ _ _ h
theorem mo_bin (f : Int32 → Int32 → Int32) (nx : Nat) : ab_mono (o_bin f nx) := by
  intro K K' C C' Q Q' hK hC hQ ls st μ b h
  unfold o_bin at h ⊢
  split at h
  · exact hK _ _ _ _ _ h
  · exact h.elim
theorem mo_min (nx : Nat) : ab_mono (o_min nx) := by
  intro K K' C C' Q Q' hK hC hQ ls st μ b h
  unfold o_min at h ⊢
  split at h
  · next y x r =>
    cases hz : Nat.ble r.length 8 <;> rw [hz] at h
    · exact h.elim
    · exact hK _ _ _ _ _ h
  · exact h.elim
theorem mo_max (nx : Nat) : ab_mono (o_max nx) := by
  intro K K' C C' Q Q' hK hC hQ ls st μ b h
  unfold o_max at h ⊢
  split at h
  · next y x r =>
    cases hz : Nat.ble r.length 8 <;> rw [hz] at h
    · exact h.elim
    · exact hK _ _ _ _ _ h
  · exact h.elim
theorem mo_idiv (nx : Nat) : ab_mono (o_idiv nx) := by
  intro K K' C C' Q Q' hK hC hQ ls st μ b h
  unfold o_idiv at h ⊢
  split at h
  · exact ⟨h.1, hK _ _ _ _ _ h.2⟩
  · exact h.elim
theorem mo_i2b (nx : Nat) : ab_mono (o_i2b nx) := by
  intro K K' C C' Q Q' hK hC hQ ls st μ b h
  unfold o_i2b at h ⊢
  split at h
  · exact hK _ _ _ _ _ h
  · exact h.elim
theorem mo_i2c (nx : Nat) : ab_mono (o_i2c nx) := by
  intro K K' C C' Q Q' hK hC hQ ls st μ b h
  unfold o_i2c at h ⊢
  split at h
  · exact hK _ _ _ _ _ h
  · exact h.elim
theorem mo_if (c : Int32 → Prop) (tg nx : Nat) : ab_mono (o_if c tg nx) := by
  intro K K' C C' Q Q' hK hC hQ ls st μ b h
  unfold o_if at h ⊢
  split at h
  · exact ⟨fun z => hK _ _ _ _ _ (h.1 z), fun z => hK _ _ _ _ _ (h.2 z)⟩
  · exact h.elim
theorem mo_icmp (c : Int32 → Int32 → Prop) (tg nx : Nat) : ab_mono (o_icmp c tg nx) := by
  intro K K' C C' Q Q' hK hC hQ ls st μ b h
  unfold o_icmp at h ⊢
  split at h
  · exact ⟨fun z => hK _ _ _ _ _ (h.1 z), fun z => hK _ _ _ _ _ (h.2 z)⟩
  · exact h.elim
theorem mo_goto (tg : Nat) : ab_mono (o_goto tg) := by
  intro K K' C C' Q Q' hK hC hQ ls st μ b h
  exact hK _ _ _ _ _ h
theorem mo_dup (nx : Nat) : ab_mono (o_dup nx) := by
  intro K K' C C' Q Q' hK hC hQ ls st μ b h
  unfold o_dup at h ⊢
  split at h
  · exact hK _ _ _ _ _ h
  · exact h.elim
theorem mo_dup2 (nx : Nat) : ab_mono (o_dup2 nx) := by
  intro K K' C C' Q Q' hK hC hQ ls st μ b h
  unfold o_dup2 at h ⊢
  split at h
  · exact hK _ _ _ _ _ h
  · exact h.elim
theorem mo_pop (nx : Nat) : ab_mono (o_pop nx) := by
  intro K K' C C' Q Q' hK hC hQ ls st μ b h
  unfold o_pop at h ⊢
  split at h
  · exact hK _ _ _ _ _ h
  · exact h.elim
theorem mo_get (lay : ab_Y) (ci j nx : Nat) : ab_mono (o_get lay ci j nx) := by
  intro K K' C C' Q Q' hK hC hQ ls st μ b h
  unfold o_get at h ⊢
  split at h
  · next k r =>
    try dsimp only at h ⊢
    generalize lay k = L0 at h ⊢
    cases L0 with
    | inr t => exact h.elim
    | inl o =>
      try dsimp only at h ⊢
      cases hz : Nat.beq o.1 ci <;> rw [hz] at h
      · exact h.elim
      · dsimp only [cond] at h ⊢
        generalize o.2[j]? = w0 at h ⊢
        cases w0 with
        | none => exact h.elim
        | some w => cases w with
          | none => exact hK _ _ _ _ _ h
          | some k2 => exact hK _ _ _ _ _ h
  · exact h.elim
theorem mo_put (lay : ab_Y) (z : Bool) (ci j nx : Nat) : ab_mono (o_put lay z ci j nx) := by
  intro K K' C C' Q Q' hK hC hQ ls st μ b h
  unfold o_put at h ⊢
  split at h
  · next v k r =>
    try dsimp only at h ⊢
    generalize lay k = L0 at h ⊢
    cases L0 with
    | inr t => exact h.elim
    | inl o =>
      try dsimp only at h ⊢
      cases hz : Nat.beq o.1 ci <;> rw [hz] at h
      · exact h.elim
      · dsimp only [cond] at h ⊢
        generalize o.2[j]? = w0 at h ⊢
        cases w0 with
        | none => exact h.elim
        | some w => cases w with
          | none =>
            cases z
            · exact hK _ _ _ _ _ h
            · exact ⟨h.1, hK _ _ _ _ _ h.2⟩
          | some k2 => exact h.elim
  · exact h.elim
theorem mo_ald (lay : ab_Y) (ts : Nat → Bool) (nx : Nat) : ab_mono (o_ald lay ts nx) := by
  intro K K' C C' Q Q' hK hC hQ ls st μ b h
  unfold o_ald at h ⊢
  split at h
  · next i k r =>
    try dsimp only at h ⊢
    generalize lay k = L0 at h ⊢
    cases L0 with
    | inl o => exact h.elim
    | inr t =>
      try dsimp only at h ⊢
      cases hz : ts t <;> rw [hz] at h
      · exact h.elim
      · exact ⟨h.1, hK _ _ _ _ _ h.2⟩
  · exact h.elim
theorem mo_ast (lay : ab_Y) (ts : Nat → Bool) (nx : Nat) : ab_mono (o_ast lay ts nx) := by
  intro K K' C C' Q Q' hK hC hQ ls st μ b h
  unfold o_ast at h ⊢
  split at h
  · next x i k r =>
    try dsimp only at h ⊢
    generalize lay k = L0 at h ⊢
    cases L0 with
    | inl o => exact h.elim
    | inr t =>
      try dsimp only at h ⊢
      cases hz : ts t <;> rw [hz] at h
      · exact h.elim
      · exact ⟨h.1, hK _ _ _ _ _ h.2⟩
  · exact h.elim
theorem mo_alen (lay : ab_Y) (nx : Nat) : ab_mono (o_alen lay nx) := by
  intro K K' C C' Q Q' hK hC hQ ls st μ b h
  unfold o_alen at h ⊢
  split at h
  · next k r =>
    try dsimp only at h ⊢
    generalize lay k = L0 at h ⊢
    cases L0 with
    | inl o => exact h.elim
    | inr t =>
      try dsimp only at h ⊢
      cases hz : Nat.blt t 3 <;> rw [hz] at h
      · exact h.elim
      · exact hK _ _ _ _ _ h
  · exact h.elim
theorem mo_tld (c : Nat) (vs : List Int32) (nx : Nat) : ab_mono (o_tld c vs nx) := by
  intro K K' C C' Q Q' hK hC hQ ls st μ b h
  unfold o_tld at h ⊢
  split at h
  · next i d r =>
    try dsimp only at h ⊢
    cases hz : Nat.beq d c <;> rw [hz] at h
    · exact h.elim
    · exact ⟨h.1, hK _ _ _ _ _ h.2⟩
  · exact h.elim
theorem mo_cell (c nx : Nat) : ab_mono (o_cell c nx) := by
  intro K K' C C' Q Q' hK hC hQ ls st μ b h
  exact hK _ _ _ _ _ h
theorem mo_sw1 {K K' : Nat → Prop} (hK : ∀ t, K t → K' t) {x : Int32} : ∀ (ts : List Nat) (lo : Int), ab_sw K x lo ts → ab_sw K' x lo ts
  | [], _, _ => trivial
  | t :: r, lo, h => ⟨fun z => hK t (h.1 z), mo_sw1 hK r (lo + 1) h.2⟩
theorem mo_sw (lo hi : Int) (ts : List Nat) (d : Nat) : ab_mono (o_sw lo hi ts d) := by
  intro K K' C C' Q Q' hK hC hQ ls st μ b h
  unfold o_sw at h ⊢
  split at h
  · exact ⟨mo_sw1 (fun t ht => hK _ _ _ _ _ ht) ts lo h.1, fun z => hK _ _ _ _ _ (h.2 z)⟩
  · exact h.elim
theorem mo_ret (z : Bool) : ab_mono (o_ret z) := by
  intro K K' C C' Q Q' hK hC hQ ls st μ b h
  unfold o_ret at h ⊢
  split at h
  · cases z
    · exact hQ _ _ h
    · exact ⟨h.1, hQ _ _ h.2⟩
  · exact h.elim
theorem mo_retT (ty : FieldType) : ab_mono (o_retT ty) := by
  intro K K' C C' Q Q' hK hC hQ ls st μ b h
  unfold o_retT at h ⊢
  split at h
  · exact ⟨h.1, hQ _ _ h.2⟩
  · exact h.elim
theorem mo_vret : ab_mono o_vret := by
  intro K K' C C' Q Q' hK hC hQ ls st μ b h
  unfold o_vret at h ⊢
  split at h
  · exact hQ _ _ h
  · exact h.elim
theorem mo_callS (mv : Nat → Bool) (M n nx : Nat) : ab_mono (o_callS mv M n nx) := by
  intro K K' C C' Q Q' hK hC hQ ls st μ b h
  unfold o_callS at h ⊢
  cases hz : (Nat.ble n st.length && ab_nm mv ls && ab_nmS mv (st.drop n) && Nat.ble (st.drop n).length 8) <;> rw [hz] at h
  · exact h.elim
  · exact hC _ _ _ _ _ _ (fun r μ h => hK _ _ _ _ _ h) h
theorem mo_callV (lay : ab_Y) (mv : Nat → Bool) (ci M n nx : Nat) : ab_mono (o_callV lay mv ci M n nx) := by
  intro K K' C C' Q Q' hK hC hQ ls st μ b h
  unfold o_callV at h ⊢
  cases hz : (ab_nm mv ls && ab_nmS mv (st.drop (n + 1)) && Nat.ble (st.drop (n + 1)).length 8) <;> rw [hz] at h
  · exact h.elim
  · dsimp only [cond] at h ⊢
    split at h
    · next k r hst =>
      generalize lay k = L0 at h ⊢
      cases L0 with
      | inr t => exact h.elim
      | inl o =>
        try dsimp only at h ⊢
        cases hy : Nat.beq o.1 ci <;> rw [hy] at h
        · exact h.elim
        · exact hC _ _ _ _ _ _ (fun r μ h => hK _ _ _ _ _ h) h
    · exact h.elim
theorem mo_callB (lay : ab_Y) (mv : Nat → Bool) (ci M n nx : Nat) : ab_mono (o_callB lay mv ci M n nx) := by
  intro K K' C C' Q Q' hK hC hQ ls st μ b h
  unfold o_callB at h ⊢
  cases hz : (ab_nm mv ls && ab_nmS mv (st.drop (n + 1)) && Nat.ble (st.drop (n + 1)).length 8) <;> rw [hz] at h
  · exact h.elim
  · dsimp only [cond] at h ⊢
    split at h
    · next k r hst =>
      generalize lay k = L0 at h ⊢
      cases L0 with
      | inr t => exact h.elim
      | inl o =>
        try dsimp only at h ⊢
        cases hy : Nat.beq o.1 ci <;> rw [hy] at h
        · exact h.elim
        · obtain ⟨b1, h1, h2, h⟩ := h
          exact ⟨b1, h1, h2, hC _ _ _ _ _ _ (fun r μ h => hK _ _ _ _ _ h) h⟩
    · exact h.elim
theorem mo_callT (lay : ab_Y) (mv : Nat → Bool) (M n nx : Nat) : ab_mono (o_callT lay mv M n nx) := by
  intro K K' C C' Q Q' hK hC hQ ls st μ b h
  unfold o_callT at h ⊢
  cases hz : (ab_nm mv ls && ab_nmS mv (st.drop (n + 1)) && Nat.ble (st.drop (n + 1)).length 8) <;> rw [hz] at h
  · exact h.elim
  · dsimp only [cond] at h ⊢
    split at h
    · next k r hst =>
      generalize lay k = L0 at h ⊢
      cases L0 with
      | inl o => exact h.elim
      | inr t =>
        try dsimp only at h ⊢
        cases hy : Nat.beq t 4 <;> rw [hy] at h
        · exact h.elim
        · exact hC _ _ _ _ _ _ (fun r μ h => hK _ _ _ _ _ h) h
    · exact h.elim
theorem mo_sget1 (lay : ab_Y) (nx : Nat) : ab_mono (o_sget1 lay nx) := by
  intro K K' C C' Q Q' hK hC hQ ls st μ b h
  unfold o_sget1 at h ⊢
  split at h
  · next k r =>
    try dsimp only at h ⊢
    generalize lay k = L0 at h ⊢
    cases L0 with
    | inl o => exact h.elim
    | inr t =>
      try dsimp only at h ⊢
      cases hy : Nat.beq t 4 <;> rw [hy] at h
      · exact h.elim
      · exact hK _ _ _ _ _ h
  · exact h.elim
theorem mo_sget0 (lay : ab_Y) (nx : Nat) : ab_mono (o_sget0 lay nx) := by
  intro K K' C C' Q Q' hK hC hQ ls st μ b h
  unfold o_sget0 at h ⊢
  split at h
  · next k r =>
    try dsimp only at h ⊢
    generalize lay k = L0 at h ⊢
    cases L0 with
    | inl o => exact h.elim
    | inr t =>
      try dsimp only at h ⊢
      cases hy : Nat.beq t 4 <;> rw [hy] at h
      · exact h.elim
      · exact hK _ _ _ _ _ h
  · exact h.elim
theorem mo_slen (lay : ab_Y) (sv : Nat → List Int32) (nx : Nat) : ab_mono (o_slen lay sv nx) := by
  intro K K' C C' Q Q' hK hC hQ ls st μ b h
  unfold o_slen at h ⊢
  split at h
  · next k r =>
    try dsimp only at h ⊢
    generalize lay k = L0 at h ⊢
    cases L0 with
    | inl o => exact h.elim
    | inr t =>
      try dsimp only at h ⊢
      cases hy : Nat.beq t 5 <;> rw [hy] at h
      · exact h.elim
      · exact hK _ _ _ _ _ h
  · exact h.elim
theorem mo_sld (lay : ab_Y) (sv : Nat → List Int32) (nx : Nat) : ab_mono (o_sld lay sv nx) := by
  intro K K' C C' Q Q' hK hC hQ ls st μ b h
  unfold o_sld at h ⊢
  split at h
  · next i k r =>
    try dsimp only at h ⊢
    generalize lay k = L0 at h ⊢
    cases L0 with
    | inl o => exact h.elim
    | inr t =>
      try dsimp only at h ⊢
      cases hy : Nat.beq t 5 <;> rw [hy] at h
      · exact h.elim
      · exact ⟨h.1, hK _ _ _ _ _ h.2⟩
  · exact h.elim
-- plain facts
theorem ab_W_at {lay : ab_Y} {N : Nat} {cy : Nat → ClassId} {ad : Nat → Nat} {μ : ab_S} {k : Nat} (hk : k < N) : (ab_W lay N cy ad μ)[k]? = some (ad k, ab_E lay cy ad μ k) := by
  simp [ab_W, hk]
theorem ab_W_len {lay : ab_Y} {N : Nat} {cy : Nat → ClassId} {ad : Nat → Nat} {μ : ab_S} : (ab_W lay N cy ad μ).length = N := by
  simp [ab_W]
theorem ab_W_set {lay : ab_Y} {N : Nat} {cy : Nat → ClassId} {ad : Nat → Nat} {μ μ' : ab_S} {k : Nat} (hk : k < N) {e : va_E} (he : e = ab_E lay cy ad μ' k) (ho : ∀ j, j ≠ k → ab_E lay cy ad μ' j = ab_E lay cy ad μ j) : (ab_W lay N cy ad μ).set k (ad k, e) = ab_W lay N cy ad μ' := by
  apply List.ext_getElem?
  intro i
  by_cases h : i = k
  · subst h
    rw [List.getElem?_set_self (by rw [ab_W_len]; exact hk), ab_W_at hk, he]
  · rw [List.getElem?_set_ne (Ne.symm h)]
    by_cases hi : i < N
    · rw [ab_W_at hi, ab_W_at hi, ho i h]
    · rw [List.getElem?_eq_none (by rw [ab_W_len]; omega), List.getElem?_eq_none (by rw [ab_W_len]; omega)]
theorem ab_up_ne {μ : ab_S} {c j d : Nat} {x : Int32} (h : d ≠ c) : (ab_up μ c j x).1 d = μ.1 d := by
  simp [ab_up, h]
theorem ab_up_eq {μ : ab_S} {c j : Nat} {x : Int32} : (ab_up μ c j x).1 c = upd (μ.1 c) j x := by
  simp [ab_up]
theorem ab_E_ne {lay : ab_Y} {cy : Nat → ClassId} {ad : Nat → Nat} {μ : ab_S} {c j d : Nat} {x : Int32} (h : d ≠ c) : ab_E lay cy ad (ab_up μ c j x) d = ab_E lay cy ad μ d := by
  unfold ab_E
  rw [ab_up_ne h]
  rfl
theorem ab_f_set {ad : Nat → Nat} {f : Nat → Int32} {fs : List (Option Nat)} {j : Nat} {x : Int32} (h : fs[j]? = some none) : (ab_f ad f fs).set j (.int x) = ab_f ad (upd f j x) fs := by
  apply List.ext_getElem?
  intro i
  by_cases hi : i = j
  · subst hi
    rw [List.getElem?_set_self (by unfold ab_f; rw [List.length_mapIdx]; exact (List.getElem?_eq_some_iff.mp h).1)]
    unfold ab_f
    rw [List.getElem?_mapIdx, h]
    simp [upd]
  · rw [List.getElem?_set_ne (Ne.symm hi)]
    unfold ab_f
    rw [List.getElem?_mapIdx, List.getElem?_mapIdx]
    cases fs[i]? with
    | none => rfl
    | some o => cases o with
      | none => simp [upd, hi]
      | some k => rfl
theorem ab_f_int {ad : Nat → Nat} {f : Nat → Int32} {fs : List (Option Nat)} {j : Nat} (h : fs[j]? = some none) : (ab_f ad f fs)[j]? = some (.int (f j)) := by
  unfold ab_f
  rw [List.getElem?_mapIdx, h]
  rfl
theorem ab_f_ref {ad : Nat → Nat} {f : Nat → Int32} {fs : List (Option Nat)} {j k : Nat} (h : fs[j]? = some (some k)) : (ab_f ad f fs)[j]? = some (.ref (ad k)) := by
  unfold ab_f
  rw [List.getElem?_mapIdx, h]
  rfl
theorem ab_lv_mem {ad : Nat → Nat} {ls : ab_L} {q : Nat × Value} : q ∈ ab_lv ad ls ↔ ∃ (i : Nat) (v : ab_V), ls[i]? = some (some v) ∧ q = (i, ab_cv ad v) := by
  unfold ab_lv
  rw [List.mem_filterMap]
  constructor
  · rintro ⟨i, hi, he⟩
    have hi := List.mem_range.mp hi
    rw [List.getD_eq_getElem?_getD, List.getElem?_eq_getElem hi] at he
    cases hv : ls[i] with
    | none => rw [hv] at he; simp at he
    | some v =>
      rw [hv] at he
      refine ⟨i, v, by rw [List.getElem?_eq_getElem hi, hv], ?_⟩
      simpa using he.symm
  · rintro ⟨i, v, hi, rfl⟩
    refine ⟨i, List.mem_range.mpr (List.getElem?_eq_some_iff.mp hi).1, ?_⟩
    rw [List.getD_eq_getElem?_getD, hi]
    rfl
theorem ab_lv_get {ad : Nat → Nat} {ls : ab_L} {arr : Array Slot} {nL i : Nat} {v : ab_V} (h : lv_has arr nL (ab_lv ad ls)) (hi : ls.getD i none = some v) : arr[i]? = some (.val (ab_cv ad v)) := by
  refine h.2.2 (i, ab_cv ad v) (ab_lv_mem.mpr ⟨i, v, ?_, rfl⟩)
  rw [List.getD_eq_getElem?_getD] at hi
  cases hq : ls[i]? with
  | none => rw [hq] at hi; cases hi
  | some o => rw [hq] at hi; exact congrArg some hi
theorem ab_lv_sub {arr : Array Slot} {nL : Nat} {l l' : List (Nat × Value)} (h : lv_has arr nL l) (hs : ∀ q ∈ l', q ∈ l) : lv_has arr nL l' := ⟨h.1, h.2.1, fun q hq => h.2.2 q (hs q hq)⟩
theorem ab_cat {ad : Nat → Nat} {v : ab_V} : (ab_cv ad v).category = 1 := by
  cases v <;> rfl
theorem ab_lv_set {ad : Nat → Nat} {ls : ab_L} {arr : Array Slot} {nL i : Nat} {v : ab_V} (h : lv_has arr nL ((i, ab_cv ad v) :: (ab_lv ad ls).filter (fun q => !(q.1 == i) && !(q.1 + 1 == i && q.2.category == 2)))) : lv_has arr nL (ab_lv ad (ls.set i (some v))) := by
  refine ab_lv_sub h fun q hq => ?_
  obtain ⟨j, w, hj, rfl⟩ := ab_lv_mem.mp hq
  by_cases hji : j = i
  · subst hji
    rw [List.getElem?_set] at hj
    simp only [if_true] at hj
    split at hj
    · cases hj
      exact List.mem_cons_self
    · cases hj
  · rw [List.getElem?_set_ne (Ne.symm hji)] at hj
    refine List.mem_cons_of_mem _ (List.mem_filter.mpr ⟨ab_lv_mem.mpr ⟨j, w, hj, rfl⟩, ?_⟩)
    simp [hji, ab_cat]
theorem ab_lv_args {ad : Nat → Nat} : ∀ (as : List ab_V) (i j : Nat) (v : ab_V), as[j]? = some v → (i + j, ab_cv ad v) ∈ lv_args i (as.map (ab_cv ad))
  | [], _, _, _, h => by simp at h
  | a :: as, i, 0, v, h => by
    simp at h
    subst h
    exact List.mem_cons_self
  | a :: as, i, j + 1, v, h => by
    simp at h
    have := ab_lv_args (ad := ad) as (i + 1) j v h
    rw [List.map_cons, lv_args, if_neg (by rw [ab_cat]; decide)]
    refine List.mem_cons_of_mem _ ?_
    rw [show i + (j + 1) = i + 1 + j by omega]
    exact this
theorem ab_lv_init {ad : Nat → Nat} {as : List ab_V} {k : Nat} {q : Nat × Value} (h : q ∈ ab_lv ad (as.map some ++ List.replicate k none)) : q ∈ lv_args 0 (as.map (ab_cv ad)) := by
  obtain ⟨j, v, hj, rfl⟩ := ab_lv_mem.mp h
  by_cases hl : j < as.length
  · rw [List.getElem?_append_left (by simpa using hl), List.getElem?_map, List.getElem?_eq_getElem hl] at hj
    have := ab_lv_args (ad := ad) as 0 j v (by rw [List.getElem?_eq_getElem hl]; simpa using hj)
    rwa [Nat.zero_add] at this
  · rw [List.getElem?_append_right (by simpa using hl), List.getElem?_replicate] at hj
    split at hj <;> cases hj
theorem ab_lg_len {ad : Nat → Nat} (as : List ab_V) : (lg_sl (as.map (ab_cv ad))).length = as.length := by
  induction as with
  | nil => rfl
  | cons a as ih =>
    unfold lg_sl at ih ⊢
    rw [List.map_cons, List.flatMap_cons, List.length_append, ih, if_neg (by rw [ab_cat]; decide)]
    simp
    omega
theorem ab_sum {ad : Nat → Nat} (st : List ab_V) : ((st.map (ab_cv ad)).map fun v => v.category).sum = st.length := by
  induction st with
  | nil => rfl
  | cons a st ih =>
    rw [List.map_cons, List.map_cons, List.sum_cons, ih, ab_cat, List.length_cons]
    omega
theorem ab_nm_lv {mv : Nat → Bool} {ad ad' : Nat → Nat} {ls : ab_L} (h : ab_nm mv ls = true) (ha : ∀ k, mv k = false → ad' k = ad k) : ∀ q ∈ ab_lv ad' ls, q ∈ ab_lv ad ls := by
  intro q hq
  obtain ⟨j, v, hj, rfl⟩ := ab_lv_mem.mp hq
  refine ab_lv_mem.mpr ⟨j, v, hj, ?_⟩
  have h1 := List.all_eq_true.mp h (some v) (List.mem_of_getElem? hj)
  cases v with
  | inl x => rfl
  | inr k =>
    have hk : mv k = false := by simpa using h1
    show (j, Value.ref (ad' k)) = (j, Value.ref (ad k))
    rw [ha k hk]
theorem ab_nm_st {mv : Nat → Bool} {ad ad' : Nat → Nat} {st : List ab_V} (h : ab_nmS mv st = true) (ha : ∀ k, mv k = false → ad' k = ad k) : st.map (ab_cv ad') = st.map (ab_cv ad) := by
  refine List.map_congr_left fun v hv => ?_
  have h1 := List.all_eq_true.mp h v hv
  cases v with
  | inl x => rfl
  | inr k =>
    have hk : mv k = false := by simpa using h1
    show Value.ref (ad' k) = Value.ref (ad k)
    rw [ha k hk]
