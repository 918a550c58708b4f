-- THE ABSTRACT MACHINE IS RIGHT: what it says of a method is a contract of that method
abbrev ab_tys (cy : Nat → ClassId) : List (ClassId × FieldType) := [(cy 0, .int), (cy 1, .boolean), (cy 2, .byte)]
def ab_In (lay : ab_Y) (N : Nat) (mv : Nat → Bool) (cl : List vw_C) (D : va_G) (cy : Nat → ClassId) (ad : Nat → Nat) (A : Nat → Prop) (u : ab_S × (Nat → Nat)) (t : State) : Prop :=
  (∀ k, mv k = false → u.2 k = ad k) ∧ va_P D cl (ab_W lay N cy u.2 u.1) t.heap ∧ va_K D cl (ab_tys cy) t ∧ va_D A (ab_W lay N cy u.2 u.1)
def ab_Qc (lay : ab_Y) (N : Nat) (mv : Nat → Bool) (cl : List vw_C) (D : va_G) (cy : Nat → ClassId) (r : Option FieldType) (ad : Nat → Nat) (A : Nat → Prop) (Q : ab_Q) : Array Value → State → Outcome → State → Prop := match r with
  | none => va_Qv (fun u : ab_S × (Nat → Nat) => Q none u.1) (ab_In lay N mv cl D cy ad A) A
  | some _ => va_Qi (fun (v : Int32) (u : ab_S × (Nat → Nat)) => Q (some v) u.1) (ab_In lay N mv cl D cy ad A) A
def ab_rm (I : ab_I) (M : Nat) (b : ab_B) : Room := { frames := i_f I M, cells := b.1, slots := b.2, locals := i_l I M }
def ab_Pre (lay : ab_Y) (N : Nat) (cl : List vw_C) (D : va_G) (cy : Nat → ClassId) (X : (Nat → Prop) → State → Prop) (as : List ab_V) (ad : Nat → Nat) (μ : ab_S) (sz : Nat) : Array Value → State → Prop :=
  va_Pc (as.map (ab_cv ad)) (fun U => U.heap.size = sz ∧ va_P D cl (ab_W lay N cy ad μ) U.heap ∧ va_K D cl (ab_tys cy) U ∧ va_D (fun _ => True) (ab_W lay N cy ad μ) ∧ X (va_A (ab_W lay N cy ad μ) sz) U)
def ab_Xok (X : (Nat → Prop) → State → Prop) : Prop :=
  (∀ {A A' : Nat → Prop} {s U : State} {H : Heap} {locs : List Loc}, X A s → va_S A s.heap H locs → (∀ q, A' q → A q) → U.heap = H → s.WarmedH U.vm → X A' U) ∧ (∀ {A : Nat → Prop} {U : State} {g : JFrame} {mk : MethodId} {a : Array Value}, X A U → X A (U.calling g mk a))
def ab_layok (lay : ab_Y) (N : Nat) : Prop := ∀ c, N ≤ c → ∃ t, lay c = .inr t ∧ 3 ≤ t
section AB
variable (l : Launch) (I : ab_I) (lay : ab_Y) (N : Nat) (mv : Nat → Bool) (cl : List vw_C) (D : va_G) (cy : Nat → ClassId) (adS : Nat → Nat) (X : (Nat → Prop) → State → Prop)
def ab_Met (M : Nat) (as : List ab_V) (μ : ab_S) (b : ab_B) (Q : ab_Q) : Prop := ∀ (ad : Nat → Nat) (sz : Nat), (∀ k, N ≤ k → ad k = adS k) →
  Met l (i_y I M) (i_w I M) (ab_rm I M b) (ab_Pre lay N cl D cy X as ad μ sz) (ab_Qc lay N mv cl D cy (i_r I M) ad (va_A (ab_W lay N cy ad μ) sz) Q) b.1 b.2 (va_A (ab_W lay N cy ad μ) sz)
def ab_F (M : Nat) (p : Program) (s : State) (m : MethodId) (args : Array Value) (meth : Method) (c : Code) (A : Nat → Prop) : Prop :=
  p.tables.exec = Jvm.exec ∧ c.code = i_c I M ∧ meth.sig.returnType = i_r I M ∧ c.maxLocals = i_n I M ∧ s.vm.findClass (i_y I M).cls = some m.cls ∧ (∀ w ∈ i_w I M, w.before args s = true) ∧ meth.locks = false ∧ (∀ q, s.heap.size ≤ q → A q) ∧ va_K D cl (ab_tys cy) s ∧ X A s
def ab_G (M : Nat) (p : Program) (e : Env) (s : State) (m : MethodId) (args : Array Value) (below : List Frame) (meth : Method) (c : Code) (A : Nat → Prop) (B : ab_B) (ad0 : Nat → Nat) (Q : ab_Q) (pc : Nat) (ls : ab_L) (st : List ab_V) (μ : ab_S) (b : ab_B) : Prop :=
  ∀ (ad : Nat → Nat) (arr : Array Slot) (H : Heap) (locs : List Loc) (cells slots : Nat), ls.length = i_n I M → lv_has arr (i_n I M) (ab_lv ad ls) → va_P D cl (ab_W lay N cy ad μ) H → va_D A (ab_W lay N cy ad μ) → va_S A s.heap H locs → (∀ k, mv k = false → ad k = ad0 k) → (∀ k, N ≤ k → ad k = adS k) → cells + b.1 ≤ B.1 → slots + b.2 ≤ B.2 →
    W p l e (ab_rm I M B) s m args below meth c H locs cells slots (MQ below (ab_Qc lay N mv cl D cy (i_r I M) ad0 A Q) args s B.1 B.2 A) (F0 m pc arr (st.map (ab_cv ad)))
def ab_Ok (M pc : Nat) (t : ab_T) : Prop := ∀ (p : Program) (e : Env) (s : State) (m : MethodId) (args : Array Value) (below : List Frame) (meth : Method) (c : Code) (A : Nat → Prop) (B : ab_B) (ad0 : Nat → Nat) (Q : ab_Q), ab_F I cl D cy X M p s m args meth c A →
  ∀ (K : ab_K) (C : ab_C), (∀ pc ls st μ b, K pc ls st μ b → ab_G l I lay N mv cl D cy adS M p e s m args below meth c A B ad0 Q pc ls st μ b) → (∀ M as μ b Q, C M as μ b Q → as.length ≤ i_n I M → ab_Met l I lay N mv cl D cy adS X M as μ b Q) →
  ∀ ls st μ b, t K C ls st μ b Q → ab_G l I lay N mv cl D cy adS M p e s m args below meth c A B ad0 Q pc ls st μ b
variable {l I lay N mv cl D cy adS X}
theorem ok_fail {M pc : Nat} : ab_Ok l I lay N mv cl D cy adS X M pc o_fail := by
  intro p e s m args below meth c A B ad0 Q F K C hK hC ls st μ b h
  exact h.elim
theorem ok_cond {M pc : Nat} {z : Bool} {a b : ab_T} (ha : ab_Ok l I lay N mv cl D cy adS X M pc a) (hb : ab_Ok l I lay N mv cl D cy adS X M pc b) : ab_Ok l I lay N mv cl D cy adS X M pc (cond z a b) := by
  cases z
  · exact hb
  · exact ha
theorem ok_leaf {M pc k : Nat} {t : ab_T} (h : ab_Ok l I lay N mv cl D cy adS X M k t) : ab_Ok l I lay N mv cl D cy adS X M pc (cond (Nat.beq pc k) t o_fail) := by
  cases hz : Nat.beq pc k with
  | false => exact ok_fail
  | true =>
    have := Nat.eq_of_beq_eq_true hz
    subst this
    exact h
theorem ok_iload_n {M pc i : Nat} {k : Fin 4} (hd : decode (i_c I M) pc = .ok (.iload_n k, 1)) (hi : (k : Nat) = i) : ab_Ok l I lay N mv cl D cy adS X M pc (o_iload i (pc + 1)) := by
  intro p e s m args below meth c A B ad0 Q F K C hK hC ls st μ b h ad arr H locs cells slots hn hl hP hD hS ha hs hc1 hc2
  unfold o_iload at h
  split at h
  · next x hx =>
    exact lv_iload_n F.1 F.2.1 hd hi (ab_lv_get hl hx) (hK _ _ _ _ _ h ad arr H locs cells slots hn hl hP hD hS ha hs hc1 hc2)
  · exact h.elim
theorem ok_iload {M pc i : Nat} (hd : decode (i_c I M) pc = .ok (.iload i, 2)) : ab_Ok l I lay N mv cl D cy adS X M pc (o_iload i (pc + 2)) := by
  intro p e s m args below meth c A B ad0 Q F K C hK hC ls st μ b h ad arr H locs cells slots hn hl hP hD hS ha hs hc1 hc2
  unfold o_iload at h
  split at h
  · next x hx =>
    exact lv_iload F.1 F.2.1 hd (ab_lv_get hl hx) (hK _ _ _ _ _ h ad arr H locs cells slots hn hl hP hD hS ha hs hc1 hc2)
  · exact h.elim
theorem ok_aload_n {M pc i : Nat} {k : Fin 4} (hd : decode (i_c I M) pc = .ok (.aload_n k, 1)) (hi : (k : Nat) = i) : ab_Ok l I lay N mv cl D cy adS X M pc (o_aload i (pc + 1)) := by
  intro p e s m args below meth c A B ad0 Q F K C hK hC ls st μ b h ad arr H locs cells slots hn hl hP hD hS ha hs hc1 hc2
  unfold o_aload at h
  split at h
  · next x hx =>
    exact lv_aload_n F.1 F.2.1 hd hi (ab_lv_get hl hx) (hK _ _ _ _ _ h ad arr H locs cells slots hn hl hP hD hS ha hs hc1 hc2)
  · exact h.elim
theorem ok_aload {M pc i : Nat} (hd : decode (i_c I M) pc = .ok (.aload i, 2)) : ab_Ok l I lay N mv cl D cy adS X M pc (o_aload i (pc + 2)) := by
  intro p e s m args below meth c A B ad0 Q F K C hK hC ls st μ b h ad arr H locs cells slots hn hl hP hD hS ha hs hc1 hc2
  unfold o_aload at h
  split at h
  · next x hx =>
    exact lv_aload F.1 F.2.1 hd (ab_lv_get hl hx) (hK _ _ _ _ _ h ad arr H locs cells slots hn hl hP hD hS ha hs hc1 hc2)
  · exact h.elim
theorem ok_istore_n {M pc i : Nat} {k : Fin 4} (hd : decode (i_c I M) pc = .ok (.istore_n k, 1)) (hi : (k : Nat) = i) : ab_Ok l I lay N mv cl D cy adS X M pc (o_istore i (pc + 1)) := by
  intro p e s m args below meth c A B ad0 Q F K C hK hC ls st μ b h ad arr H locs cells slots hn hl hP hD hS ha hs hc1 hc2
  unfold o_istore at h
  split at h
  · next x r =>
    cases hz : Nat.blt i ls.length with
    | false => rw [hz] at h; exact h.elim
    | true =>
      rw [hz] at h
      have hz : i < ls.length := Nat.le_of_ble_eq_true hz
      exact lv_istore_n F.1 F.2.1 hd hi hl (by rw [← hn]; exact hz) rfl (fun arr' hl' => hK _ _ _ _ _ h ad arr' H locs cells slots (by rw [List.length_set]; exact hn) (ab_lv_set (v := .inl x) hl') hP hD hS ha hs hc1 hc2)
  · exact h.elim
theorem ok_istore {M pc i : Nat} (hd : decode (i_c I M) pc = .ok (.istore i, 2)) : ab_Ok l I lay N mv cl D cy adS X M pc (o_istore i (pc + 2)) := by
  intro p e s m args below meth c A B ad0 Q F K C hK hC ls st μ b h ad arr H locs cells slots hn hl hP hD hS ha hs hc1 hc2
  unfold o_istore at h
  split at h
  · next x r =>
    cases hz : Nat.blt i ls.length with
    | false => rw [hz] at h; exact h.elim
    | true =>
      rw [hz] at h
      have hz : i < ls.length := Nat.le_of_ble_eq_true hz
      exact lv_istore F.1 F.2.1 hd hl (by rw [← hn]; exact hz) rfl (fun arr' hl' => hK _ _ _ _ _ h ad arr' H locs cells slots (by rw [List.length_set]; exact hn) (ab_lv_set (v := .inl x) hl') hP hD hS ha hs hc1 hc2)
  · exact h.elim
theorem ok_astore {M pc i : Nat} (hd : decode (i_c I M) pc = .ok (.astore i, 2)) : ab_Ok l I lay N mv cl D cy adS X M pc (o_astore i (pc + 2)) := by
  intro p e s m args below meth c A B ad0 Q F K C hK hC ls st μ b h ad arr H locs cells slots hn hl hP hD hS ha hs hc1 hc2
  unfold o_astore at h
  split at h
  · next x r =>
    cases hz : Nat.blt i ls.length with
    | false => rw [hz] at h; exact h.elim
    | true =>
      rw [hz] at h
      have hz : i < ls.length := Nat.le_of_ble_eq_true hz
      exact lv_astore F.1 F.2.1 hd hl (by rw [← hn]; exact hz) rfl (fun arr' hl' => hK _ _ _ _ _ h ad arr' H locs cells slots (by rw [List.length_set]; exact hn) (ab_lv_set (v := .inr x) hl') hP hD hS ha hs hc1 hc2)
  · exact h.elim
theorem ok_iinc {M pc i : Nat} {n : Int} {d : Int32} (hd : decode (i_c I M) pc = .ok (.iinc i n, 3)) (hv : Int32.ofInt n = d) : ab_Ok l I lay N mv cl D cy adS X M pc (o_iinc i d (pc + 3)) := by
  intro p e s m args below meth c A B ad0 Q F K C hK hC ls st μ b h ad arr H locs cells slots hn hl hP hD hS ha hs hc1 hc2
  unfold o_iinc at h
  split at h
  · next x hx =>
    have hx2 : ls[i]? = some (some (.inl x)) := by
      rw [List.getD_eq_getElem?_getD] at hx
      cases hq : ls[i]? with
      | none => rw [hq] at hx; cases hx
      | some o => rw [hq] at hx; exact congrArg some hx
    have hz : i < ls.length := (List.getElem?_eq_some_iff.mp hx2).1
    obtain ⟨k, hk⟩ := List.getElem?_of_mem (ab_lv_mem (ad := ad).mpr ⟨i, .inl x, hx2, rfl⟩)
    exact lv_iinc F.1 F.2.1 hd hl hk (by rw [hv]) (by rw [← hn]; exact hz) rfl (fun arr' hl' => hK _ _ _ _ _ h ad arr' H locs cells slots (by rw [List.length_set]; exact hn) (ab_lv_set (v := .inl (x + d)) hl') hP hD hS ha hs hc1 hc2)
  · exact h.elim
theorem ok_iconst {M pc : Nat} {n : Int} {v : Int32} (hd : decode (i_c I M) pc = .ok (.iconst n, 1)) (hv : Int32.ofInt n = v) : ab_Ok l I lay N mv cl D cy adS X M pc (o_const v (pc + 1)) := by
  intro p e s m args below meth c A B ad0 Q F K C hK hC ls st μ b h ad arr H locs cells slots hn hl hP hD hS ha hs hc1 hc2
  exact lv_iconst F.1 F.2.1 hd hv (hK _ _ _ _ _ h ad arr H locs cells slots hn hl hP hD hS ha hs hc1 hc2)
theorem ok_bipush {M pc : Nat} {n : Int} {v : Int32} (hd : decode (i_c I M) pc = .ok (.bipush n, 2)) (hv : (Int8.ofInt n).toInt32 = v) : ab_Ok l I lay N mv cl D cy adS X M pc (o_const v (pc + 2)) := by
  intro p e s m args below meth c A B ad0 Q F K C hK hC ls st μ b h ad arr H locs cells slots hn hl hP hD hS ha hs hc1 hc2
  exact lv_bipush F.1 F.2.1 hd hv (hK _ _ _ _ _ h ad arr H locs cells slots hn hl hP hD hS ha hs hc1 hc2)
theorem ok_sipush {M pc : Nat} {n : Int} {v : Int32} (hd : decode (i_c I M) pc = .ok (.sipush n, 3)) (hv : (Int16.ofInt n).toInt32 = v) : ab_Ok l I lay N mv cl D cy adS X M pc (o_const v (pc + 3)) := by
  intro p e s m args below meth c A B ad0 Q F K C hK hC ls st μ b h ad arr H locs cells slots hn hl hP hD hS ha hs hc1 hc2
  exact lv_sipush F.1 F.2.1 hd hv (hK _ _ _ _ _ h ad arr H locs cells slots hn hl hP hD hS ha hs hc1 hc2)
theorem ok_iadd {M pc : Nat} (hd : decode (i_c I M) pc = .ok (.iadd, 1)) : ab_Ok l I lay N mv cl D cy adS X M pc (o_bin (fun x y => x + y) (pc + 1)) := by
  intro p e s m args below meth c A B ad0 Q F K C hK hC ls st μ b h ad arr H locs cells slots hn hl hP hD hS ha hs hc1 hc2
  unfold o_bin at h
  split at h
  · next y x r =>
    exact lv_iadd F.1 F.2.1 hd (hK _ _ _ _ _ h ad arr H locs cells slots hn hl hP hD hS ha hs hc1 hc2)
  · exact h.elim
theorem ok_isub {M pc : Nat} (hd : decode (i_c I M) pc = .ok (.isub, 1)) : ab_Ok l I lay N mv cl D cy adS X M pc (o_bin (fun x y => x - y) (pc + 1)) := by
  intro p e s m args below meth c A B ad0 Q F K C hK hC ls st μ b h ad arr H locs cells slots hn hl hP hD hS ha hs hc1 hc2
  unfold o_bin at h
  split at h
  · next y x r =>
    exact lv_isub F.1 F.2.1 hd (hK _ _ _ _ _ h ad arr H locs cells slots hn hl hP hD hS ha hs hc1 hc2)
  · exact h.elim
theorem ok_imul {M pc : Nat} (hd : decode (i_c I M) pc = .ok (.imul, 1)) : ab_Ok l I lay N mv cl D cy adS X M pc (o_bin (fun x y => x * y) (pc + 1)) := by
  intro p e s m args below meth c A B ad0 Q F K C hK hC ls st μ b h ad arr H locs cells slots hn hl hP hD hS ha hs hc1 hc2
  unfold o_bin at h
  split at h
  · next y x r =>
    exact lv_imul F.1 F.2.1 hd (hK _ _ _ _ _ h ad arr H locs cells slots hn hl hP hD hS ha hs hc1 hc2)
  · exact h.elim
theorem ok_iand {M pc : Nat} (hd : decode (i_c I M) pc = .ok (.iand, 1)) : ab_Ok l I lay N mv cl D cy adS X M pc (o_bin (fun x y => x &&& y) (pc + 1)) := by
  intro p e s m args below meth c A B ad0 Q F K C hK hC ls st μ b h ad arr H locs cells slots hn hl hP hD hS ha hs hc1 hc2
  unfold o_bin at h
  split at h
  · next y x r =>
    exact lv_iand F.1 F.2.1 hd (hK _ _ _ _ _ h ad arr H locs cells slots hn hl hP hD hS ha hs hc1 hc2)
  · exact h.elim
theorem ok_ior {M pc : Nat} (hd : decode (i_c I M) pc = .ok (.ior, 1)) : ab_Ok l I lay N mv cl D cy adS X M pc (o_bin (fun x y => x ||| y) (pc + 1)) := by
  intro p e s m args below meth c A B ad0 Q F K C hK hC ls st μ b h ad arr H locs cells slots hn hl hP hD hS ha hs hc1 hc2
  unfold o_bin at h
  split at h
  · next y x r =>
    exact lv_ior F.1 F.2.1 hd (hK _ _ _ _ _ h ad arr H locs cells slots hn hl hP hD hS ha hs hc1 hc2)
  · exact h.elim
theorem ok_ishl {M pc : Nat} (hd : decode (i_c I M) pc = .ok (.ishl, 1)) : ab_Ok l I lay N mv cl D cy adS X M pc (o_bin (fun x y => x <<< (y &&& 31)) (pc + 1)) := by
  intro p e s m args below meth c A B ad0 Q F K C hK hC ls st μ b h ad arr H locs cells slots hn hl hP hD hS ha hs hc1 hc2
  unfold o_bin at h
  split at h
  · next y x r =>
    exact lv_ishl F.1 F.2.1 hd (hK _ _ _ _ _ h ad arr H locs cells slots hn hl hP hD hS ha hs hc1 hc2)
  · exact h.elim
theorem ok_ishr {M pc : Nat} (hd : decode (i_c I M) pc = .ok (.ishr, 1)) : ab_Ok l I lay N mv cl D cy adS X M pc (o_bin (fun x y => x >>> (y &&& 31)) (pc + 1)) := by
  intro p e s m args below meth c A B ad0 Q F K C hK hC ls st μ b h ad arr H locs cells slots hn hl hP hD hS ha hs hc1 hc2
  unfold o_bin at h
  split at h
  · next y x r =>
    exact lv_ishr F.1 F.2.1 hd (hK _ _ _ _ _ h ad arr H locs cells slots hn hl hP hD hS ha hs hc1 hc2)
  · exact h.elim
theorem ok_iushr {M pc : Nat} (hd : decode (i_c I M) pc = .ok (.iushr, 1)) : ab_Ok l I lay N mv cl D cy adS X M pc (o_bin (fun x y => (x.toUInt32 >>> (y.toUInt32 &&& Int32.toUInt32 31)).toInt32) (pc + 1)) := by
  intro p e s m args below meth c A B ad0 Q F K C hK hC ls st μ b h ad arr H locs cells slots hn hl hP hD hS ha hs hc1 hc2
  unfold o_bin at h
  split at h
  · next y x r =>
    exact lv_iushr F.1 F.2.1 hd rfl (hK _ _ _ _ _ h ad arr H locs cells slots hn hl hP hD hS ha hs hc1 hc2)
  · exact h.elim
theorem ok_idiv {M pc : Nat} (hd : decode (i_c I M) pc = .ok (.idiv, 1)) : ab_Ok l I lay N mv cl D cy adS X M pc (o_idiv (pc + 1)) := by
  intro p e s m args below meth c A B ad0 Q F K C hK hC ls st μ b h ad arr H locs cells slots hn hl hP hD hS ha hs hc1 hc2
  unfold o_idiv at h
  split at h
  · next y x r =>
    exact lv_idiv F.1 F.2.1 hd h.1 (hK _ _ _ _ _ h.2 ad arr H locs cells slots hn hl hP hD hS ha hs hc1 hc2)
  · exact h.elim
theorem ok_i2b {M pc : Nat} (hd : decode (i_c I M) pc = .ok (.i2b, 1)) : ab_Ok l I lay N mv cl D cy adS X M pc (o_i2b (pc + 1)) := by
  intro p e s m args below meth c A B ad0 Q F K C hK hC ls st μ b h ad arr H locs cells slots hn hl hP hD hS ha hs hc1 hc2
  unfold o_i2b at h
  split at h
  · next x r =>
    exact lv_i2b F.1 F.2.1 hd rfl (hK _ _ _ _ _ h ad arr H locs cells slots hn hl hP hD hS ha hs hc1 hc2)
  · exact h.elim
theorem ok_if_eq {M pc tg : Nat} {off : Int} (hd : decode (i_c I M) pc = .ok (.ifCond .eq off, 3)) (ht : (pc : Int) + off = (tg : Int)) : ab_Ok l I lay N mv cl D cy adS X M pc (o_if (fun x => x = 0) tg (pc + 3)) := by
  intro p e s m args below meth c A B ad0 Q F K C hK hC ls st μ b h ad arr H locs cells slots hn hl hP hD hS ha hs hc1 hc2
  unfold o_if at h
  split at h
  · next x r =>
    exact lv_if_eq F.1 F.2.1 hd ht (fun z => hK _ _ _ _ _ (h.1 z) ad arr H locs cells slots hn hl hP hD hS ha hs hc1 hc2) (fun z => hK _ _ _ _ _ (h.2 z) ad arr H locs cells slots hn hl hP hD hS ha hs hc1 hc2)
  · exact h.elim
theorem ok_if_ne {M pc tg : Nat} {off : Int} (hd : decode (i_c I M) pc = .ok (.ifCond .ne off, 3)) (ht : (pc : Int) + off = (tg : Int)) : ab_Ok l I lay N mv cl D cy adS X M pc (o_if (fun x => x = 0) (pc + 3) tg) := by
  intro p e s m args below meth c A B ad0 Q F K C hK hC ls st μ b h ad arr H locs cells slots hn hl hP hD hS ha hs hc1 hc2
  unfold o_if at h
  split at h
  · next x r =>
    exact lv_if_ne F.1 F.2.1 hd ht (fun z => hK _ _ _ _ _ (h.2 z) ad arr H locs cells slots hn hl hP hD hS ha hs hc1 hc2) (fun z => hK _ _ _ _ _ (h.1 z) ad arr H locs cells slots hn hl hP hD hS ha hs hc1 hc2)
  · exact h.elim
theorem ok_if_lt {M pc tg : Nat} {off : Int} (hd : decode (i_c I M) pc = .ok (.ifCond .lt off, 3)) (ht : (pc : Int) + off = (tg : Int)) : ab_Ok l I lay N mv cl D cy adS X M pc (o_if (fun x => x < 0) tg (pc + 3)) := by
  intro p e s m args below meth c A B ad0 Q F K C hK hC ls st μ b h ad arr H locs cells slots hn hl hP hD hS ha hs hc1 hc2
  unfold o_if at h
  split at h
  · next x r =>
    exact lv_if_lt F.1 F.2.1 hd ht (fun z => hK _ _ _ _ _ (h.1 z) ad arr H locs cells slots hn hl hP hD hS ha hs hc1 hc2) (fun z => hK _ _ _ _ _ (h.2 z) ad arr H locs cells slots hn hl hP hD hS ha hs hc1 hc2)
  · exact h.elim
theorem ok_if_ge {M pc tg : Nat} {off : Int} (hd : decode (i_c I M) pc = .ok (.ifCond .ge off, 3)) (ht : (pc : Int) + off = (tg : Int)) : ab_Ok l I lay N mv cl D cy adS X M pc (o_if (fun x => 0 ≤ x) tg (pc + 3)) := by
  intro p e s m args below meth c A B ad0 Q F K C hK hC ls st μ b h ad arr H locs cells slots hn hl hP hD hS ha hs hc1 hc2
  unfold o_if at h
  split at h
  · next x r =>
    exact lv_if_ge F.1 F.2.1 hd ht (fun z => hK _ _ _ _ _ (h.1 z) ad arr H locs cells slots hn hl hP hD hS ha hs hc1 hc2) (fun z => hK _ _ _ _ _ (h.2 z) ad arr H locs cells slots hn hl hP hD hS ha hs hc1 hc2)
  · exact h.elim
theorem ok_if_gt {M pc tg : Nat} {off : Int} (hd : decode (i_c I M) pc = .ok (.ifCond .gt off, 3)) (ht : (pc : Int) + off = (tg : Int)) : ab_Ok l I lay N mv cl D cy adS X M pc (o_if (fun x => 0 < x) tg (pc + 3)) := by
  intro p e s m args below meth c A B ad0 Q F K C hK hC ls st μ b h ad arr H locs cells slots hn hl hP hD hS ha hs hc1 hc2
  unfold o_if at h
  split at h
  · next x r =>
    exact lv_if_gt F.1 F.2.1 hd ht (fun z => hK _ _ _ _ _ (h.1 z) ad arr H locs cells slots hn hl hP hD hS ha hs hc1 hc2) (fun z => hK _ _ _ _ _ (h.2 z) ad arr H locs cells slots hn hl hP hD hS ha hs hc1 hc2)
  · exact h.elim
theorem ok_if_le {M pc tg : Nat} {off : Int} (hd : decode (i_c I M) pc = .ok (.ifCond .le off, 3)) (ht : (pc : Int) + off = (tg : Int)) : ab_Ok l I lay N mv cl D cy adS X M pc (o_if (fun x => x ≤ 0) tg (pc + 3)) := by
  intro p e s m args below meth c A B ad0 Q F K C hK hC ls st μ b h ad arr H locs cells slots hn hl hP hD hS ha hs hc1 hc2
  unfold o_if at h
  split at h
  · next x r =>
    exact lv_if_le F.1 F.2.1 hd ht (fun z => hK _ _ _ _ _ (h.1 z) ad arr H locs cells slots hn hl hP hD hS ha hs hc1 hc2) (fun z => hK _ _ _ _ _ (h.2 z) ad arr H locs cells slots hn hl hP hD hS ha hs hc1 hc2)
  · exact h.elim
theorem ok_icmp_eq {M pc tg : Nat} {off : Int} (hd : decode (i_c I M) pc = .ok (.if_icmp .eq off, 3)) (ht : (pc : Int) + off = (tg : Int)) : ab_Ok l I lay N mv cl D cy adS X M pc (o_icmp (fun x y => x = y) tg (pc + 3)) := by
  intro p e s m args below meth c A B ad0 Q F K C hK hC ls st μ b h ad arr H locs cells slots hn hl hP hD hS ha hs hc1 hc2
  unfold o_icmp at h
  split at h
  · next y x r =>
    exact lv_icmp_eq F.1 F.2.1 hd ht (fun z => hK _ _ _ _ _ (h.1 z) ad arr H locs cells slots hn hl hP hD hS ha hs hc1 hc2) (fun z => hK _ _ _ _ _ (h.2 z) ad arr H locs cells slots hn hl hP hD hS ha hs hc1 hc2)
  · exact h.elim
theorem ok_icmp_ne {M pc tg : Nat} {off : Int} (hd : decode (i_c I M) pc = .ok (.if_icmp .ne off, 3)) (ht : (pc : Int) + off = (tg : Int)) : ab_Ok l I lay N mv cl D cy adS X M pc (o_icmp (fun x y => x = y) (pc + 3) tg) := by
  intro p e s m args below meth c A B ad0 Q F K C hK hC ls st μ b h ad arr H locs cells slots hn hl hP hD hS ha hs hc1 hc2
  unfold o_icmp at h
  split at h
  · next y x r =>
    exact lv_icmp_ne F.1 F.2.1 hd ht (fun z => hK _ _ _ _ _ (h.2 z) ad arr H locs cells slots hn hl hP hD hS ha hs hc1 hc2) (fun z => hK _ _ _ _ _ (h.1 z) ad arr H locs cells slots hn hl hP hD hS ha hs hc1 hc2)
  · exact h.elim
theorem ok_icmp_lt {M pc tg : Nat} {off : Int} (hd : decode (i_c I M) pc = .ok (.if_icmp .lt off, 3)) (ht : (pc : Int) + off = (tg : Int)) : ab_Ok l I lay N mv cl D cy adS X M pc (o_icmp (fun x y => x < y) tg (pc + 3)) := by
  intro p e s m args below meth c A B ad0 Q F K C hK hC ls st μ b h ad arr H locs cells slots hn hl hP hD hS ha hs hc1 hc2
  unfold o_icmp at h
  split at h
  · next y x r =>
    exact lv_icmp_lt F.1 F.2.1 hd ht (fun z => hK _ _ _ _ _ (h.1 z) ad arr H locs cells slots hn hl hP hD hS ha hs hc1 hc2) (fun z => hK _ _ _ _ _ (h.2 z) ad arr H locs cells slots hn hl hP hD hS ha hs hc1 hc2)
  · exact h.elim
theorem ok_icmp_ge {M pc tg : Nat} {off : Int} (hd : decode (i_c I M) pc = .ok (.if_icmp .ge off, 3)) (ht : (pc : Int) + off = (tg : Int)) : ab_Ok l I lay N mv cl D cy adS X M pc (o_icmp (fun x y => y ≤ x) tg (pc + 3)) := by
  intro p e s m args below meth c A B ad0 Q F K C hK hC ls st μ b h ad arr H locs cells slots hn hl hP hD hS ha hs hc1 hc2
  unfold o_icmp at h
  split at h
  · next y x r =>
    exact lv_icmp_ge F.1 F.2.1 hd ht (fun z => hK _ _ _ _ _ (h.1 z) ad arr H locs cells slots hn hl hP hD hS ha hs hc1 hc2) (fun z => hK _ _ _ _ _ (h.2 z) ad arr H locs cells slots hn hl hP hD hS ha hs hc1 hc2)
  · exact h.elim
theorem ok_icmp_gt {M pc tg : Nat} {off : Int} (hd : decode (i_c I M) pc = .ok (.if_icmp .gt off, 3)) (ht : (pc : Int) + off = (tg : Int)) : ab_Ok l I lay N mv cl D cy adS X M pc (o_icmp (fun x y => y < x) tg (pc + 3)) := by
  intro p e s m args below meth c A B ad0 Q F K C hK hC ls st μ b h ad arr H locs cells slots hn hl hP hD hS ha hs hc1 hc2
  unfold o_icmp at h
  split at h
  · next y x r =>
    exact lv_icmp_gt F.1 F.2.1 hd ht (fun z => hK _ _ _ _ _ (h.1 z) ad arr H locs cells slots hn hl hP hD hS ha hs hc1 hc2) (fun z => hK _ _ _ _ _ (h.2 z) ad arr H locs cells slots hn hl hP hD hS ha hs hc1 hc2)
  · exact h.elim
theorem ok_icmp_le {M pc tg : Nat} {off : Int} (hd : decode (i_c I M) pc = .ok (.if_icmp .le off, 3)) (ht : (pc : Int) + off = (tg : Int)) : ab_Ok l I lay N mv cl D cy adS X M pc (o_icmp (fun x y => x ≤ y) tg (pc + 3)) := by
  intro p e s m args below meth c A B ad0 Q F K C hK hC ls st μ b h ad arr H locs cells slots hn hl hP hD hS ha hs hc1 hc2
  unfold o_icmp at h
  split at h
  · next y x r =>
    exact lv_icmp_le F.1 F.2.1 hd ht (fun z => hK _ _ _ _ _ (h.1 z) ad arr H locs cells slots hn hl hP hD hS ha hs hc1 hc2) (fun z => hK _ _ _ _ _ (h.2 z) ad arr H locs cells slots hn hl hP hD hS ha hs hc1 hc2)
  · exact h.elim
theorem ok_goto {M pc tg : Nat} {off : Int} (hd : decode (i_c I M) pc = .ok (.goto off, 3)) (ht : (pc : Int) + off = (tg : Int)) : ab_Ok l I lay N mv cl D cy adS X M pc (o_goto tg) := by
  intro p e s m args below meth c A B ad0 Q F K C hK hC ls st μ b h ad arr H locs cells slots hn hl hP hD hS ha hs hc1 hc2
  exact lv_goto F.1 F.2.1 hd ht (hK _ _ _ _ _ h ad arr H locs cells slots hn hl hP hD hS ha hs hc1 hc2)
theorem ok_dup {M pc : Nat} (hd : decode (i_c I M) pc = .ok (.dup, 1)) : ab_Ok l I lay N mv cl D cy adS X M pc (o_dup (pc + 1)) := by
  intro p e s m args below meth c A B ad0 Q F K C hK hC ls st μ b h ad arr H locs cells slots hn hl hP hD hS ha hs hc1 hc2
  unfold o_dup at h
  split at h
  · next v r =>
    exact lv_dup F.1 F.2.1 hd ab_cat (hK _ _ _ _ _ h ad arr H locs cells slots hn hl hP hD hS ha hs hc1 hc2)
  · exact h.elim
theorem ok_dup2 {M pc : Nat} (hd : decode (i_c I M) pc = .ok (.dup2, 1)) : ab_Ok l I lay N mv cl D cy adS X M pc (o_dup2 (pc + 1)) := by
  intro p e s m args below meth c A B ad0 Q F K C hK hC ls st μ b h ad arr H locs cells slots hn hl hP hD hS ha hs hc1 hc2
  unfold o_dup2 at h
  split at h
  · next v w r =>
    exact lv_dup2_11 F.1 F.2.1 hd ab_cat ab_cat (hK _ _ _ _ _ h ad arr H locs cells slots hn hl hP hD hS ha hs hc1 hc2)
  · exact h.elim
theorem ok_pop {M pc : Nat} (hd : decode (i_c I M) pc = .ok (.pop, 1)) : ab_Ok l I lay N mv cl D cy adS X M pc (o_pop (pc + 1)) := by
  intro p e s m args below meth c A B ad0 Q F K C hK hC ls st μ b h ad arr H locs cells slots hn hl hP hD hS ha hs hc1 hc2
  unfold o_pop at h
  split at h
  · next v r =>
    exact lv_pop F.1 F.2.1 hd ab_cat (hK _ _ _ _ _ h ad arr H locs cells slots hn hl hP hD hS ha hs hc1 hc2)
  · exact h.elim
theorem ab_ltN (hy : ab_layok lay N) {c : Nat} {o : Nat × List (Option Nat)} (h : lay c = .inl o) : c < N := by
  rcases Nat.lt_or_ge c N with q | q
  · exact q
  · obtain ⟨t, ht, -⟩ := hy c q
    rw [ht] at h
    cases h
theorem ab_ltA (hy : ab_layok lay N) {c t : Nat} (h : lay c = .inr t) (h3 : t < 3) : c < N := by
  rcases Nat.lt_or_ge c N with q | q
  · exact q
  · obtain ⟨t', ht, h4⟩ := hy c q
    rw [ht] at h
    cases h
    omega
theorem ok_get {M pc ci j idx : Nat} {Cn ref : String} {T : u_T} {NF : Nat} {uw : List Cond} (hy : ab_layok lay N) (hM : i_w I M = Cond.code (i_y I M) (i_c I M) (i_n I M) (i_r I M) :: uw) (hd : decode (i_c I M) pc = .ok (.getfield idx, 3)) (hcl : cl[ci]? = some (Cn, T, NF)) (hin0 : ∀ w ∈ u_ws Cn T NF, w ∈ uw) (hj : j < NF) (hlink0 : Cond.fieldLink (i_y I M).cls idx ref (T j).2.1 (T j).2.2.1 ∈ uw) (hr : (T j).1 = ref) : ab_Ok l I lay N mv cl D cy adS X M pc (o_get lay ci j (pc + 3)) := by
  intro p e s m args below meth c A B ad0 Q F K C hK hC ls st μ b h ad arr H locs cells slots hn hl hP hD hS ha hs hc1 hc2
  obtain ⟨hx, hb, -, -, hown, hts, -, -, hKs, -⟩ := F
  have hin : ∀ w ∈ u_ws Cn T NF, w ∈ i_w I M := fun w hw => by rw [hM]; exact List.mem_cons_of_mem _ (hin0 w hw)
  have hlink : Cond.fieldLink (i_y I M).cls idx ref (T j).2.1 (T j).2.2.1 ∈ i_w I M := by rw [hM]; exact List.mem_cons_of_mem _ hlink0
  unfold o_get at h
  split at h
  · next k r =>
    split at h
    · next o ho =>
      cases hz : Nat.beq o.1 ci with
      | false => rw [hz] at h; exact h.elim
      | true =>
        rw [hz] at h
        have hz := Nat.eq_of_beq_eq_true hz
        have he := ab_W_at (lay := lay) (cy := cy) (ad := ad) (μ := μ) (ab_ltN hy ho)
        rw [ab_E, ho] at he
        dsimp only at he
        rw [hz] at he
        change (match o.2[j]? with
          | some none => K (pc + 3) ls (.inl (μ.1 k j) :: r) μ b
          | some (some k) => K (pc + 3) ls (.inr k :: r) μ b
          | none => False) at h
        split at h
        · next hf =>
          exact va_get (D := D) hx hb hts hin hown hKs hP k he hcl j hj (hts _ hlink) (fun x hx => by rw [← hr]; exact hx) (ab_f_int hf) hd (hK _ _ _ _ _ h ad arr H locs cells slots hn hl hP hD hS ha hs hc1 hc2)
        · next k2 hf =>
          exact va_get (D := D) hx hb hts hin hown hKs hP k he hcl j hj (hts _ hlink) (fun x hx => by rw [← hr]; exact hx) (ab_f_ref hf) hd (hK _ _ _ _ _ h ad arr H locs cells slots hn hl hP hD hS ha hs hc1 hc2)
        · exact h.elim
    · exact h.elim
  · exact h.elim
theorem ok_put {M pc ci j idx : Nat} {z : Bool} {Cn ref : String} {T : u_T} {NF : Nat} (ty0 : Nat → FieldType) (hty : ∀ k, k < NF → parseFieldDescriptor (T k).2.2.1 = some (ty0 k)) (hnm : ∀ a, a < NF → ∀ b, b < NF → a ≠ b → (T a).2.1 ≠ (T b).2.1) {uw : List Cond} (hy : ab_layok lay N) (hM : i_w I M = Cond.code (i_y I M) (i_c I M) (i_n I M) (i_r I M) :: uw) (hd : decode (i_c I M) pc = .ok (.putfield idx, 3)) (hcl : cl[ci]? = some (Cn, T, NF)) (hin0 : ∀ w ∈ u_ws Cn T NF, w ∈ uw) (hj : j < NF) (hlink0 : Cond.fieldLink (i_y I M).cls idx ref (T j).2.1 (T j).2.2.1 ∈ uw) (hr : (T j).1 = ref) (hfin : (T j).2.2.2 = false) (ht : ty0 j = if z then FieldType.boolean else FieldType.int) : ab_Ok l I lay N mv cl D cy adS X M pc (o_put lay z ci j (pc + 3)) := by
  intro p e s m args below meth c A B ad0 Q F K C hK hC ls st μ b h ad arr H locs cells slots hn hl hP hD hS ha hs hc1 hc2
  obtain ⟨hx, hb, -, -, hown, hts, -, -, hKs, -⟩ := F
  have hin : ∀ w ∈ u_ws Cn T NF, w ∈ i_w I M := fun w hw => by rw [hM]; exact List.mem_cons_of_mem _ (hin0 w hw)
  have hlink : Cond.fieldLink (i_y I M).cls idx ref (T j).2.1 (T j).2.2.1 ∈ i_w I M := by rw [hM]; exact List.mem_cons_of_mem _ hlink0
  unfold o_put at h
  split at h
  · next v k r =>
    split at h
    · next o ho =>
      cases hz : Nat.beq o.1 ci with
      | false => rw [hz] at h; exact h.elim
      | true =>
        rw [hz] at h
        have hz := Nat.eq_of_beq_eq_true hz
        have hk := ab_ltN hy ho
        have he := ab_W_at (lay := lay) (cy := cy) (ad := ad) (μ := μ) hk
        rw [ab_E, ho] at he
        dsimp only at he
        rw [hz] at he
        change (match o.2[j]? with
          | some none => cond z ((v = 0 ∨ v = 1) ∧ K (pc + 3) ls r (ab_up μ k j v) b) (K (pc + 3) ls r (ab_up μ k j v) b)
          | _ => False) at h
        split at h
        · next hf =>
          have hK2 : K (pc + 3) ls r (ab_up μ k j v) b := by
            cases z
            · exact h
            · exact h.2
          have hn2 : narrow (if z then FieldType.boolean else FieldType.int) (.int v) = .int v ∧ fits (if z then FieldType.boolean else FieldType.int) (.int v) = true := by
            cases z
            · exact ⟨rfl, rfl⟩
            · rcases h.1 with rfl | rfl
              · exact ⟨by decide, by decide⟩
              · exact ⟨by decide, by decide⟩
          have es : (ab_W lay N cy ad μ).set k (ad k, .inr (ci, (ab_f ad (μ.1 k) o.2).set j (.int v))) = ab_W lay N cy ad (ab_up μ k j v) := by
            refine ab_W_set hk ?_ (fun i hi => ab_E_ne hi)
            rw [ab_E, ho]
            dsimp only
            rw [hz, ab_up_eq, ab_f_set hf]
          refine va_put (D := D) (v := .int v) (ty := if z then FieldType.boolean else FieldType.int) hx hb hts hin ty0 hty hnm hown hKs hP hD hS k he hcl j hj (hts _ hlink) (fun x hx => by rw [← hr]; exact hx) hfin (by rw [← ht]; exact hty j hj) hn2.1 hn2.2 (by unfold ab_f; rw [List.length_mapIdx]; exact (List.getElem?_eq_some_iff.mp hf).1) hd (fun H1 locs1 hP1 hD1 hS1 => ?_)
          rw [es] at hP1 hD1
          exact hK _ _ _ _ _ hK2 ad arr H1 locs1 cells slots hn hl hP1 hD1 hS1 ha hs hc1 hc2
        · exact h.elim
    · exact h.elim
  · exact h.elim
theorem ok_iald {M pc : Nat} (hy : ab_layok lay N) (hd : decode (i_c I M) pc = .ok (.iaload, 1)) : ab_Ok l I lay N mv cl D cy adS X M pc (o_ald lay (fun t => Nat.beq t 0) (pc + 1)) := by
  intro p e s m args below meth c A B ad0 Q F K C hK hC ls st μ b h ad arr H locs cells slots hn hl hP hD hS ha hs hc1 hc2
  obtain ⟨hx, hb, -, -, hown, hts, -, -, hKs, -⟩ := F
  unfold o_ald at h
  split at h
  · next i k r =>
    split at h
    · next t ho =>
      match t, ho, h with
      | 0, ho, h =>
        have he := ab_W_at (lay := lay) (cy := cy) (ad := ad) (μ := μ) (ab_ltA hy ho (by decide))
        rw [ab_E, ho] at he
        exact va_iald (D := D) hx hb hKs hP k 0 he rfl h.1 hd (hK _ _ _ _ _ h.2 ad arr H locs cells slots hn hl hP hD hS ha hs hc1 hc2)
      | _ + 1, _, h => exact h.elim
    · exact h.elim
  · exact h.elim
theorem ok_bald {M pc : Nat} (hy : ab_layok lay N) (hd : decode (i_c I M) pc = .ok (.baload, 1)) : ab_Ok l I lay N mv cl D cy adS X M pc (o_ald lay (fun t => Nat.beq t 1 || Nat.beq t 2) (pc + 1)) := by
  intro p e s m args below meth c A B ad0 Q F K C hK hC ls st μ b h ad arr H locs cells slots hn hl hP hD hS ha hs hc1 hc2
  obtain ⟨hx, hb, -, -, hown, hts, -, -, hKs, -⟩ := F
  unfold o_ald at h
  split at h
  · next i k r =>
    split at h
    · next t ho =>
      match t, ho, h with
      | 0, ho, h => exact h.elim
      | 1, ho, h =>
        have he := ab_W_at (lay := lay) (cy := cy) (ad := ad) (μ := μ) (ab_ltA hy ho (by decide))
        rw [ab_E, ho] at he
        exact va_zald (D := D) hx hb hKs hP k 1 he rfl h.1 hd (hK _ _ _ _ _ h.2 ad arr H locs cells slots hn hl hP hD hS ha hs hc1 hc2)
      | 2, ho, h =>
        have he := ab_W_at (lay := lay) (cy := cy) (ad := ad) (μ := μ) (ab_ltA hy ho (by decide))
        rw [ab_E, ho] at he
        exact va_bald (D := D) hx hb hKs hP k 2 he rfl h.1 hd (hK _ _ _ _ _ h.2 ad arr H locs cells slots hn hl hP hD hS ha hs hc1 hc2)
      | _ + 3, _, h => exact h.elim
    · exact h.elim
  · exact h.elim
theorem ab_sto_set {k t : Nat} {μ : ab_S} {ad : Nat → Nat} {j : Nat} {x : Int32} (hk : k < N) (ho : lay k = .inr t) : (ab_W lay N cy ad μ).set k (ad k, .inl (cy t, μ.2 k, .inl (upd (μ.1 k) j x))) = ab_W lay N cy ad (ab_up μ k j x) := by
  refine ab_W_set hk ?_ (fun i hi => ab_E_ne hi)
  rw [ab_E, ho]
  dsimp only
  rw [ab_up_eq]
  rfl
theorem ok_iast {M pc : Nat} (hy : ab_layok lay N) (hd : decode (i_c I M) pc = .ok (.iastore, 1)) : ab_Ok l I lay N mv cl D cy adS X M pc (o_ast lay (fun t => Nat.beq t 0) (pc + 1)) := by
  intro p e s m args below meth c A B ad0 Q F K C hK hC ls st μ b h ad arr H locs cells slots hn hl hP hD hS ha hs hc1 hc2
  obtain ⟨hx, hb, -, -, hown, hts, -, -, hKs, -⟩ := F
  unfold o_ast at h
  split at h
  · next v i k r =>
    split at h
    · next t ho =>
      match t, ho, h with
      | 0, ho, h =>
        have hk := ab_ltA hy ho (by decide)
        have he := ab_W_at (lay := lay) (cy := cy) (ad := ad) (μ := μ) hk
        rw [ab_E, ho] at he
        refine va_iast (D := D) hx hb hKs hP hD hS k 0 he rfl h.1 hd (fun H1 locs1 hP1 hD1 hS1 => ?_)
        rw [ab_sto_set hk ho] at hP1 hD1
        exact hK _ _ _ _ _ h.2 ad arr H1 locs1 cells slots hn hl hP1 hD1 hS1 ha hs hc1 hc2
      | _ + 1, _, h => exact h.elim
    · exact h.elim
  · exact h.elim
theorem ok_bast {M pc : Nat} (hy : ab_layok lay N) (hd : decode (i_c I M) pc = .ok (.bastore, 1)) : ab_Ok l I lay N mv cl D cy adS X M pc (o_ast lay (fun t => Nat.beq t 1 || Nat.beq t 2) (pc + 1)) := by
  intro p e s m args below meth c A B ad0 Q F K C hK hC ls st μ b h ad arr H locs cells slots hn hl hP hD hS ha hs hc1 hc2
  obtain ⟨hx, hb, -, -, hown, hts, -, -, hKs, -⟩ := F
  unfold o_ast at h
  split at h
  · next v i k r =>
    split at h
    · next t ho =>
      match t, ho, h with
      | 0, ho, h => exact h.elim
      | 1, ho, h =>
        have hk := ab_ltA hy ho (by decide)
        have he := ab_W_at (lay := lay) (cy := cy) (ad := ad) (μ := μ) hk
        rw [ab_E, ho] at he
        refine va_zast (D := D) hx hb hKs hP hD hS k 1 he rfl h.1 hd (fun H1 locs1 hP1 hD1 hS1 => ?_)
        rw [ab_sto_set hk ho] at hP1 hD1
        exact hK _ _ _ _ _ h.2 ad arr H1 locs1 cells slots hn hl hP1 hD1 hS1 ha hs hc1 hc2
      | 2, ho, h =>
        have hk := ab_ltA hy ho (by decide)
        have he := ab_W_at (lay := lay) (cy := cy) (ad := ad) (μ := μ) hk
        rw [ab_E, ho] at he
        refine va_bast (D := D) hx hb hKs hP hD hS k 2 he rfl h.1 hd (fun H1 locs1 hP1 hD1 hS1 => ?_)
        rw [ab_sto_set hk ho] at hP1 hD1
        exact hK _ _ _ _ _ h.2 ad arr H1 locs1 cells slots hn hl hP1 hD1 hS1 ha hs hc1 hc2
      | _ + 3, _, h => exact h.elim
    · exact h.elim
  · exact h.elim
theorem ok_alen {M pc : Nat} (hy : ab_layok lay N) (hd : decode (i_c I M) pc = .ok (.arraylength, 1)) : ab_Ok l I lay N mv cl D cy adS X M pc (o_alen lay (pc + 1)) := by
  intro p e s m args below meth c A B ad0 Q F K C hK hC ls st μ b h ad arr H locs cells slots hn hl hP hD hS ha hs hc1 hc2
  obtain ⟨hx, hb, -, -, hown, hts, -, -, hKs, -⟩ := F
  unfold o_alen at h
  split at h
  · next k r =>
    split at h
    · next t ho =>
      match t, ho, h with
      | 0, ho, h =>
        have he := ab_W_at (lay := lay) (cy := cy) (ad := ad) (μ := μ) (ab_ltA hy ho (by decide))
        rw [ab_E, ho] at he
        exact va_alen (D := D) hx hb hKs hP k 0 he rfl rfl hd (hK _ _ _ _ _ h ad arr H locs cells slots hn hl hP hD hS ha hs hc1 hc2)
      | 1, ho, h =>
        have he := ab_W_at (lay := lay) (cy := cy) (ad := ad) (μ := μ) (ab_ltA hy ho (by decide))
        rw [ab_E, ho] at he
        exact va_alen (D := D) hx hb hKs hP k 1 he rfl rfl hd (hK _ _ _ _ _ h ad arr H locs cells slots hn hl hP hD hS ha hs hc1 hc2)
      | 2, ho, h =>
        have he := ab_W_at (lay := lay) (cy := cy) (ad := ad) (μ := μ) (ab_ltA hy ho (by decide))
        rw [ab_E, ho] at he
        exact va_alen (D := D) hx hb hKs hP k 2 he rfl rfl hd (hK _ _ _ _ _ h ad arr H locs cells slots hn hl hP hD hS ha hs hc1 hc2)
      | _ + 3, _, h => exact h.elim
    · exact h.elim
  · exact h.elim
theorem ab_sw_get {Kt : Nat → Prop} {x : Int32} : ∀ (ts : List Nat) (lo : Int) (i t : Nat), ab_sw Kt x lo ts → ts[i]? = some t → x.toInt = lo + i → Kt t
  | [], _, _, _, _, h, _ => by simp at h
  | a :: ts, lo, 0, t, hs, h, hx => by
    simp at h
    subst h
    exact hs.1 (by simpa using hx)
  | a :: ts, lo, i + 1, t, hs, h, hx => by
    simp at h
    exact ab_sw_get ts (lo + 1) i t hs.2 h (by rw [hx]; push_cast; omega)
theorem ok_sw {M pc len d : Nat} {lo hi dflt : Int} {offs : Array Int} {ts : List Nat} (hd : decode (i_c I M) pc = .ok (.tableswitch dflt lo hi offs, len)) (hdd : (pc : Int) + dflt = (d : Int)) (hts : ts.map (fun t : Nat => (t : Int) - (pc : Int)) = offs.toList) (hlen : hi = lo + (ts.length : Int) - 1) : ab_Ok l I lay N mv cl D cy adS X M pc (o_sw lo hi ts d) := by
  intro p e s m args below meth c A B ad0 Q F K C hK hC ls st μ b h ad arr H locs cells slots hn hl hP hD hS ha hs hc1 hc2
  unfold o_sw at h
  split at h
  · next x r =>
    by_cases h1 : x.toInt < lo ∨ hi < x.toInt
    · exact lv_tableOut F.1 F.2.1 hd h1 hdd (hK _ _ _ _ _ (h.2 h1) ad arr H locs cells slots hn hl hP hD hS ha hs hc1 hc2)
    · have h2 : ¬ x.toInt < lo := fun q => h1 (Or.inl q)
      have h3 : ¬ hi < x.toInt := fun q => h1 (Or.inr q)
      have hi2 : (x.toInt - lo).toNat < ts.length := by omega
      have ho : offs[(x.toInt - lo).toNat]? = some ((ts[(x.toInt - lo).toNat] : Int) - (pc : Int)) := by
        rw [← Array.getElem?_toList, ← hts, List.getElem?_map, List.getElem?_eq_getElem hi2]
        rfl
      refine lv_tableIn (tgt := ts[(x.toInt - lo).toNat]) F.1 F.2.1 hd h2 h3 ho (by omega) (hK _ _ _ _ _ ?_ ad arr H locs cells slots hn hl hP hD hS ha hs hc1 hc2)
      exact ab_sw_get ts lo (x.toInt - lo).toNat _ h.1 (List.getElem?_eq_getElem hi2) (by omega)
  · exact h.elim
theorem ok_ret {M pc : Nat} {z : Bool} (hd : decode (i_c I M) pc = .ok (.ireturn, 1)) (hr : i_r I M = some (if z then FieldType.boolean else FieldType.int)) : ab_Ok l I lay N mv cl D cy adS X M pc (o_ret z) := by
  intro p e s m args below meth c A B ad0 Q F K C hK hC ls st μ b h ad arr H locs cells slots hn hl hP hD hS ha hs hc1 hc2
  obtain ⟨hx, hb, hret, -, hown, hts, hlocks, -, hKs, -⟩ := F
  unfold o_ret at h
  split at h
  · next v =>
    have hq : Q (some v) μ := by
      cases z
      · exact h
      · exact h.2
    have hn2 : narrow (if z then FieldType.boolean else FieldType.int) (.int v) = .int v := by
      cases z
      · rfl
      · rcases h.1 with rfl | rfl
        · decide
        · decide
    refine W.widen (k := B.1) (n := B.2) (by omega) (by omega) ?_
    rw [hr]
    exact W.zret hx hb (by rw [hret, hr]) hn2 (fun t ht hW => ⟨⟨v, (μ, ad), rfl, hq, ha, by rw [ht]; exact hP, va_K.moved hW.alike hKs, hD⟩, hS.F ht⟩) hS.2.2 hd
  · exact h.elim
theorem ok_vret {M pc : Nat} (hd : decode (i_c I M) pc = .ok (.return_, 1)) (hr : i_r I M = none) : ab_Ok l I lay N mv cl D cy adS X M pc o_vret := by
  intro p e s m args below meth c A B ad0 Q F K C hK hC ls st μ b h ad arr H locs cells slots hn hl hP hD hS ha hs hc1 hc2
  obtain ⟨hx, hb, hret, -, hown, hts, hlocks, -, hKs, -⟩ := F
  unfold o_vret at h
  split at h
  · refine W.widen (k := B.1) (n := B.2) (by omega) (by omega) ?_
    rw [hr]
    exact W.vret hx hb (by rw [hret, hr]) (fun t ht hW => ⟨⟨(μ, ad), rfl, h, ha, by rw [ht]; exact hP, va_K.moved hW.alike hKs, hD⟩, hS.F ht⟩) hS.2.2 hd
  · exact h.elim
-- calls
theorem ab_free {A : Nat → Prop} {ws : va_W} {H0 H : Heap} {locs : List Loc} (hD : va_D A ws) (hS : va_S A H0 H locs) (hA : ∀ q, H0.size ≤ q → A q) : ∀ q, va_A ws H.size q → A q := by
  intro q h
  rcases h with ⟨k, e, h⟩ | h
  · exact hD.2 k (q, e) h
  · exact hA q (Nat.le_trans hS.1 h)
theorem ab_blind (hX : ab_Xok X) {as : List ab_V} {ad : Nat → Nat} {μ : ab_S} {sz : Nat} : FrameBlind (ab_Pre lay N cl D cy X as ad μ sz) := by
  intro a U g mk q
  obtain ⟨q0, q1, qP, qK, qD, qX⟩ := q
  exact ⟨q0, q1, qP, va_K.moved (u := U) (U := U.calling g mk a) (Vm.Alike.refl U.vm) qK, qD, hX.2 qX⟩
theorem ab_pre (hX : ab_Xok X) {as : List ab_V} {ad : Nat → Nat} {μ : ab_S} {A : Nat → Prop} {s U : State} {H : Heap} {locs : List Loc} (hXs : X A s) (hA : ∀ q, s.heap.size ≤ q → A q) (hKs : va_K D cl (ab_tys cy) s) (hP : va_P D cl (ab_W lay N cy ad μ) H) (hD : va_D A (ab_W lay N cy ad μ)) (hS : va_S A s.heap H locs) (hU : U.heap = H) (hW : s.WarmedH U.vm) : ab_Pre lay N cl D cy X as ad μ H.size (as.map (ab_cv ad)).toArray U := by
  refine ⟨rfl, by rw [hU], by rw [hU]; exact hP, va_K.moved hW.alike hKs, hD.weaken (fun _ _ _ _ => trivial), ?_⟩
  exact hX.1 hXs hS (ab_free hD hS hA) hU hW
/-- behind a call -/
theorem ab_after (hmv : ∀ k, N ≤ k → mv k = false) {M M' pc : Nat} {p : Program} {e : Env} {s : State} {m : MethodId} {args : Array Value} {below : List Frame} {meth : Method} {c : Code} {A : Nat → Prop} {B : ab_B} {ad0 : Nat → Nat} {Q Q' : ab_Q} (hA : ∀ q, s.heap.size ≤ q → A q) {K : ab_K} (hK : ∀ pc ls st μ b, K pc ls st μ b → ab_G l I lay N mv cl D cy adS M p e s m args below meth c A B ad0 Q pc ls st μ b)
    {ls : ab_L} {rest : List ab_V} {μ : ab_S} {b1 b2 : ab_B} {ad : Nat → Nat} {arr : Array Slot} {H : Heap} {locs : List Loc} {cells slots : Nat} {st0 : List Value} {aa : Array Value}
    (hr : va_Run p l e (ab_rm I M B) s m args below meth c H locs cells slots b1.1 b1.2 (F0 m pc arr st0) (rest.map (ab_cv ad)) (ab_Qc lay N mv cl D cy (i_r I M') ad (va_A (ab_W lay N cy ad μ) H.size) Q' aa) (va_A (ab_W lay N cy ad μ) H.size))
    (hQ : ∀ r μ', Q' r μ' → K (pc + 3) ls (ab_res r rest) μ' b2) (hm1 : ab_nm mv ls = true) (hm2 : ab_nmS mv rest = true) (hn : ls.length = i_n I M) (hl : lv_has arr (i_n I M) (ab_lv ad ls)) (hD : va_D A (ab_W lay N cy ad μ)) (hS : va_S A s.heap H locs) (ha : ∀ k, mv k = false → ad k = ad0 k) (hs : ∀ k, N ≤ k → ad k = adS k) (h1 : cells + b1.1 + b2.1 ≤ B.1) (h2 : slots + b1.2 + b2.2 ≤ B.2) :
    W p l e (ab_rm I M B) s m args below meth c H locs cells slots (MQ below (ab_Qc lay N mv cl D cy (i_r I M) ad0 A Q) args s B.1 B.2 A) (F0 m pc arr st0) := by
  have hF := ab_free hD hS hA
  have fin : ∀ (r : Option Int32) (u : ab_S × (Nat → Nat)) (t : State) (H1 : Heap) (locs1 : List Loc), t.heap = H1 → Q' r u.1 → ab_In lay N mv cl D cy ad (va_A (ab_W lay N cy ad μ) H.size) u t → va_S A s.heap H1 locs1 → W p l e (ab_rm I M B) s m args below meth c H1 locs1 (cells + b1.1) (slots + b1.2) (MQ below (ab_Qc lay N mv cl D cy (i_r I M) ad0 A Q) args s B.1 B.2 A) (F0 m (pc + 3) arr ((ab_res r rest).map (ab_cv ad))) := by
    intro r u t H1 locs1 ht hw hB hS1
    obtain ⟨g1, g2, g3, g4⟩ := hB
    rw [ht] at g2
    have hz : ab_nmS mv (ab_res r rest) = true := by
      cases r with
      | none => exact hm2
      | some x =>
        unfold ab_nmS at hm2 ⊢
        simp only [ab_res, List.all_cons, Bool.true_and]
        exact hm2
    have e1 := ab_nm_st hz g1
    rw [← e1]
    exact hK _ _ _ _ _ (hQ r u.1 hw) u.2 arr H1 locs1 (cells + b1.1) (slots + b1.2) hn (ab_lv_sub hl (ab_nm_lv hm1 g1)) g2 (g4.weaken (fun _ q _ h => hF q.1 h)) hS1 (fun k hk => (g1 k hk).trans (ha k hk)) (fun k hk => (g1 k (hmv k hk)).trans (hs k hk)) h1 h2
  generalize i_r I M' = rt at hr
  cases rt with
  | none => exact va_callv (a := aa) hr hS (fun q _ h => hF q h) hF (fun u t H1 locs1 ht hvm hw hB _ _ hS1 => fin none u t H1 locs1 ht hw hB hS1)
  | some ty => exact va_calli (a := aa) hr hS (fun q _ h => hF q h) hF (fun r u t H1 locs1 ht hvm hw hB _ _ hS1 => fin (some r) u t H1 locs1 ht hw hB hS1)
def ab_Iok (I : ab_I) (uw : List Cond) (M : Nat) : Prop := i_w I M = Cond.code (i_y I M) (i_c I M) (i_n I M) (i_r I M) :: uw ∧ plainName (i_y I M).cls = true ∧ ((i_y I M).cls ≠ "java/lang/invoke/MethodHandle" ∧ (i_y I M).cls ≠ "java/lang/invoke/VarHandle") ∧ Cond.code (i_y I M) (i_c I M) (i_n I M) (i_r I M) ∈ uw ∧ Cond.initialized (i_y I M).cls ∈ uw
theorem ab_good {uw ws big : List Cond} {w : Cond} (hu : ∀ w ∈ uw, goodWord w = true) (hb : ∀ w ∈ uw, w ∈ big) (hw : w ∈ uw) (he : ws = w :: uw) : GoodIn big ws := by
  intro z hz
  rw [he] at hz
  rcases List.mem_cons.mp hz with rfl | hz
  · exact ⟨hb _ hw, good_of_word (hu _ hw)⟩
  · exact ⟨hb _ hz, good_of_word (hu _ hz)⟩
theorem ab_take {ad : Nat → Nat} {st : List ab_V} {n : Nat} (h : n ≤ st.length) : st.map (ab_cv ad) = (((st.take n).reverse).map (ab_cv ad)).reverse ++ (st.drop n).map (ab_cv ad) := by
  rw [← List.map_reverse, List.reverse_reverse, ← List.map_append, List.take_append_drop]
theorem ab_CallB {uw : List Cond} (hu : ∀ w ∈ uw, goodWord w = true) {M M' idx n : Nat} {b1 B : ab_B} {s : State} {args : Array Value} (hts : ∀ w ∈ i_w I M, w.before args s = true) (hM : ab_Iok I uw M) (hM' : ab_Iok I uw M') (hlink : Cond.methodLink (i_y I M).cls idx (i_y I M') ∈ uw) (hpar : (parseMethodDescriptor (i_y I M').desc).map (fun d => d.parameters.length) = some n) (hfr : i_f I M' + 1 ≤ i_f I M) (hlo : 8 + (i_n I M' + 11) + i_l I M' ≤ i_l I M) : CallB (ab_rm I M B) s args (i_y I M).cls idx (i_y I M') (i_c I M') (i_n I M') (i_r I M') (i_w I M') (ab_rm I M' b1) b1.1 b1.2 n := by
  have hin : ∀ w ∈ uw, w ∈ i_w I M := fun w hw => by rw [hM.1]; exact List.mem_cons_of_mem _ hw
  exact callB_of n hts (ab_good hu hin hM'.2.2.2.1 hM'.1) hM'.1 rfl rfl (hts _ (hin _ hM'.2.2.2.2)) (hts _ (hin _ hlink)) ⟨hM'.2.2.1.1, hM'.2.2.1.2, hpar⟩ ⟨hfr, hlo⟩
theorem ok_callS {uw : List Cond} (hu : ∀ w ∈ uw, goodWord w = true) (hX : ab_Xok X) (hmv : ∀ k, N ≤ k → mv k = false) {M M' pc n idx : Nat} (hM : ab_Iok I uw M) (hM' : ab_Iok I uw M') (hd : decode (i_c I M) pc = .ok (.invokestatic idx, 3)) (hlink : Cond.methodLink (i_y I M).cls idx (i_y I M') ∈ uw) (hstat : Cond.static (i_y I M') ∈ uw) (hpar : (parseMethodDescriptor (i_y I M').desc).map (fun d => d.parameters.length) = some n) (hnl : n ≤ i_n I M') (hfr : i_f I M' + 1 ≤ i_f I M) (hlo : 8 + (i_n I M' + 11) + i_l I M' ≤ i_l I M) : ab_Ok l I lay N mv cl D cy adS X M pc (o_callS mv M' n (pc + 3)) := by
  intro p e s m args below meth c A B ad0 Q F K C hK hC ls st μ b h ad arr H locs cells slots hn hl hP hD hS ha hs hc1 hc2
  obtain ⟨hx, hb, -, hml, hown, hts, -, hA, hKs, hXs⟩ := F
  unfold o_callS at h
  cases hz : (Nat.ble n st.length && ab_nm mv ls && ab_nmS mv (st.drop n) && Nat.ble (st.drop n).length 8) with
  | false => rw [hz] at h; exact h.elim
  | true =>
    rw [hz] at h
    simp only [Bool.and_eq_true] at hz
    obtain ⟨⟨⟨z1, z2⟩, z3⟩, z4⟩ := hz
    have z1 := Nat.le_of_ble_eq_true z1
    have z4 := Nat.le_of_ble_eq_true z4
    have hin : ∀ w ∈ uw, w ∈ i_w I M := fun w hw => by rw [hM.1]; exact List.mem_cons_of_mem _ hw
    have hmet := hC _ _ _ _ _ h (by rw [List.length_reverse, List.length_take]; omega) ad H.size hs
    have hrun := va_runS (meth := meth) (rest := (st.drop n).map (ab_cv ad)) (As := ((st.take n).reverse).map (ab_cv ad)) (cells := cells) (slots := slots) (g := F0 m pc arr (st.map (ab_cv ad))) (locs := locs) (below := below) (e := e) (R := ab_rm I M B) (n := n) ⟨hx, hb, hml, hown, hts⟩ hmet ⟨ab_CallB hu hts hM hM' hlink hpar hfr hlo, hts _ (hin _ hstat)⟩ ⟨ab_blind hX, fun U hU hW => ab_pre hX hXs hA hKs hP hD hS hU hW⟩ rfl (by rw [List.length_map, List.length_reverse, List.length_take]; omega) hl.1 (ab_take z1) (lv_room (by rw [ab_sum]; exact z4)) hd ⟨by show cells + 0 ≤ B.1; omega, by show slots + 0 ≤ B.2; omega⟩
    exact ab_after hmv hA hK hrun (fun r μ' q => q) z2 z3 hn hl hD hS ha hs (by show cells + 0 + b.1 ≤ B.1; omega) (by show slots + 0 + b.2 ≤ B.2; omega)
theorem ok_callN {uw : List Cond} {host : String} (hu : ∀ w ∈ uw, goodWord w = true) (hX : ab_Xok X) (hmv : ∀ k, N ≤ k → mv k = false) {M M' pc n idx : Nat} (hM : ab_Iok I uw M) (hM' : ab_Iok I uw M') (hd : decode (i_c I M) pc = .ok (.invokestatic idx, 3)) (hlink : ∀ A U, X A U → va_Nw (.methodLinkNest (i_y I M).cls idx (i_y I M') host) U) (hstat : Cond.static (i_y I M') ∈ uw) (hpar : (parseMethodDescriptor (i_y I M').desc).map (fun d => d.parameters.length) = some n) (hnl : n ≤ i_n I M') (hfr : i_f I M' + 1 ≤ i_f I M) (hlo : 8 + (i_n I M' + 11) + i_l I M' ≤ i_l I M) : ab_Ok l I lay N mv cl D cy adS X M pc (o_callS mv M' n (pc + 3)) := by
  intro p e s m args below meth c A B ad0 Q F K C hK hC ls st μ b h ad arr H locs cells slots hn hl hP hD hS ha hs hc1 hc2
  obtain ⟨hx, hb, -, hml, hown, hts, -, hA, hKs, hXs⟩ := F
  unfold o_callS at h
  cases hz : (Nat.ble n st.length && ab_nm mv ls && ab_nmS mv (st.drop n) && Nat.ble (st.drop n).length 8) with
  | false => rw [hz] at h; exact h.elim
  | true =>
    rw [hz] at h
    simp only [Bool.and_eq_true] at hz
    obtain ⟨⟨⟨z1, z2⟩, z3⟩, z4⟩ := hz
    have z1 := Nat.le_of_ble_eq_true z1
    have z4 := Nat.le_of_ble_eq_true z4
    have hin : ∀ w ∈ uw, w ∈ i_w I M := fun w hw => by rw [hM.1]; exact List.mem_cons_of_mem _ hw
    have hmet := hC _ _ _ _ _ h (by rw [List.length_reverse, List.length_take]; omega) ad H.size hs
    have hcn := va_cnB (R := ab_rm I M B) (rm := ab_rm I M' (0, 0)) (mc := 0) (ms := 0) n hts (ab_good hu hin hM'.2.2.2.1 hM'.1) hM'.1 rfl rfl (hlink A s hXs) (hts _ (hin _ hM'.2.2.2.2)) ⟨hM'.2.2.1.1, hM'.2.2.1.2, hpar⟩ ⟨hfr, hlo⟩
    have hrun := va_runSN (meth := meth) (rest := (st.drop n).map (ab_cv ad)) (As := ((st.take n).reverse).map (ab_cv ad)) (cells := cells) (slots := slots) (g := F0 m pc arr (st.map (ab_cv ad))) (locs := locs) (below := below) (e := e) (R := ab_rm I M B) (n := n) ⟨hx, hb, hml, hown, hts⟩ hmet ⟨hcn, hts _ (hin _ hstat), trivial⟩ ⟨ab_blind hX, fun U hU hW => ab_pre hX hXs hA hKs hP hD hS hU hW⟩ rfl (by rw [List.length_map, List.length_reverse, List.length_take]; omega) hl.1 (ab_take z1) (lv_room (by rw [ab_sum]; exact z4)) hd ⟨by show cells + 0 ≤ B.1; omega, by show slots + 0 ≤ B.2; omega⟩
    exact ab_after hmv hA hK hrun (fun r μ' q => q) z2 z3 hn hl hD hS ha hs (by show cells + 0 + b.1 ≤ B.1; omega) (by show slots + 0 + b.2 ≤ B.2; omega)
/-- the virtual call, with any room for its cells -/
theorem ab_virt {uw : List Cond} (hu : ∀ w ∈ uw, goodWord w = true) (hX : ab_Xok X) (hmv : ∀ k, N ≤ k → mv k = false) (hy : ab_layok lay N) {M M' pc n idx ci : Nat} {Cn : String} {T : u_T} {NF : Nat} (hM : ab_Iok I uw M) (hM' : ab_Iok I uw M') (hd : decode (i_c I M) pc = .ok (.invokevirtual idx, 3)) (hcl : cl[ci]? = some (Cn, T, NF)) (hC0 : (i_y I M').cls = Cn) (hlink : Cond.methodLink (i_y I M).cls idx (i_y I M') ∈ uw) (hins : Cond.instanceMethod (i_y I M') ∈ uw) (hsel : Cond.selects Cn (i_y I M') (i_y I M') ∈ uw) (hpar : (parseMethodDescriptor (i_y I M').desc).map (fun d => d.parameters.length) = some n) (hnl : n + 1 ≤ i_n I M') (hfr : i_f I M' + 1 ≤ i_f I M) (hlo : 8 + (i_n I M' + 11) + i_l I M' ≤ i_l I M)
    {p : Program} {e : Env} {s : State} {m : MethodId} {args : Array Value} {below : List Frame} {meth : Method} {c : Code} {A : Nat → Prop} {B : ab_B} {ad0 : Nat → Nat} {Q : ab_Q} (F : ab_F I cl D cy X M p s m args meth c A) {K : ab_K} (hK : ∀ pc ls st μ b, K pc ls st μ b → ab_G l I lay N mv cl D cy adS M p e s m args below meth c A B ad0 Q pc ls st μ b)
    {ls : ab_L} {st r : List ab_V} {k : Nat} {o : Nat × List (Option Nat)} {μ : ab_S} {b b1 b2 : ab_B} (hst : st.drop n = .inr k :: r) (hlk : lay k = .inl o) (hci : o.1 = ci) {Q' : ab_Q} (hmet : ab_Met l I lay N mv cl D cy adS X M' (.inr k :: (st.take n).reverse) μ b1 Q') (hQ : ∀ v μ', Q' v μ' → K (pc + 3) ls (ab_res v r) μ' b2) (z2 : ab_nm mv ls = true) (z3 : ab_nmS mv r = true) (z4 : r.length ≤ 8) (hb1 : b1.1 + b2.1 ≤ b.1) (hb2 : b1.2 + b2.2 ≤ b.2) : ab_G l I lay N mv cl D cy adS M p e s m args below meth c A B ad0 Q pc ls st μ b := by
  intro ad arr H locs cells slots hn hl hP hD hS ha hs hc1 hc2
  obtain ⟨hx, hb, -, hml, hown, hts, -, hA, hKs, hXs⟩ := F
  have hin : ∀ w ∈ uw, w ∈ i_w I M := fun w hw => by rw [hM.1]; exact List.mem_cons_of_mem _ hw
  have hlen : n ≤ st.length := by
    have h1 := congrArg List.length hst
    rw [List.length_drop, List.length_cons] at h1
    omega
  have he := ab_W_at (lay := lay) (cy := cy) (ad := ad) (μ := μ) (ab_ltN hy hlk)
  rw [ab_E, hlk] at he
  dsimp only at he
  rw [hci] at he
  have hrc := va_recv hKs hP hcl he
  have hstk : st.map (ab_cv ad) = (((st.take n).reverse).map (ab_cv ad)).reverse ++ Value.ref (ad k) :: r.map (ab_cv ad) := by
    have h1 := ab_take (ad := ad) hlen
    rw [hst] at h1
    exact h1
  have hrun := va_runV (C := Cn) (b := ad k) (meth := meth) (rest := r.map (ab_cv ad)) (As := ((st.take n).reverse).map (ab_cv ad)) (cells := cells) (slots := slots) (g := F0 m pc arr (st.map (ab_cv ad))) (locs := locs) (below := below) (e := e) (R := ab_rm I M B) (n := n) ⟨hx, hb, hml, hown, hts⟩ (hmet ad H.size hs) ⟨ab_CallB hu hts hM hM' hlink hpar hfr hlo, hts _ (hin _ hins), hts _ (hin _ hsel)⟩ ⟨ab_blind hX, hrc, fun U hU hW => ab_pre hX hXs hA hKs hP hD hS hU hW⟩ rfl (by rw [List.length_map, List.length_reverse, List.length_take]; omega) hl.1 hstk (lv_room (by rw [ab_sum]; exact z4)) hd ⟨by show cells + b1.1 ≤ B.1; omega, by show slots + b1.2 ≤ B.2; omega⟩
  exact ab_after hmv hA hK hrun hQ z2 z3 hn hl hD hS ha hs (by omega) (by omega)
theorem ok_callV {uw : List Cond} (hu : ∀ w ∈ uw, goodWord w = true) (hX : ab_Xok X) (hmv : ∀ k, N ≤ k → mv k = false) (hy : ab_layok lay N) {M M' pc n idx ci : Nat} {Cn : String} {T : u_T} {NF : Nat} (hM : ab_Iok I uw M) (hM' : ab_Iok I uw M') (hd : decode (i_c I M) pc = .ok (.invokevirtual idx, 3)) (hcl : cl[ci]? = some (Cn, T, NF)) (hC0 : (i_y I M').cls = Cn) (hlink : Cond.methodLink (i_y I M).cls idx (i_y I M') ∈ uw) (hins : Cond.instanceMethod (i_y I M') ∈ uw) (hsel : Cond.selects Cn (i_y I M') (i_y I M') ∈ uw) (hpar : (parseMethodDescriptor (i_y I M').desc).map (fun d => d.parameters.length) = some n) (hnl : n + 1 ≤ i_n I M') (hfr : i_f I M' + 1 ≤ i_f I M) (hlo : 8 + (i_n I M' + 11) + i_l I M' ≤ i_l I M) : ab_Ok l I lay N mv cl D cy adS X M pc (o_callV lay mv ci M' n (pc + 3)) := by
  intro p e s m args below meth c A B ad0 Q F K C hK hC ls st μ b h
  unfold o_callV at h
  cases hz : (ab_nm mv ls && ab_nmS mv (st.drop (n + 1)) && Nat.ble (st.drop (n + 1)).length 8) with
  | false => rw [hz] at h; exact h.elim
  | true =>
    rw [hz] at h
    simp only [Bool.and_eq_true] at hz
    obtain ⟨⟨z2, z3⟩, z4⟩ := hz
    have z4 := Nat.le_of_ble_eq_true z4
    dsimp only [cond] at h
    split at h
    · next k r hst =>
      have hr : st.drop (n + 1) = r := by
        rw [← List.drop_drop, List.drop_one] <;> try rw [hst]
        rfl
      rw [hr] at z3 z4
      split at h
      · next o hlk =>
        cases hc : Nat.beq o.1 ci with
        | false => rw [hc] at h; exact h.elim
        | true =>
          rw [hc] at h
          have hlen : ((Sum.inr k :: (st.take n).reverse : List ab_V)).length ≤ i_n I M' := by
            rw [List.length_cons, List.length_reverse, List.length_take]
            omega
          exact ab_virt hu hX hmv hy hM hM' hd hcl hC0 hlink hins hsel hpar hnl hfr hlo F hK hst hlk (Nat.eq_of_beq_eq_true hc) (hC _ _ _ _ _ h hlen) (fun v μ' q => q) z2 z3 z4 (by show 0 + b.1 ≤ b.1; omega) (by show 0 + b.2 ≤ b.2; omega)
      · exact h.elim
    · exact h.elim
theorem ok_callB {uw : List Cond} (hu : ∀ w ∈ uw, goodWord w = true) (hX : ab_Xok X) (hmv : ∀ k, N ≤ k → mv k = false) (hy : ab_layok lay N) {M M' pc n idx ci : Nat} {Cn : String} {T : u_T} {NF : Nat} (hM : ab_Iok I uw M) (hM' : ab_Iok I uw M') (hd : decode (i_c I M) pc = .ok (.invokevirtual idx, 3)) (hcl : cl[ci]? = some (Cn, T, NF)) (hC0 : (i_y I M').cls = Cn) (hlink : Cond.methodLink (i_y I M).cls idx (i_y I M') ∈ uw) (hins : Cond.instanceMethod (i_y I M') ∈ uw) (hsel : Cond.selects Cn (i_y I M') (i_y I M') ∈ uw) (hpar : (parseMethodDescriptor (i_y I M').desc).map (fun d => d.parameters.length) = some n) (hnl : n + 1 ≤ i_n I M') (hfr : i_f I M' + 1 ≤ i_f I M) (hlo : 8 + (i_n I M' + 11) + i_l I M' ≤ i_l I M) : ab_Ok l I lay N mv cl D cy adS X M pc (o_callB lay mv ci M' n (pc + 3)) := by
  intro p e s m args below meth c A B ad0 Q F K C hK hC ls st μ b h
  unfold o_callB at h
  cases hz : (ab_nm mv ls && ab_nmS mv (st.drop (n + 1)) && Nat.ble (st.drop (n + 1)).length 8) with
  | false => rw [hz] at h; exact h.elim
  | true =>
    rw [hz] at h
    simp only [Bool.and_eq_true] at hz
    obtain ⟨⟨z2, z3⟩, z4⟩ := hz
    have z4 := Nat.le_of_ble_eq_true z4
    dsimp only [cond] at h
    split at h
    · next k r hst =>
      have hr : st.drop (n + 1) = r := by
        rw [← List.drop_drop, List.drop_one] <;> try rw [hst]
        rfl
      rw [hr] at z3 z4
      split at h
      · next o hlk =>
        cases hc : Nat.beq o.1 ci with
        | false => rw [hc] at h; exact h.elim
        | true =>
          rw [hc] at h
          obtain ⟨b1, h1, h2, h⟩ := h
          have hlen : ((Sum.inr k :: (st.take n).reverse : List ab_V)).length ≤ i_n I M' := by
            rw [List.length_cons, List.length_reverse, List.length_take]
            omega
          exact ab_virt hu hX hmv hy hM hM' hd hcl hC0 hlink hins hsel hpar hnl hfr hlo F hK hst hlk (Nat.eq_of_beq_eq_true hc) (hC _ _ _ _ _ h hlen) (fun v μ' q => q) z2 z3 z4 (by show b1.1 + (b.1 - b1.1) ≤ b.1; omega) (by show b1.2 + (b.2 - b1.2) ≤ b.2; omega)
      · exact h.elim
    · exact h.elim
/-- what the abstract machine says is a contract -/
theorem ab_sound {uw : List Cond} {code : Nat → Nat → ab_T} {spec : Nat → Prop} (hI : ∀ M, ¬ spec M → ab_Iok I uw M) (hok : ∀ M, ¬ spec M → ∀ pc, ab_Ok l I lay N mv cl D cy adS X M pc (code M pc)) (hsp : ∀ M as μ b Q K C, spec M → code M 0 K C (ab_init I M as) [] μ b Q → as.length ≤ i_n I M → ab_Met l I lay N mv cl D cy adS X M as μ b Q)
    {M : Nat} {as : List ab_V} {μ : ab_S} {b : ab_B} {Q : ab_Q} (h : ab_run I code M 0 (ab_init I M as) [] μ b Q) (hlen : as.length ≤ i_n I M) : ab_Met l I lay N mv cl D cy adS X M as μ b Q := by
  refine (h (fun M pc ls st μ b Q => (¬ spec M → ∀ (p : Program) (e : Env) (s : State) (m : MethodId) (args : Array Value) (below : List Frame) (meth : Method) (c : Code) (A : Nat → Prop) (B : ab_B) (ad0 : Nat → Nat), ab_F I cl D cy X M p s m args meth c A → ab_G l I lay N mv cl D cy adS M p e s m args below meth c A B ad0 Q pc ls st μ b) ∧ (∀ as : List ab_V, pc = 0 → ls = ab_init I M as → st = [] → as.length ≤ i_n I M → ab_Met l I lay N mv cl D cy adS X M as μ b Q)) ?_).2 as rfl rfl rfl hlen
  intro M pc ls st μ b Q hc
  have h1 : ¬ spec M → ∀ (p : Program) (e : Env) (s : State) (m : MethodId) (args : Array Value) (below : List Frame) (meth : Method) (c : Code) (A : Nat → Prop) (B : ab_B) (ad0 : Nat → Nat), ab_F I cl D cy X M p s m args meth c A → ab_G l I lay N mv cl D cy adS M p e s m args below meth c A B ad0 Q pc ls st μ b := by
    intro hs p e s m args below meth c A B ad0 F
    exact hok M hs pc p e s m args below meth c A B ad0 Q F _ _ (fun pc ls st μ b h => h.1 hs p e s m args below meth c A B ad0 F) (fun M as μ b Q h hl => h.2 as rfl rfl rfl hl) ls st μ b hc
  refine ⟨h1, ?_⟩
  intro as e1 e2 e3 hlen
  subst e1; subst e2; subst e3
  by_cases hs : spec M
  · exact hsp M as μ b Q _ _ hs hc hlen
  · intro ad sz had
    have hM := hI M hs
    refine Met.ofW (cc := i_c I M) (maxL := i_n I M) (ret := i_r I M) hM.2.1 hM.1 ?_
    intro p e s m args below meth c s₁ Bd hml hv
    obtain ⟨rfl, hsz, hP, hK, hD0, hX⟩ := hv
    subst hsz
    have hD := hD0.self (sz := s.heap.size)
    have F : ab_F I cl D cy X M p s m ((as.map (ab_cv ad)).toArray) meth c (va_A (ab_W lay N cy ad μ) s.heap.size) := ⟨Bd.exec, Bd.bytes, Bd.returns, hml, findClass_of_methodNamed Bd.named, atoms_spec (ws := i_w I M) Bd.pre, Bd.notSynchronized, fun q hq => Or.inr hq, hK, hX⟩
    have hl := lv_entry (as.map (ab_cv ad)) (n := i_n I M) (by rw [ab_lg_len]; exact hlen)
    rw [lg_entry_eq]
    exact h1 hs p e s m _ below meth c _ b ad F ad _ s.heap [] 0 0 (by unfold ab_init; rw [List.length_append, List.length_map, List.length_replicate]; omega) (ab_lv_sub hl (fun q hq => ab_lv_init hq)) hP hD va_S.rf (fun _ _ => rfl) had (by omega) (by omega)
-- statics and Strings that are constants
theorem ab_talen {ty : FieldType} {t N0 : Nat} {f : Nat → Value} {p : Program} {e : Env} {R : Room} {s : State} {m : MethodId} {args : Array Value} {below : List Frame} {meth : Method} {c : Code} {H : Heap} {locs : List Loc} {cells slots : Nat} {Q : State → Prop} {cc : ByteArray} {pc : Nat} {arr : Array Slot} {rest : List Value} {A : Nat → Prop} (hexec : p.tables.exec = Jvm.exec) (hb : c.code = cc) (hT : va_T ty t N0 f A s s.heap) (hS : va_S A s.heap H locs) (hdg : decode cc pc = .ok (.arraylength, 1))
    (kk : W p l e R s m args below meth c H locs cells slots Q (F0 m (pc + 1) arr (.int (nI N0) :: rest))) : W p l e R s m args below meth c H locs cells slots Q (F0 m pc arr (.ref t :: rest)) := by
  obtain ⟨cell, h1, h2, h3, h4, h5, h6, h7⟩ := hT
  exact W.alen (n := nI N0) hexec hb (by rw [hS.2.1 t (Array.getElem?_eq_some_iff.mp h1).1 h7]; exact h1) h2 h5 rfl rfl hdg kk
theorem ok_gets {M pc c0 idx : Nat} {Cn n d ref : String} {uw : List Cond} (hM : i_w I M = Cond.code (i_y I M) (i_c I M) (i_n I M) (i_r I M) :: uw) (hN : N ≤ c0) (hZ : ∀ A U, X A U → va_Z Cn n d (.ref (adS c0)) A U U.heap) (hlink : Cond.fieldLink (i_y I M).cls idx Cn n d ∈ uw) (hd : decode (i_c I M) pc = .ok (.getstatic idx, 3)) : ab_Ok l I lay N mv cl D cy adS X M pc (o_cell c0 (pc + 3)) := by
  intro p e s m args below meth c A B ad0 Q F K C hK hC ls st μ b h ad arr H locs cells slots hn hl hP hD hS ha hs hc1 hc2
  obtain ⟨hx, hb, hret, hml, hown, hts, hlocks, hA, hKs, hXs⟩ := F
  refine va_gets hx hb (hZ A s hXs) hS hown (hts _ (by rw [hM]; exact List.mem_cons_of_mem _ hlink)) (fun x hx => hx) hd ?_
  rw [← hs c0 hN]
  exact (hK _ _ _ _ _ h ad arr H locs cells slots hn hl hP hD hS ha hs hc1 hc2)
theorem ok_getc {M pc idx : Nat} {v : Int32} {Cn n d ref : String} {uw : List Cond} (hM : i_w I M = Cond.code (i_y I M) (i_c I M) (i_n I M) (i_r I M) :: uw) (hZ : ∀ A U, X A U → va_Z Cn n d (.int v) A U U.heap) (hlink : Cond.fieldLink (i_y I M).cls idx Cn n d ∈ uw) (hd : decode (i_c I M) pc = .ok (.getstatic idx, 3)) : ab_Ok l I lay N mv cl D cy adS X M pc (o_const v (pc + 3)) := by
  intro p e s m args below meth c A B ad0 Q F K C hK hC ls st μ b h ad arr H locs cells slots hn hl hP hD hS ha hs hc1 hc2
  obtain ⟨hx, hb, hret, hml, hown, hts, hlocks, hA, hKs, hXs⟩ := F
  exact va_gets hx hb (hZ A s hXs) hS hown (hts _ (by rw [hM]; exact List.mem_cons_of_mem _ hlink)) (fun x hx => hx) hd (hK _ _ _ _ _ h ad arr H locs cells slots hn hl hP hD hS ha hs hc1 hc2)
theorem ok_ldcS {M pc c0 idx : Nat} {tx : String} (hN : N ≤ c0) (hR : ∀ A U, X A U → vk_R (i_y I M).cls idx tx (adS c0) U) (hd : decode (i_c I M) pc = .ok (.ldc idx, 2)) : ab_Ok l I lay N mv cl D cy adS X M pc (o_cell c0 (pc + 2)) := by
  intro p e s m args below meth c A B ad0 Q F K C hK hC ls st μ b h ad arr H locs cells slots hn hl hP hD hS ha hs hc1 hc2
  obtain ⟨hx, hb, hret, hml, hown, hts, hlocks, hA, hKs, hXs⟩ := F
  refine va_ldcS hx hb hown (hR A s hXs) hd ?_
  rw [← hs c0 hN]
  exact (hK _ _ _ _ _ h ad arr H locs cells slots hn hl hP hD hS ha hs hc1 hc2)
theorem ok_tld {M pc c0 : Nat} {vs : List Int32} (hN : N ≤ c0) (hT : ∀ A U, X A U → va_T .int (adS c0) vs.length (fun j => .int (vs.getD j 0)) A U U.heap) (hd : decode (i_c I M) pc = .ok (.iaload, 1)) : ab_Ok l I lay N mv cl D cy adS X M pc (o_tld c0 vs (pc + 1)) := by
  intro p e s m args below meth c A B ad0 Q F K C hK hC ls st μ b h ad arr H locs cells slots hn hl hP hD hS ha hs hc1 hc2
  obtain ⟨hx, hb, hret, hml, hown, hts, hlocks, hA, hKs, hXs⟩ := F
  unfold o_tld at h
  split at h
  · next i d r =>
    cases hz : Nat.beq d c0 with
    | false => rw [hz] at h; exact h.elim
    | true =>
      rw [hz] at h
      have hz := Nat.eq_of_beq_eq_true hz
      subst hz
      have hT := hT A s hXs
      rw [← hs d hN] at hT
      exact va_ti hx hb hT hS h.1 rfl hd (hK _ _ _ _ _ h.2 ad arr H locs cells slots hn hl hP hD hS ha hs hc1 hc2)
  · exact h.elim
theorem ok_sget1 {M pc idx : Nat} {uw : List Cond} (hM : i_w I M = Cond.code (i_y I M) (i_c I M) (i_n I M) (i_r I M) :: uw) (hstr : ∀ k, lay k = .inr 4 → N ≤ k ∧ N ≤ k + 50 ∧ ∀ A U, X A U → va_OF "java/lang/String" "value" "[B" (.ref (adS (k + 50))) (adS k) A U U.heap) (hlink : Cond.fieldLink (i_y I M).cls idx "java/lang/String" "value" "[B" ∈ uw) (hd : decode (i_c I M) pc = .ok (.getfield idx, 3)) : ab_Ok l I lay N mv cl D cy adS X M pc (o_sget1 lay (pc + 3)) := by
  intro p e s m args below meth c A B ad0 Q F K C hK hC ls st μ b h ad arr H locs cells slots hn hl hP hD hS ha hs hc1 hc2
  obtain ⟨hx, hb, hret, hml, hown, hts, hlocks, hA, hKs, hXs⟩ := F
  unfold o_sget1 at h
  split at h
  · next k r =>
    split at h
    · next t ho =>
      cases hz : Nat.beq t 4 with
      | false => rw [hz] at h; exact h.elim
      | true =>
        rw [hz] at h
        have hz := Nat.eq_of_beq_eq_true hz
        subst hz
        obtain ⟨g1, g2, g3⟩ := hstr k ho
        have g3 := g3 A s hXs
        rw [← hs k g1, ← hs (k + 50) g2] at g3
        exact vk_getf hx hb g3 hS hown (hts _ (by rw [hM]; exact List.mem_cons_of_mem _ hlink)) (fun x hx => hx) hd (hK _ _ _ _ _ h ad arr H locs cells slots hn hl hP hD hS ha hs hc1 hc2)
    · exact h.elim
  · exact h.elim
theorem ok_sget0 {M pc idx : Nat} {uw : List Cond} (hM : i_w I M = Cond.code (i_y I M) (i_c I M) (i_n I M) (i_r I M) :: uw) (hstr : ∀ k, lay k = .inr 4 → N ≤ k ∧ ∀ A U, X A U → va_OF "java/lang/String" "coder" "B" (.int 0) (adS k) A U U.heap) (hlink : Cond.fieldLink (i_y I M).cls idx "java/lang/String" "coder" "B" ∈ uw) (hd : decode (i_c I M) pc = .ok (.getfield idx, 3)) : ab_Ok l I lay N mv cl D cy adS X M pc (o_sget0 lay (pc + 3)) := by
  intro p e s m args below meth c A B ad0 Q F K C hK hC ls st μ b h ad arr H locs cells slots hn hl hP hD hS ha hs hc1 hc2
  obtain ⟨hx, hb, hret, hml, hown, hts, hlocks, hA, hKs, hXs⟩ := F
  unfold o_sget0 at h
  split at h
  · next k r =>
    split at h
    · next t ho =>
      cases hz : Nat.beq t 4 with
      | false => rw [hz] at h; exact h.elim
      | true =>
        rw [hz] at h
        have hz := Nat.eq_of_beq_eq_true hz
        subst hz
        obtain ⟨g1, g3⟩ := hstr k ho
        have g3 := g3 A s hXs
        rw [← hs k g1] at g3
        exact vk_getf hx hb g3 hS hown (hts _ (by rw [hM]; exact List.mem_cons_of_mem _ hlink)) (fun x hx => hx) hd (hK _ _ _ _ _ h ad arr H locs cells slots hn hl hP hD hS ha hs hc1 hc2)
    · exact h.elim
  · exact h.elim
theorem ok_slen {M pc : Nat} {sv : Nat → List Int32} (hstr : ∀ k, lay k = .inr 5 → N ≤ k ∧ ∀ A U, X A U → va_T .byte (adS k) (sv k).length (fun j => .int ((sv k).getD j 0)) A U U.heap) (hd : decode (i_c I M) pc = .ok (.arraylength, 1)) : ab_Ok l I lay N mv cl D cy adS X M pc (o_slen lay sv (pc + 1)) := by
  intro p e s m args below meth c A B ad0 Q F K C hK hC ls st μ b h ad arr H locs cells slots hn hl hP hD hS ha hs hc1 hc2
  obtain ⟨hx, hb, hret, hml, hown, hts, hlocks, hA, hKs, hXs⟩ := F
  unfold o_slen at h
  split at h
  · next k r =>
    split at h
    · next t ho =>
      cases hz : Nat.beq t 5 with
      | false => rw [hz] at h; exact h.elim
      | true =>
        rw [hz] at h
        have hz := Nat.eq_of_beq_eq_true hz
        subst hz
        obtain ⟨g1, g3⟩ := hstr k ho
        have g3 := g3 A s hXs
        rw [← hs k g1] at g3
        exact ab_talen hx hb g3 hS hd (hK _ _ _ _ _ h ad arr H locs cells slots hn hl hP hD hS ha hs hc1 hc2)
    · exact h.elim
  · exact h.elim
theorem ok_sld {M pc : Nat} {sv : Nat → List Int32} (hstr : ∀ k, lay k = .inr 5 → N ≤ k ∧ ∀ A U, X A U → va_T .byte (adS k) (sv k).length (fun j => .int ((sv k).getD j 0)) A U U.heap) (hd : decode (i_c I M) pc = .ok (.baload, 1)) : ab_Ok l I lay N mv cl D cy adS X M pc (o_sld lay sv (pc + 1)) := by
  intro p e s m args below meth c A B ad0 Q F K C hK hC ls st μ b h ad arr H locs cells slots hn hl hP hD hS ha hs hc1 hc2
  obtain ⟨hx, hb, hret, hml, hown, hts, hlocks, hA, hKs, hXs⟩ := F
  unfold o_sld at h
  split at h
  · next i k r =>
    split at h
    · next t ho =>
      cases hz : Nat.beq t 5 with
      | false => rw [hz] at h; exact h.elim
      | true =>
        rw [hz] at h
        have hz := Nat.eq_of_beq_eq_true hz
        subst hz
        obtain ⟨g1, g3⟩ := hstr k ho
        have g3 := g3 A s hXs
        rw [← hs k g1] at g3
        exact va_tb hx hb g3 hS h.1 rfl hd (hK _ _ _ _ _ h.2 ad arr H locs cells slots hn hl hP hD hS ha hs hc1 hc2)
    · exact h.elim
  · exact h.elim
theorem ok_i2c {M pc : Nat} (hd : decode (i_c I M) pc = .ok (.i2c, 1)) : ab_Ok l I lay N mv cl D cy adS X M pc (o_i2c (pc + 1)) := by
  intro p e s m args below meth c A B ad0 Q F K C hK hC ls st μ b h ad arr H locs cells slots hn hl hP hD hS ha hs hc1 hc2
  obtain ⟨hx, hb, hret, hml, hown, hts, hlocks, hA, hKs, hXs⟩ := F
  unfold o_i2c at h
  split at h
  · next x r =>
    exact lv_i2c hx hb hd rfl (hK _ _ _ _ _ h ad arr H locs cells slots hn hl hP hD hS ha hs hc1 hc2)
  · exact h.elim
theorem ok_retT {M pc : Nat} {ty : FieldType} (hd : decode (i_c I M) pc = .ok (.ireturn, 1)) (hr : i_r I M = some ty) : ab_Ok l I lay N mv cl D cy adS X M pc (o_retT ty) := by
  intro p e s m args below meth c A B ad0 Q F K C hK hC ls st μ b h ad arr H locs cells slots hn hl hP hD hS ha hs hc1 hc2
  obtain ⟨hx, hb, hret, hml, hown, hts, hlocks, hA, hKs, hXs⟩ := F
  unfold o_retT at h
  split at h
  · next v =>
    refine W.widen (k := B.1) (n := B.2) (by omega) (by omega) ?_
    rw [hr]
    exact W.zret hx hb (by rw [hret, hr]) h.1 (fun t ht hW => ⟨⟨v, (μ, ad), rfl, h.2, ha, by rw [ht]; exact hP, va_K.moved hW.alike hKs, hD⟩, hS.F ht⟩) hS.2.2 hd
  · exact h.elim
theorem ok_callT {uw : List Cond} (hu : ∀ w ∈ uw, goodWord w = true) (hX : ab_Xok X) (hmv : ∀ k, N ≤ k → mv k = false) (hstr : ∀ k, lay k = .inr 4 → N ≤ k ∧ ∀ A U, X A U → va_O "java/lang/String" (adS k) A U U.heap) {M M' pc n idx : Nat} (hM : ab_Iok I uw M) (hM' : ab_Iok I uw M') (hd : decode (i_c I M) pc = .ok (.invokevirtual idx, 3)) (hlink : Cond.methodLink (i_y I M).cls idx (i_y I M') ∈ uw) (hins : Cond.instanceMethod (i_y I M') ∈ uw) (hsel : Cond.selects "java/lang/String" (i_y I M') (i_y I M') ∈ uw) (hpar : (parseMethodDescriptor (i_y I M').desc).map (fun d => d.parameters.length) = some n) (hnl : n + 1 ≤ i_n I M') (hfr : i_f I M' + 1 ≤ i_f I M) (hlo : 8 + (i_n I M' + 11) + i_l I M' ≤ i_l I M) : ab_Ok l I lay N mv cl D cy adS X M pc (o_callT lay mv M' n (pc + 3)) := by
  intro p e s m args below meth c A B ad0 Q F K C hK hC ls st μ b h ad arr H locs cells slots hn hl hP hD hS ha hs hc1 hc2
  obtain ⟨hx, hb, hret, hml, hown, hts, hlocks, hA, hKs, hXs⟩ := F
  unfold o_callT at h
  cases hz : (ab_nm mv ls && ab_nmS mv (st.drop (n + 1)) && Nat.ble (st.drop (n + 1)).length 8) with
  | false => rw [hz] at h; exact h.elim
  | true =>
    rw [hz] at h
    simp only [Bool.and_eq_true] at hz
    obtain ⟨⟨z2, z3⟩, z4⟩ := hz
    have z4 := Nat.le_of_ble_eq_true z4
    dsimp only [cond] at h
    split at h
    · next k r hst =>
      have hr : st.drop (n + 1) = r := by
        rw [← List.drop_drop, List.drop_one] <;> try rw [hst]
        rfl
      rw [hr] at z3 z4
      split at h
      · next t hlk =>
        cases hc : Nat.beq t 4 with
        | false => rw [hc] at h; exact h.elim
        | true =>
          rw [hc] at h
          have hc := Nat.eq_of_beq_eq_true hc
          subst hc
          have hlen2 : ((Sum.inr k :: (st.take n).reverse : List ab_V)).length ≤ i_n I M' := by
            rw [List.length_cons, List.length_reverse, List.length_take]
            omega
          have hlen : n ≤ st.length := by
            have h1 := congrArg List.length hst
            rw [List.length_drop, List.length_cons] at h1
            omega
          have hin : ∀ w ∈ uw, w ∈ i_w I M := fun w hw => by rw [hM.1]; exact List.mem_cons_of_mem _ hw
          obtain ⟨g1, g3⟩ := hstr k hlk
          have hrc : ∃ cell : Cell, H[ad k]? = some cell ∧ cell.vm.isStatics = false ∧ s.vm.findClass "java/lang/String" = some cell.cls := by
            rw [hs k g1]
            obtain ⟨cell, q1, q2, q3, -⟩ := (g3 A s hXs).kept hS.2.1
            exact ⟨cell, q1, q2, q3⟩
          have hstk : st.map (ab_cv ad) = (((st.take n).reverse).map (ab_cv ad)).reverse ++ Value.ref (ad k) :: r.map (ab_cv ad) := by
            have h1 := ab_take (ad := ad) hlen
            rw [hst] at h1
            exact h1
          have hrun := va_runV (C := "java/lang/String") (b := ad k) (meth := meth) (rest := r.map (ab_cv ad)) (As := ((st.take n).reverse).map (ab_cv ad)) (cells := cells) (slots := slots) (g := F0 m pc arr (st.map (ab_cv ad))) (locs := locs) (below := below) (e := e) (R := ab_rm I M B) (n := n) ⟨hx, hb, hml, hown, hts⟩ (hC _ _ _ _ _ h hlen2 ad H.size hs) ⟨ab_CallB hu hts hM hM' hlink hpar hfr hlo, hts _ (hin _ hins), hts _ (hin _ hsel)⟩ ⟨ab_blind hX, hrc, fun U hU hW => ab_pre hX hXs hA hKs hP hD hS hU hW⟩ rfl (by rw [List.length_map, List.length_reverse, List.length_take]; omega) hl.1 hstk (lv_room (by rw [ab_sum]; exact z4)) hd ⟨by show cells + 0 ≤ B.1; omega, by show slots + 0 ≤ B.2; omega⟩
          exact ab_after hmv hA hK hrun (fun v μ' q => q) z2 z3 hn hl hD hS ha hs (by show cells + 0 + b.1 ≤ B.1; omega) (by show slots + 0 + b.2 ≤ B.2; omega)
      · exact h.elim
    · exact h.elim
theorem ok_mmin {M pc idx : Nat} {uw : List Cond} (hM : i_w I M = Cond.code (i_y I M) (i_c I M) (i_n I M) (i_r I M) :: uw) (hd : decode (i_c I M) pc = .ok (.invokestatic idx, 3)) (hlink : Cond.methodLink (i_y I M).cls idx Lib.Math.min.name ∈ uw) (hstat : Cond.static Lib.Math.min.name ∈ uw) (hini : Cond.initialized "java/lang/Math" ∈ uw) (hcode : Cond.code Lib.Math.min.name Lib.Math.min.code 2 (some .int) ∈ uw) (hfr : 1 ≤ i_f I M) (hlo : 21 ≤ i_l I M) : ab_Ok l I lay N mv cl D cy adS X M pc (o_min (pc + 3)) := by
  intro p e s m args below meth c A B ad0 Q F K C hK hC ls st μ b h ad arr H locs cells slots hn hl hP hD hS ha hs hc1 hc2
  obtain ⟨hx, hb, hret, hml, hown, hts, hlocks, hA, hKs, hXs⟩ := F
  have hin : ∀ w ∈ uw, w.before args s = true := fun w hw => hts w (by rw [hM]; exact List.mem_cons_of_mem _ hw)
  unfold o_min at h
  split at h
  · next y x r =>
    cases hz : Nat.ble r.length 8 with
    | false => rw [hz] at h; exact h.elim
    | true =>
      rw [hz] at h
      have hz := Nat.le_of_ble_eq_true hz
      exact va_mmin hx hb (by rw [hml, hl.1]) hown (hin _ hlink) (hin _ hstat) (hin _ hini) (hin _ hcode) hfr (by rw [ab_sum]; show r.length + 13 ≤ i_l I M; omega) (by show cells ≤ B.1; omega) (by show slots ≤ B.2; omega) hd (hK _ _ _ _ _ h ad arr H locs cells slots hn hl hP hD hS ha hs hc1 hc2)
  · exact h.elim
theorem ok_mmax {M pc idx : Nat} {uw : List Cond} (hM : i_w I M = Cond.code (i_y I M) (i_c I M) (i_n I M) (i_r I M) :: uw) (hd : decode (i_c I M) pc = .ok (.invokestatic idx, 3)) (hlink : Cond.methodLink (i_y I M).cls idx Lib.Math.max.name ∈ uw) (hstat : Cond.static Lib.Math.max.name ∈ uw) (hini : Cond.initialized "java/lang/Math" ∈ uw) (hcode : Cond.code Lib.Math.max.name Lib.Math.max.code 2 (some .int) ∈ uw) (hfr : 1 ≤ i_f I M) (hlo : 21 ≤ i_l I M) : ab_Ok l I lay N mv cl D cy adS X M pc (o_max (pc + 3)) := by
  intro p e s m args below meth c A B ad0 Q F K C hK hC ls st μ b h ad arr H locs cells slots hn hl hP hD hS ha hs hc1 hc2
  obtain ⟨hx, hb, hret, hml, hown, hts, hlocks, hA, hKs, hXs⟩ := F
  have hin : ∀ w ∈ uw, w.before args s = true := fun w hw => hts w (by rw [hM]; exact List.mem_cons_of_mem _ hw)
  unfold o_max at h
  split at h
  · next y x r =>
    cases hz : Nat.ble r.length 8 with
    | false => rw [hz] at h; exact h.elim
    | true =>
      rw [hz] at h
      have hz := Nat.le_of_ble_eq_true hz
      exact va_mmax hx hb (by rw [hml, hl.1]) hown (hin _ hlink) (hin _ hstat) (hin _ hini) (hin _ hcode) hfr (by rw [ab_sum]; show r.length + 13 ≤ i_l I M; omega) (by show cells ≤ B.1; omega) (by show slots ≤ B.2; omega) hd (hK _ _ _ _ _ h ad arr H locs cells slots hn hl hP hD hS ha hs hc1 hc2)
  · exact h.elim
end AB
