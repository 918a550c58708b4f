
-- String.checkIndex and what it calls
theorem sp_in {M0 : List Cond} {args : Array Value} {s : State} {y : MethodName} {cc : ByteArray} {n : Nat} {r : Option FieldType} (h : ∀ w ∈ (Cond.code y cc n r :: uw), w.before args s = true) : ∀ w ∈ uw, w.before args s = true := fun w hw => h w (List.mem_cons_of_mem _ hw)
theorem sp_good {y y' : MethodName} {cc cc' : ByteArray} {n n' : Nat} {r r' : Option FieldType} (h : Cond.code y' cc' n' r' ∈ uw) : GoodIn (Cond.code y cc n r :: uw) (Cond.code y' cc' n' r' :: uw) := ab_good uw_good (fun w hw => List.mem_cons_of_mem _ hw) h rfl
set_option maxRecDepth 20000 in
theorem sp_chk3 (l : Launch) (i n : Int32) (v : Value) (hv : v.category = 1) (hi : ¬ i < 0) (hn : i < n) : Met l yJ3_checkIndex_8e157 (.code yJ3_checkIndex_8e157 cJ3_checkIndex_8e157 3 (some .int) :: uw) { frames := 0, cells := 0, slots := 0, locals := 0 } (va_Pc [.int i, .int n, v] (fun _ => True)) (va_Qi (fun (_ : Int32) (_ : Unit) => True) (fun _ _ => True) (fun _ => False)) 0 0 (fun _ => False) := by
  refine Met.ofW (cc := cJ3_checkIndex_8e157) (maxL := 3) (ret := some .int) (by decide +kernel) rfl ?_
  intro p e s m args below meth c s₁ B hml hv0
  obtain ⟨rfl, -⟩ := hv0
  have hx := B.exec
  have hb := B.bytes
  have hr := B.returns
  have hlocks := B.notSynchronized
  have hl := lv_entry ([.int i, .int n, v]) (n := 3) (by unfold lg_sl; simp [hv, show (Value.int i).category = 1 from rfl, show (Value.int n).category = 1 from rfl])
  rw [lg_entry_eq]
  generalize (lg_sl ([.int i, .int n, v]) ++ List.replicate (3 - (lg_sl ([.int i, .int n, v])).length) Slot.unset).toArray = ls at hl ⊢
  refine lv_iload_n (k := 0) hx hb (by decide +kernel) rfl (lv_at hl 0 rfl) ?_
  refine lv_if_lt (off := 8) (tgt := 9) hx hb (by decide +kernel) (by decide) (fun q => absurd q hi) (fun _ => ?_)
  refine lv_iload_n (k := 0) hx hb (by decide +kernel) rfl (lv_at hl 0 rfl) ?_
  refine lv_iload_n (k := 1) hx hb (by decide +kernel) rfl (lv_at hl 1 rfl) ?_
  refine lv_icmp_lt (off := 10) (tgt := 16) hx hb (by decide +kernel) (by decide) (fun _ => ?_) (fun q => absurd hn q)
  refine lv_iload_n (k := 0) hx hb (by decide +kernel) rfl (lv_at hl 0 rfl) ?_
  exact W.iret (v := i) hx hb hr (fun t ht hW => ⟨⟨i, (), rfl, trivial, trivial⟩, ⟨by rw [ht]; exact Nat.le_refl _, fun q _ _ => by rw [ht]⟩⟩) (fun q h => by cases h) (by decide +kernel)
set_option maxRecDepth 20000 in
theorem sp_chk {l : Launch} {D : va_G} {cy : Nat → ClassId} {adS : Nat → Nat} {as : List ab_V} {μ : ab_S} {b : ab_B} {Q : ab_Q} {K : ab_K} {C : ab_C} (h : o_chk K C (ab_init gd_I 173 as) [] μ b Q) (hlen : as.length ≤ i_n gd_I 173) : ab_Met l gd_I gd_lay gd_N gd_mv vwCl D cy adS (gd_X adS) 173 as μ b Q := by
  have hn2 : i_n gd_I 173 = 2 := rfl
  rw [hn2] at hlen
  obtain ⟨i, n, rfl, h0, h1, hQ⟩ : ∃ i n : Int32, as = [.inl i, .inl n] ∧ 0 ≤ i ∧ i < n ∧ Q none μ := by
    unfold o_chk at h
    split at h
    · next i n r he =>
      match as, hlen, he with
      | [], _, he => exact absurd (List.cons.inj he).1 (by intro q; cases q)
      | [a], _, he => exact absurd (List.cons.inj (List.cons.inj he).2).1 (by intro q; cases q)
      | [a, c], _, he =>
        have e1 := (List.cons.inj he).1
        have e2 := (List.cons.inj (List.cons.inj he).2).1
        cases e1
        cases e2
        exact ⟨i, n, rfl, h.1.1, h.1.2, h.2⟩
      | _ :: _ :: _ :: _, hlen, _ => simp at hlen
    · exact h.elim
  intro ad sz had
  refine Met.ofW (cc := cJ0_checkIndex_df160) (maxL := 2) (ret := none) (by decide +kernel) rfl ?_
  intro p e s m args below meth c s₁ B hml hv
  obtain ⟨rfl, hsz, hP, hK, hD0, hX⟩ := hv
  subst hsz
  have hD := hD0.self (sz := s.heap.size)
  have hA : ∀ q, s.heap.size ≤ q → va_A (ab_W gd_lay gd_N cy ad μ) s.heap.size q := fun q hq => Or.inr hq
  have hx := B.exec
  have hb : c.code = cJ0_checkIndex_df160 := B.bytes
  have hr := B.returns
  have hlocks := B.notSynchronized
  have hts := atoms_spec (ws := i_w gd_I 173) B.pre
  have hin : ∀ w ∈ uw, w.before ([Value.int i, Value.int n] : List Value).toArray s = true := fun w hw => hts w (List.mem_cons_of_mem _ hw)
  have hown : s.vm.findClass RJ0 = some m.cls := findClass_of_methodNamed B.named
  have hS : va_S (va_A (ab_W gd_lay gd_N cy ad μ) s.heap.size) s.heap s.heap [] := va_S.rf
  have hl := lv_entry ([.int i, .int n]) (n := 2) (Nat.le_of_ble_eq_true rfl)
  show W p l e _ s m _ below meth c s.heap [] 0 0 _ (entryFrame m ([Value.int i, Value.int n] : List Value).toArray 2)
  rw [lg_entry_eq]
  generalize (lg_sl ([.int i, .int n]) ++ List.replicate (2 - (lg_sl ([.int i, .int n])).length) Slot.unset).toArray = ls at hl ⊢
  obtain ⟨v, hv, hZ⟩ : ∃ v : Value, v.category = 1 ∧ va_Z "jdk/internal/util/Preconditions" "SIOOBE_FORMATTER" "Ljava/util/function/BiFunction;" v (va_A (ab_W gd_lay gd_N cy ad μ) s.heap.size) s s.heap := by
    rcases hX.2.2.2.2.2.1 with q | ⟨t, q⟩
    · exact ⟨_, rfl, q⟩
    · exact ⟨_, rfl, q⟩
  refine lv_iload_n (k := 0) hx hb (by decide +kernel) rfl (lv_at hl 0 rfl) ?_
  refine lv_iload_n (k := 1) hx hb (by decide +kernel) rfl (lv_at hl 1 rfl) ?_
  refine va_gets hx hb hZ hS hown (hin _ uw_462) (fun x hx => hx) (by decide +kernel) ?_
  have hcb : CallB (headSpec (i_w gd_I 173) (ab_rm gd_I 173 b)).room s ([Value.int i, Value.int n] : List Value).toArray RJ0 1059 yJ3_checkIndex_8e157 cJ3_checkIndex_8e157 3 (some .int) (Cond.code yJ3_checkIndex_8e157 cJ3_checkIndex_8e157 3 (some .int) :: uw) { frames := 0, cells := 0, slots := 0, locals := 0 } 0 0 3 := callB_of 3 hts (sp_good uw_466) rfl rfl rfl (hin _ uw_64) (hin _ uw_464) (by decide +kernel) ⟨Nat.le_of_ble_eq_true rfl, Nat.le_of_ble_eq_true rfl⟩
  have d5 : decode cJ0_checkIndex_df160 5 = .ok (.invokestatic 1059, 3) := by decide +kernel
  refine va_calli (va_runS (As := [.int i, .int n, v]) (rest := []) ⟨hx, hb, hml, hown, hts⟩ (sp_chk3 l i n v hv (by intro q; exact absurd h0 (Int32.not_le.mpr q)) h1) ⟨hcb, hin _ uw_465⟩ ⟨fun a U g mk q => q, fun U hU hW => ⟨rfl, trivial⟩⟩ rfl rfl hl.1 rfl (lv_room (Nat.le_of_ble_eq_true rfl)) d5 ⟨Nat.zero_le _, Nat.zero_le _⟩) hS (fun q _ h => h.elim) (fun q h => h.elim) (fun r u t H1 locs1 ht hvm hw hB hz hk hS1 => ?_)
  have hP1 : va_P D vwCl (ab_W gd_lay gd_N cy ad μ) H1 := hP.kept (fun k q hq => hk q.1 ((hP k q hq).lt) (fun h => h))
  refine lv_pop hx hb (by decide +kernel) rfl ?_
  refine W.widen (k := b.1) (n := b.2) (Nat.zero_le _) (Nat.zero_le _) ?_
  exact W.vret hx hb hr (fun t ht hW => ⟨⟨(μ, ad), rfl, hQ, fun _ _ => rfl, by rw [ht]; exact hP1, va_K.moved hW.alike hK, hD⟩, hS1.F ht⟩) hS1.2.2 (by decide +kernel)
-- Arrays.copyOf, to a longer array
theorem ab_cls {D : va_G} {cl : List vw_C} {tys : List (ClassId × FieldType)} {s : State} {i j : Nat} {c1 c2 : ClassId} {ty : FieldType} (hno : ∀ C, ty ≠ .object C) (hK : va_K D cl tys s) (h1 : tys[i]? = some (c1, ty)) (h2 : tys[j]? = some (c2, ty)) : c1 = c2 := by
  have g1 := (hK.2 i _ h1).2
  have g2 := (hK.2 j _ h2).2
  cases ty <;> first | exact absurd rfl (hno _) | exact Option.some.inj (g1.symm.trans g2)
set_option maxRecDepth 20000 in
set_option maxHeartbeats 1000000 in
theorem sp_copyOf (l : Launch) (D : va_G) (cy : Nat → ClassId) (a l0 L sz : Nat) (f : Nat → Int32) (hL : l0 < L) (hL2 : L < 65536) : Met l yJ7_copyOf_59c91 (.code yJ7_copyOf_59c91 cJ7_copyOf_59c91 3 (some (.array .int)) :: uw) { frames := 1, cells := 1, slots := L, locals := 40 } (va_Pc [.ref a, .int (nI L)] (fun U => U.heap.size = sz ∧ va_P D vwCl [(a, .inl (cy 0, l0, .inl f))] U.heap ∧ va_K D vwCl (ab_tys cy) U ∧ va_D (fun _ => True) [(a, .inl (cy 0, l0, .inl f))])) (va_Qr (fun _ : Unit => True) (fun _ q t => va_P D vwCl [(a, .inl (cy 0, l0, .inl f)), (q, .inl (cy 0, L, .inl (va_cpy f (fun _ => 0) 0 0 l0)))] t.heap ∧ va_K D vwCl (ab_tys cy) t ∧ va_D (va_A [(a, .inl (cy 0, l0, .inl f))] sz) [(a, .inl (cy 0, l0, .inl f)), (q, .inl (cy 0, L, .inl (va_cpy f (fun _ => 0) 0 0 l0)))]) (va_A [(a, .inl (cy 0, l0, .inl f))] sz)) 1 L (va_A [(a, .inl (cy 0, l0, .inl f))] sz) := by
  refine Met.ofW (cc := cJ7_copyOf_59c91) (maxL := 3) (ret := some (.array .int)) (by decide +kernel) rfl ?_
  intro p e s m args below meth c s₁ B hml hv
  obtain ⟨rfl, hsz, hP, hK, hD0⟩ := hv
  subst hsz
  have hD := hD0.self (sz := s.heap.size)
  generalize hAe : va_A [(a, .inl (cy 0, l0, .inl f))] s.heap.size = A at hD ⊢
  have hA : ∀ q : Nat, s.heap.size ≤ q → A q := fun q h => by rw [← hAe]; exact Or.inr h
  have hx := B.exec
  have hb : c.code = cJ7_copyOf_59c91 := B.bytes
  have hr := B.returns
  have hlocks := B.notSynchronized
  have hts := atoms_spec (ws := (.code yJ7_copyOf_59c91 cJ7_copyOf_59c91 3 (some (.array .int)) :: uw)) B.pre
  have hin : ∀ w ∈ uw, w.before ([Value.ref a, Value.int (nI L)] : List Value).toArray s = true := fun w hw => hts w (List.mem_cons_of_mem _ hw)
  have hown : s.vm.findClass RJ7 = some m.cls := findClass_of_methodNamed B.named
  have hS : va_S A s.heap s.heap [] := va_S.rf
  have hl := lv_entry ([.ref a, .int (nI L)]) (n := 3) (Nat.le_of_ble_eq_true rfl)
  rw [lg_entry_eq]
  generalize (lg_sl ([.ref a, .int (nI L)]) ++ List.replicate (3 - (lg_sl ([.ref a, .int (nI L)])).length) Slot.unset).toArray = ls at hl ⊢
  have hl : lv_has ls 3 [(0, .ref a), (1, .int (nI L))] := hl
  have hl0 : l0 < 65536 := by omega
  refine lv_iload_n (k := 1) hx hb (by decide +kernel) rfl (lv_at hl 1 rfl) ?_
  refine lv_aload_n (k := 0) hx hb (by decide +kernel) rfl (lv_at hl 0 rfl) ?_
  refine va_alen (D := D) hx hb hK hP 0 0 rfl rfl (v := nI l0) rfl (by decide +kernel) ?_
  refine lv_icmp_ne (off := 11) (tgt := 14) hx hb (by decide +kernel) (by decide) (fun _ => ?_) (fun q => absurd ((nI_eq (by omega) (by omega)).mp q) (by omega))
  refine lv_iload_n (k := 1) hx hb (by decide +kernel) rfl (lv_at hl 1 rfl) ?_
  refine va_newa (atype := .int) (ty := .int) (N' := L) (a0 := (L, .inl (fun _ => 0))) hx hb (hin _ uw_90) rfl hK hP hD hS hA (fun _ => rfl) (nI_pos (by omega)) (nI_clamp (by omega)) (by show L * 4 ≤ 536870912; omega) (by show 0 + 1 ≤ 1; omega) (by show 0 + L ≤ L; omega) (by decide +kernel) (fun q cA H1 hK1 hP1 hD1 hS1 => ?_)
  have ec : cA = cy 0 := ab_cls (i := 3) (j := 0) (by intro C h; cases h) hK1 rfl rfl
  subst ec
  have hP1 : va_P D vwCl [(a, .inl (cy 0, l0, .inl f)), (q, .inl (cy 0, L, .inl (fun _ => 0)))] H1 := hP1
  have hD1 : va_D A [(a, .inl (cy 0, l0, .inl f)), (q, .inl (cy 0, L, .inl (fun _ => 0)))] := hD1
  refine lv_astore_n (k := 2) (lv' := [(2, .ref q), (0, .ref a), (1, .int (nI L))]) hx hb (by decide +kernel) rfl hl (by decide) rfl (fun ls hl => ?_)
  refine lv_aload_n (k := 0) hx hb (by decide +kernel) rfl (lv_at hl 1 rfl) ?_
  refine lv_iconst (n := 0) (v := 0) hx hb (by decide +kernel) (by decide) ?_
  refine lv_aload_n (k := 2) hx hb (by decide +kernel) rfl (lv_at hl 0 rfl) ?_
  refine lv_iconst (n := 0) (v := 0) hx hb (by decide +kernel) (by decide) ?_
  refine lv_aload_n (k := 0) hx hb (by decide +kernel) rfl (lv_at hl 1 rfl) ?_
  refine va_alen (D := D) hx hb hK hP1 0 0 rfl rfl (v := nI l0) rfl (by decide +kernel) ?_
  refine lv_iload_n (k := 1) hx hb (by decide +kernel) rfl (lv_at hl 2 rfl) ?_
  refine va_mmin hx hb (by rw [hml, hl.1]) hown (hin _ uw_882) (hin _ uw_732) (hin _ uw_67) (hin _ uw_733) (by show 1 ≤ 1; omega) (Nat.le_of_ble_eq_true rfl) (by show 0 + 1 ≤ 1; omega) (by show 0 + L ≤ L; omega) (by decide +kernel) ?_
  rw [if_neg (nI_nlt (by omega) (by omega))]
  refine va_copyi (ty := .int) hx hb (by rw [hml, hl.1]) hown (hin _ uw_883) (hin _ uw_885) (hin _ uw_884) (hin _ uw_68) hK hP1 hD1 hS1 0 1 0 0 rfl rfl rfl rfl rfl (by decide) (by decide) (nI_pos (by omega)) (by rw [nI_clamp (by omega)]; show 0 + l0 ≤ l0; omega) (by rw [nI_clamp (by omega)]; show 0 + l0 ≤ L; omega) (fun i hi => rfl) (by show 1 ≤ 1; omega) (Nat.le_of_ble_eq_true rfl) (by decide +kernel) (fun H2 locs2 hP2 hD2 hS2 => ?_)
  rw [nI_clamp (by omega : l0 < 2 ^ 31)] at hP2 hD2
  have hP2 : va_P D vwCl [(a, .inl (cy 0, l0, .inl f)), (q, .inl (cy 0, L, .inl (va_cpy f (fun _ => 0) 0 0 l0)))] H2 := hP2
  have hD2 : va_D A [(a, .inl (cy 0, l0, .inl f)), (q, .inl (cy 0, L, .inl (va_cpy f (fun _ => 0) 0 0 l0)))] := hD2
  refine lv_aload_n (k := 2) hx hb (by decide +kernel) rfl (lv_at hl 0 rfl) ?_
  refine W.widen (k := 1) (n := L) (by omega) (by omega) ?_
  exact W.aret hx hb hr (Or.inr ⟨_, rfl⟩) (Or.inr ⟨q, rfl⟩) (fun t ht hW => ⟨⟨(), q, rfl, trivial, by rw [ht]; exact hP2, va_K.moved hW.alike hK, hD2⟩, hS2.F ht⟩) hS2.2.2 (by decide +kernel)
-- Ledger.grow
set_option maxRecDepth 20000 in
set_option maxHeartbeats 1000000 in
theorem sp_grow1 {p : Program} {l : Launch} {e : Env} {R : Room} {s : State} {m : MethodId} {args : Array Value} {below : List Frame} {meth : Method} {c : Code} {H : Heap} {locs : List Loc} {cells slots : Nat} {Q : State → Prop} {A : Nat → Prop} {ls : Array Slot} {D : va_G} {cy : Nat → ClassId} (hx : p.tables.exec = Jvm.exec) (hb : c.code = cX3_grow) (hml : c.maxLocals = 2) (hown : s.vm.findClass RX3 = some m.cls) (hts : ∀ w ∈ (Cond.code yX3_grow cX3_grow 2 none :: uw), w.before args s = true) (hA : ∀ q, s.heap.size ≤ q → A q)
    {ws : va_W} {fs : List Value} {h9 a l0 L j idx pc ki : Nat} {f : Nat → Int32} (hK : va_K D vwCl (ab_tys cy) s) (hP : va_P D vwCl ws H) (hD : va_D A ws) (hS : va_S A s.heap H locs) (h9w : ws[9]? = some (h9, .inr (3, fs))) (haw : ws[ki]? = some (a, .inl (cy 0, l0, .inl f))) (hfj : fs[j]? = some (.ref a)) (hL : l0 < L) (hL2 : L < 65536) (hj : j < 7) (hfin : (TX3 j).2.2.2 = false) (hty : tyX3 j = .array .int) (hlink : Cond.fieldLink RX3 idx "GrainDole$Ledger" (TX3 j).2.1 (TX3 j).2.2.1 ∈ uw) (hrf : (TX3 j).1 = "GrainDole$Ledger")
    (d0 : decode cX3_grow pc = .ok (.aload_n 0, 1)) (d1 : decode cX3_grow (pc + 1) = .ok (.aload_n 0, 1)) (d2 : decode cX3_grow (pc + 2) = .ok (.getfield idx, 3)) (d5 : decode cX3_grow (pc + 5) = .ok (.iload_n 1, 1)) (d6 : decode cX3_grow (pc + 6) = .ok (.invokestatic 40, 3)) (d9 : decode cX3_grow (pc + 9) = .ok (.putfield idx, 3))
    (hl : lv_has ls 2 [(0, .ref h9), (1, .int (nI L))]) (hc : cells + 1 ≤ R.cells) (hs : slots + L ≤ R.slots) (hfr : 2 ≤ R.frames) (hlo : 62 ≤ R.locals)
    (kk : ∀ (q : Nat) (H1 : Heap) (locs1 : List Loc), va_P D vwCl ((ws ++ ([(q, .inl (cy 0, L, .inl (va_cpy f (fun _ => 0) 0 0 l0)))] : va_W)).set 9 (h9, .inr (3, fs.set j (.ref q)))) H1 → va_D A ((ws ++ ([(q, .inl (cy 0, L, .inl (va_cpy f (fun _ => 0) 0 0 l0)))] : va_W)).set 9 (h9, .inr (3, fs.set j (.ref q)))) → va_S A s.heap H1 locs1 → W p l e R s m args below meth c H1 locs1 (cells + 1) (slots + L) Q (F0 m (pc + 12) ls [])) : W p l e R s m args below meth c H locs cells slots Q (F0 m pc ls []) := by
  have hin : ∀ w ∈ uw, w.before args s = true := fun w hw => hts w (List.mem_cons_of_mem _ hw)
  have hinX : ∀ w ∈ u_ws RX3 TX3 7, w ∈ (Cond.code yX3_grow cX3_grow 2 none :: uw) := fun w hw => List.mem_cons_of_mem _ (in_X3 w hw)
  have hl9 := (List.getElem?_eq_some_iff.mp h9w).1
  refine lv_aload_n hx hb d0 rfl (lv_at hl 0 rfl) ?_
  refine lv_aload_n hx hb d1 rfl (lv_at hl 0 rfl) ?_
  refine va_get (D := D) (C := RX3) (T := TX3) (N := 7) (ref := "GrainDole$Ledger") hx hb hts hinX hown hK hP 9 h9w rfl j hj (hin _ hlink) (fun x hx => by rw [← hrf]; exact hx) hfj d2 ?_
  refine lv_iload_n hx hb d5 rfl (lv_at hl 1 rfl) ?_
  have hPc : va_P D vwCl [(a, .inl (cy 0, l0, .inl f))] H := by
    intro k q hk
    have hz : k < 1 := (List.getElem?_eq_some_iff.mp hk).1
    rw [show k = 0 by omega] at hk
    cases hk
    exact hP ki _ haw
  have hDc : va_D A [(a, .inl (cy 0, l0, .inl f))] := by
    refine ⟨fun i j x y hi hj _ => ?_, fun k q hk => ?_⟩
    · have h1 : i < 1 := (List.getElem?_eq_some_iff.mp hi).1
      have h2 : j < 1 := (List.getElem?_eq_some_iff.mp hj).1
      omega
    · have hz : k < 1 := (List.getElem?_eq_some_iff.mp hk).1
      rw [show k = 0 by omega] at hk
      cases hk
      exact hD.2 ki _ haw
  have hF := ab_free hDc hS hA
  have hcb : CallB R s args RX3 40 yJ7_copyOf_59c91 cJ7_copyOf_59c91 3 (some (.array .int)) (Cond.code yJ7_copyOf_59c91 cJ7_copyOf_59c91 3 (some (.array .int)) :: uw) { frames := 1, cells := 1, slots := L, locals := 40 } 1 L 2 := callB_of 2 hts (sp_good uw_874) rfl rfl rfl (hin _ uw_66) (hin _ uw_872) (by decide +kernel) ⟨hfr, hlo⟩
  refine va_callr (va_runS (As := [.ref a, .int (nI L)]) (rest := [.ref h9]) ⟨hx, hb, hml, hown, hts⟩ (sp_copyOf l D cy a l0 L H.size f hL hL2) ⟨hcb, hin _ uw_873⟩ ⟨fun a U g mk q => by obtain ⟨q0, q1, qP, qK, qD⟩ := q; exact ⟨q0, q1, qP, va_K.moved (u := U) (U := U.calling g mk a) (Vm.Alike.refl U.vm) qK, qD⟩, fun U hU hW => ⟨rfl, by rw [hU], by rw [hU]; exact hPc, va_K.moved hW.alike hK, hDc.weaken (fun _ _ _ _ => trivial)⟩⟩ rfl rfl hl.1 rfl (lv_room (Nat.le_of_ble_eq_true rfl)) d6 ⟨hc, hs⟩) hS (fun q _ h => hF q h) hF (fun u q t H1 locs1 ht hvm hw hB hz hk hS1 => ?_)
  obtain ⟨gP, gK, gD⟩ := hB
  rw [ht] at gP
  have e0 := gP 0 _ rfl
  have e1 := gP 1 _ rfl
  have hP1 : va_P D vwCl (ws ++ ([(q, .inl (cy 0, L, .inl (va_cpy f (fun _ => 0) 0 0 l0)))] : va_W)) H1 := by
    refine va_P.app (fun k x hx => ?_) (fun k x hx => ?_)
    · by_cases hxa : x.1 = a
      · have := hD.1 k ki x _ hx haw hxa
        subst this
        rw [haw] at hx
        cases hx
        exact e0
      · refine (hP k x hx).kept (hk x.1 ((hP k x hx).lt) ?_)
        rintro (⟨k2, e2, h2⟩ | h2)
        · have hz2 : k2 < 1 := (List.getElem?_eq_some_iff.mp h2).1
          rw [show k2 = 0 by omega] at h2
          cases h2
          exact hxa rfl
        · exact absurd ((hP k x hx).lt) (Nat.not_lt.mpr h2)
    · have hz2 : k < 1 := (List.getElem?_eq_some_iff.mp hx).1
      rw [show k = 0 by omega] at hx
      cases hx
      exact e1
  have hq9 : H.size ≤ q := by
    rcases gD.2 1 _ rfl with ⟨k2, e2, h2⟩ | h2
    · have hz2 : k2 < 1 := (List.getElem?_eq_some_iff.mp h2).1
      rw [show k2 = 0 by omega] at h2
      cases h2
      exact absurd (gD.1 0 1 _ _ rfl rfl rfl) (by decide)
    · exact h2
  have hD1 : va_D A (ws ++ ([(q, .inl (cy 0, L, .inl (va_cpy f (fun _ => 0) 0 0 l0)))] : va_W)) := by
    refine va_D.app hD ⟨fun i j x y hi hj _ => ?_, fun k x hx => ?_⟩ (fun i j x y hi hj he => ?_)
    · have h1 : i < 1 := (List.getElem?_eq_some_iff.mp hi).1
      have h2 : j < 1 := (List.getElem?_eq_some_iff.mp hj).1
      omega
    · have hz2 : k < 1 := (List.getElem?_eq_some_iff.mp hx).1
      rw [show k = 0 by omega] at hx
      cases hx
      exact hA _ (Nat.le_trans hS.1 hq9)
    · have hz2 : j < 1 := (List.getElem?_eq_some_iff.mp hj).1
      rw [show j = 0 by omega] at hj
      cases hj
      have := (hP i x hi).lt
      rw [he] at this
      exact absurd this (Nat.not_lt.mpr hq9)
  have h9w1 : (ws ++ ([(q, .inl (cy 0, L, .inl (va_cpy f (fun _ => 0) 0 0 l0)))] : va_W))[9]? = some (h9, .inr (3, fs)) := by
    rw [List.getElem?_append_left hl9]
    exact h9w
  refine va_put (D := D) (v := .ref q) (ty := .array .int) (C := RX3) (T := TX3) (N := 7) (ref := "GrainDole$Ledger") hx hb hts hinX tyX3 tyX3_ok nmX3 hown hK hP1 hD1 hS1 9 h9w1 rfl j hj (hin _ hlink) (fun x hx => by rw [← hrf]; exact hx) hfin (by rw [← hty]; exact tyX3_ok j hj) rfl rfl ((List.getElem?_eq_some_iff.mp hfj).1) d9 (fun H2 locs2 hP2 hD2 hS2 => ?_)
  exact kk q H2 locs2 hP2 hD2 hS2
theorem sp_set {ws : va_W} {x y : Nat × va_E} {k : Nat} (hk : k ≠ 9) (hl : k < ws.length) : ((ws ++ [x]).set 9 y)[k]? = ws[k]? := by
  rw [List.getElem?_set_ne (Ne.symm hk), List.getElem?_append_left hl]
theorem sp_set9 {ws : va_W} {x y : Nat × va_E} (hl : 9 < ws.length) : ((ws ++ [x]).set 9 y)[9]? = some y := by
  rw [List.getElem?_set_self (by rw [List.length_append]; omega)]
theorem sp_setL {ws : va_W} {x y : Nat × va_E} (hl : 9 < ws.length) : ((ws ++ [x]).set 9 y)[ws.length]? = some x := by
  rw [List.getElem?_set_ne (by omega), List.getElem?_append_right (Nat.le_refl _), Nat.sub_self]
  rfl
theorem sp_len {ws : va_W} {x y : Nat × va_E} : ((ws ++ [x]).set 9 y).length = ws.length + 1 := by
  rw [List.length_set, List.length_append]
  rfl
theorem sp_nomv : ∀ x : Fin 89, x.val ≠ 9 → (match gd_lay x.val with
  | .inl o => o.2.all (fun z => match z with
    | some r => !gd_mv r
    | none => true)
  | .inr _ => true) = true := by decide +kernel
theorem sp_E {cy : Nat → ClassId} {ad ad' : Nat → Nat} {μ : ab_S} {L k : Nat} (hk : k < 89) (h9 : k ≠ 9) (hm : gd_mv k = false) (ha : ∀ k, gd_mv k = false → ad' k = ad k) : ab_E gd_lay cy ad' (gd_grow μ L) k = ab_E gd_lay cy ad μ k := by
  have h1 := sp_nomv ⟨k, hk⟩ h9
  dsimp only at h1
  unfold ab_E
  have e1 : (gd_grow μ L).1 k = μ.1 k := by unfold gd_grow; dsimp only; rw [hm]; rfl
  have e2 : (gd_grow μ L).2 k = μ.2 k := by unfold gd_grow; dsimp only; rw [hm]; rfl
  rw [e1, e2]
  cases hlk : gd_lay k with
  | inr t => rfl
  | inl o =>
    rw [hlk] at h1
    dsimp only at h1 ⊢
    congr 2
    unfold ab_f
    apply List.ext_getElem?
    intro i
    rw [List.getElem?_mapIdx, List.getElem?_mapIdx]
    cases hi : o.2[i]? with
    | none => rfl
    | some z => cases z with
      | none => rfl
      | some r =>
        have := List.all_eq_true.mp h1 _ (List.mem_of_getElem? hi)
        have hr : gd_mv r = false := by simpa using this
        show some (Value.ref (ad' r)) = some (Value.ref (ad r))
        rw [ha r hr]
set_option maxRecDepth 20000 in
set_option maxHeartbeats 1000000 in
theorem sp_grow {l : Launch} {D : va_G} {cy : Nat → ClassId} {adS : Nat → Nat} {as : List ab_V} {μ : ab_S} {b : ab_B} {Q : ab_Q} {K : ab_K} {C : ab_C} (h : o_grow K C (ab_init gd_I 25 as) [] μ b Q) (hlen : as.length ≤ i_n gd_I 25) : ab_Met l gd_I gd_lay gd_N gd_mv vwCl D cy adS (gd_X adS) 25 as μ b Q := by
  have hn2 : i_n gd_I 25 = 2 := rfl
  rw [hn2] at hlen
  obtain ⟨L, rfl, hL, hmv, hb1, hb2, hQ⟩ : ∃ L : Nat, as = [.inr 9, .inl (nI L)] ∧ L < 65536 ∧ (∀ c, gd_mv c = true → μ.2 c < L) ∧ 4 ≤ b.1 ∧ 4 * L ≤ b.2 ∧ Q none (gd_grow μ L) := by
    unfold o_grow at h
    split at h
    · next c0 n0 he =>
      match as, hlen, he with
      | [], _, he => exact absurd (List.cons.inj he).1 (by intro q; cases q)
      | [a], _, he => exact absurd (List.cons.inj (List.cons.inj he).2).1 (by intro q; cases q)
      | [a, c], _, he =>
        have e1 := (List.cons.inj he).1
        have e2 := (List.cons.inj (List.cons.inj he).2).1
        cases e1
        cases e2
        obtain ⟨rfl, L, rfl, h⟩ := h
        exact ⟨L, rfl, h⟩
      | _ :: _ :: _ :: _, hlen, _ => simp at hlen
    · exact h.elim
  intro ad sz had
  refine Met.ofW (cc := cX3_grow) (maxL := 2) (ret := none) (by decide +kernel) rfl ?_
  intro p e s m args below meth c s₁ B hml hv
  obtain ⟨rfl, hsz, hP, hK, hD0, hX⟩ := hv
  subst hsz
  have hD := hD0.self (sz := s.heap.size)
  generalize hAe : va_A (ab_W gd_lay gd_N cy ad μ) s.heap.size = A at hD ⊢
  have hA : ∀ q : Nat, s.heap.size ≤ q → A q := fun q h => by rw [← hAe]; exact Or.inr h
  have hx := B.exec
  have hb : c.code = cX3_grow := B.bytes
  have hr := B.returns
  have hlocks := B.notSynchronized
  have hts : ∀ w ∈ (Cond.code yX3_grow cX3_grow 2 none :: uw), w.before ([Value.ref (ad 9), Value.int (nI L)] : List Value).toArray s = true := atoms_spec (ws := i_w gd_I 25) B.pre
  have hown : s.vm.findClass RX3 = some m.cls := findClass_of_methodNamed B.named
  have hS : va_S A s.heap s.heap [] := va_S.rf
  have hl := lv_entry ([.ref (ad 9), .int (nI L)]) (n := 2) (Nat.le_of_ble_eq_true rfl)
  show W p l e _ s m _ below meth c s.heap [] 0 0 _ (entryFrame m ([Value.ref (ad 9), Value.int (nI L)] : List Value).toArray 2)
  rw [lg_entry_eq]
  generalize (lg_sl ([.ref (ad 9), .int (nI L)]) ++ List.replicate (2 - (lg_sl ([.ref (ad 9), .int (nI L)])).length) Slot.unset).toArray = ls at hl ⊢
  have hl : lv_has ls 2 [(0, .ref (ad 9)), (1, .int (nI L))] := hl
  have hb1 : 4 ≤ b.1 := hb1
  have w0 : ∀ k, k < 89 → (ab_W gd_lay gd_N cy ad μ)[k]? = some (ad k, ab_E gd_lay cy ad μ k) := fun k hk => ab_W_at hk
  have len0 : (ab_W gd_lay gd_N cy ad μ).length = 89 := ab_W_len
  generalize hws : ab_W gd_lay gd_N cy ad μ = ws0 at hP hD w0 len0
  have k46 := hmv 46 rfl
  have k47 := hmv 47 rfl
  have k48 := hmv 48 rfl
  have k49 := hmv 49 rfl
  refine sp_grow1 (j := 2) (idx := 20) (ki := 46) hx hb hml hown hts hA hK hP hD hS (w0 9 (by decide)) (w0 46 (by decide)) rfl k46 hL (by decide) rfl rfl uw_278 rfl (by decide +kernel) (by decide +kernel) (by decide +kernel) (by decide +kernel) (by decide +kernel) (by decide +kernel) hl (by show 0 + 1 ≤ b.1; omega) (by show 0 + L ≤ b.2; omega) (Nat.le_of_ble_eq_true rfl) (Nat.le_of_ble_eq_true rfl) (fun q2 H2 locs2 hP2 hD2 hS2 => ?_)
  refine sp_grow1 (j := 3) (idx := 23) (ki := 47) hx hb hml hown hts hA hK hP2 hD2 hS2 (sp_set9 (by rw [len0]; decide)) ((sp_set (by decide) (by rw [len0]; decide)).trans (w0 47 (by decide))) rfl k47 hL (by decide) rfl rfl uw_279 rfl (by decide +kernel) (by decide +kernel) (by decide +kernel) (by decide +kernel) (by decide +kernel) (by decide +kernel) hl (by show 0 + 1 + 1 ≤ b.1; omega) (by show 0 + L + L ≤ b.2; omega) (Nat.le_of_ble_eq_true rfl) (Nat.le_of_ble_eq_true rfl) (fun q3 H3 locs3 hP3 hD3 hS3 => ?_)
  refine sp_grow1 (j := 4) (idx := 26) (ki := 48) hx hb hml hown hts hA hK hP3 hD3 hS3 (sp_set9 (by rw [sp_len, len0]; decide)) ((sp_set (by decide) (by rw [sp_len, len0]; decide)).trans ((sp_set (by decide) (by rw [len0]; decide)).trans (w0 48 (by decide)))) rfl k48 hL (by decide) rfl rfl uw_280 rfl (by decide +kernel) (by decide +kernel) (by decide +kernel) (by decide +kernel) (by decide +kernel) (by decide +kernel) hl (by show 0 + 1 + 1 + 1 ≤ b.1; omega) (by show 0 + L + L + L ≤ b.2; omega) (Nat.le_of_ble_eq_true rfl) (Nat.le_of_ble_eq_true rfl) (fun q4 H4 locs4 hP4 hD4 hS4 => ?_)
  refine sp_grow1 (j := 5) (idx := 29) (ki := 49) hx hb hml hown hts hA hK hP4 hD4 hS4 (sp_set9 (by rw [sp_len, sp_len, len0]; decide)) ((sp_set (by decide) (by rw [sp_len, sp_len, len0]; decide)).trans ((sp_set (by decide) (by rw [sp_len, len0]; decide)).trans ((sp_set (by decide) (by rw [len0]; decide)).trans (w0 49 (by decide))))) rfl k49 hL (by decide) rfl rfl uw_281 rfl (by decide +kernel) (by decide +kernel) (by decide +kernel) (by decide +kernel) (by decide +kernel) (by decide +kernel) hl (by show 0 + 1 + 1 + 1 + 1 ≤ b.1; omega) (by show 0 + L + L + L + L ≤ b.2; omega) (Nat.le_of_ble_eq_true rfl) (Nat.le_of_ble_eq_true rfl) (fun q5 H5 locs5 hP5 hD5 hS5 => ?_)
  obtain ⟨ad', had'⟩ : ∃ ad' : Nat → Nat, ad' = fun k => if k = 46 then q2 else if k = 47 then q3 else if k = 48 then q4 else if k = 49 then q5 else ad k := ⟨_, rfl⟩
  have ha : ∀ k, gd_mv k = false → ad' k = ad k := by
    intro k hk
    rw [had']
    dsimp only
    rw [if_neg (by rintro rfl; cases hk), if_neg (by rintro rfl; cases hk), if_neg (by rintro rfl; cases hk), if_neg (by rintro rfl; cases hk)]
  -- where each cell of the new world lies
  have key : ∀ k, k < 89 → ∃ i, (((((((((ws0 ++ ([(q2, .inl (cy 0, L, .inl (va_cpy (μ.1 46) (fun _ => 0) 0 0 (μ.2 46))))] : va_W)).set 9 (ad 9, .inr (3, (ab_f ad (μ.1 9) [some 44, some 45, some 46, some 47, some 48, some 49, none]).set 2 (.ref q2)))) ++ ([(q3, .inl (cy 0, L, .inl (va_cpy (μ.1 47) (fun _ => 0) 0 0 (μ.2 47))))] : va_W)).set 9 (ad 9, .inr (3, ((ab_f ad (μ.1 9) [some 44, some 45, some 46, some 47, some 48, some 49, none]).set 2 (.ref q2)).set 3 (.ref q3)))) ++ ([(q4, .inl (cy 0, L, .inl (va_cpy (μ.1 48) (fun _ => 0) 0 0 (μ.2 48))))] : va_W)).set 9 (ad 9, .inr (3, (((ab_f ad (μ.1 9) [some 44, some 45, some 46, some 47, some 48, some 49, none]).set 2 (.ref q2)).set 3 (.ref q3)).set 4 (.ref q4)))) ++ ([(q5, .inl (cy 0, L, .inl (va_cpy (μ.1 49) (fun _ => 0) 0 0 (μ.2 49))))] : va_W)).set 9 (ad 9, .inr (3, ((((ab_f ad (μ.1 9) [some 44, some 45, some 46, some 47, some 48, some 49, none]).set 2 (.ref q2)).set 3 (.ref q3)).set 4 (.ref q4)).set 5 (.ref q5)))))[i]? = some (ad' k, ab_E gd_lay cy ad' (gd_grow μ L) k) ∧ i = (if k = 46 then 89 else if k = 47 then 90 else if k = 48 then 91 else if k = 49 then 92 else k) := by
    intro k hk
    by_cases h9 : k = 9
    · subst h9
      refine ⟨9, ?_, rfl⟩
      rw [sp_set9 (by rw [sp_len, sp_len, sp_len, len0]; decide)]
      rw [ha 9 rfl]
      have e0 : ad' 44 = ad 44 := ha 44 rfl
      have e1 : ad' 45 = ad 45 := ha 45 rfl
      have e2 : ad' 46 = q2 := by rw [had']; rfl
      have e3 : ad' 47 = q3 := by rw [had']; rfl
      have e4 : ad' 48 = q4 := by rw [had']; rfl
      have e5 : ad' 49 = q5 := by rw [had']; rfl
      show some (ad 9, Sum.inr (3, [Value.ref (ad 44), Value.ref (ad 45), Value.ref q2, Value.ref q3, Value.ref q4, Value.ref q5, Value.int (μ.1 9 6)])) = some (ad 9, Sum.inr (3, [Value.ref (ad' 44), Value.ref (ad' 45), Value.ref (ad' 46), Value.ref (ad' 47), Value.ref (ad' 48), Value.ref (ad' 49), Value.int (μ.1 9 6)]))
      rw [e0, e1, e2, e3, e4, e5]
    · by_cases h46 : k = 46
      · subst h46
        refine ⟨89, ?_, rfl⟩
        rw [sp_set (by decide) (by rw [sp_len, sp_len, sp_len, len0]; decide), sp_set (by decide) (by rw [sp_len, sp_len, len0]; decide), sp_set (by decide) (by rw [sp_len, len0]; decide)]
        have := sp_setL (ws := ws0) (x := (q2, .inl (cy 0, L, .inl (va_cpy (μ.1 46) (fun _ => 0) 0 0 (μ.2 46))))) (y := (ad 9, .inr (3, (ab_f ad (μ.1 9) [some 44, some 45, some 46, some 47, some 48, some 49, none]).set 2 (.ref q2)))) (by rw [len0]; decide)
        rw [len0] at this
        rw [this, show ad' 46 = q2 from by rw [had']; rfl]
        rfl
      · by_cases h47 : k = 47
        · subst h47
          refine ⟨90, ?_, rfl⟩
          rw [sp_set (by decide) (by rw [sp_len, sp_len, sp_len, len0]; decide), sp_set (by decide) (by rw [sp_len, sp_len, len0]; decide)]
          have := sp_setL (ws := (ws0 ++ ([(q2, .inl (cy 0, L, .inl (va_cpy (μ.1 46) (fun _ => 0) 0 0 (μ.2 46))))] : va_W)).set 9 (ad 9, .inr (3, (ab_f ad (μ.1 9) [some 44, some 45, some 46, some 47, some 48, some 49, none]).set 2 (.ref q2)))) (x := (q3, .inl (cy 0, L, .inl (va_cpy (μ.1 47) (fun _ => 0) 0 0 (μ.2 47))))) (y := (ad 9, .inr (3, ((ab_f ad (μ.1 9) [some 44, some 45, some 46, some 47, some 48, some 49, none]).set 2 (.ref q2)).set 3 (.ref q3)))) (by rw [sp_len, len0]; decide)
          rw [sp_len, len0] at this
          rw [this, show ad' 47 = q3 from by rw [had']; rfl]
          rfl
        · by_cases h48 : k = 48
          · subst h48
            refine ⟨91, ?_, rfl⟩
            rw [sp_set (by decide) (by rw [sp_len, sp_len, sp_len, len0]; decide)]
            have := sp_setL (ws := ((((ws0 ++ ([(q2, .inl (cy 0, L, .inl (va_cpy (μ.1 46) (fun _ => 0) 0 0 (μ.2 46))))] : va_W)).set 9 (ad 9, .inr (3, (ab_f ad (μ.1 9) [some 44, some 45, some 46, some 47, some 48, some 49, none]).set 2 (.ref q2)))) ++ ([(q3, .inl (cy 0, L, .inl (va_cpy (μ.1 47) (fun _ => 0) 0 0 (μ.2 47))))] : va_W)).set 9 (ad 9, .inr (3, ((ab_f ad (μ.1 9) [some 44, some 45, some 46, some 47, some 48, some 49, none]).set 2 (.ref q2)).set 3 (.ref q3))))) (x := (q4, .inl (cy 0, L, .inl (va_cpy (μ.1 48) (fun _ => 0) 0 0 (μ.2 48))))) (y := (ad 9, .inr (3, (((ab_f ad (μ.1 9) [some 44, some 45, some 46, some 47, some 48, some 49, none]).set 2 (.ref q2)).set 3 (.ref q3)).set 4 (.ref q4)))) (by rw [sp_len, sp_len, len0]; decide)
            rw [sp_len, sp_len, len0] at this
            rw [this, show ad' 48 = q4 from by rw [had']; rfl]
            rfl
          · by_cases h49 : k = 49
            · subst h49
              refine ⟨92, ?_, rfl⟩
              have := sp_setL (ws := ((((((ws0 ++ ([(q2, .inl (cy 0, L, .inl (va_cpy (μ.1 46) (fun _ => 0) 0 0 (μ.2 46))))] : va_W)).set 9 (ad 9, .inr (3, (ab_f ad (μ.1 9) [some 44, some 45, some 46, some 47, some 48, some 49, none]).set 2 (.ref q2)))) ++ ([(q3, .inl (cy 0, L, .inl (va_cpy (μ.1 47) (fun _ => 0) 0 0 (μ.2 47))))] : va_W)).set 9 (ad 9, .inr (3, ((ab_f ad (μ.1 9) [some 44, some 45, some 46, some 47, some 48, some 49, none]).set 2 (.ref q2)).set 3 (.ref q3)))) ++ ([(q4, .inl (cy 0, L, .inl (va_cpy (μ.1 48) (fun _ => 0) 0 0 (μ.2 48))))] : va_W)).set 9 (ad 9, .inr (3, (((ab_f ad (μ.1 9) [some 44, some 45, some 46, some 47, some 48, some 49, none]).set 2 (.ref q2)).set 3 (.ref q3)).set 4 (.ref q4))))) (x := (q5, .inl (cy 0, L, .inl (va_cpy (μ.1 49) (fun _ => 0) 0 0 (μ.2 49))))) (y := (ad 9, .inr (3, ((((ab_f ad (μ.1 9) [some 44, some 45, some 46, some 47, some 48, some 49, none]).set 2 (.ref q2)).set 3 (.ref q3)).set 4 (.ref q4)).set 5 (.ref q5)))) (by rw [sp_len, sp_len, sp_len, len0]; decide)
              rw [sp_len, sp_len, sp_len, len0] at this
              rw [this, show ad' 49 = q5 from by rw [had']; rfl]
              rfl
            · have hm : gd_mv k = false := by
                unfold gd_mv
                cases h1 : Nat.ble 46 k with
                | false => rfl
                | true =>
                  have h1 := Nat.le_of_ble_eq_true h1
                  cases h2 : Nat.ble k 49 with
                  | false => rfl
                  | true =>
                    have h2 := Nat.le_of_ble_eq_true h2
                    omega
              refine ⟨k, ?_, by rw [if_neg h46, if_neg h47, if_neg h48, if_neg h49]⟩
              rw [sp_set h9 (by rw [sp_len, sp_len, sp_len, len0]; omega), sp_set h9 (by rw [sp_len, sp_len, len0]; omega), sp_set h9 (by rw [sp_len, len0]; omega), sp_set h9 (by rw [len0]; omega), w0 k hk, sp_E hk h9 hm ha, ha k hm]
  have hPn : va_P D vwCl (ab_W gd_lay gd_N cy ad' (gd_grow μ L)) H5 := by
    intro k x hx
    have hk : k < 89 := by
      have := (List.getElem?_eq_some_iff.mp hx).1
      rwa [ab_W_len] at this
    rw [ab_W_at hk] at hx
    cases hx
    obtain ⟨i, hi, -⟩ := key k hk
    exact hP5 i _ hi
  have hDn : va_D A (ab_W gd_lay gd_N cy ad' (gd_grow μ L)) := by
    refine ⟨fun i j x y hi hj he => ?_, fun k x hx => ?_⟩
    · have hi2 : i < 89 := by
        have := (List.getElem?_eq_some_iff.mp hi).1
        rwa [ab_W_len] at this
      have hj2 : j < 89 := by
        have := (List.getElem?_eq_some_iff.mp hj).1
        rwa [ab_W_len] at this
      rw [ab_W_at hi2] at hi
      rw [ab_W_at hj2] at hj
      cases hi
      cases hj
      obtain ⟨i', g1, g2⟩ := key i hi2
      obtain ⟨j', g3, g4⟩ := key j hj2
      have := hD5.1 i' j' _ _ g1 g3 he
      rw [g2, g4] at this
      have hi3 : i < 89 := hi2
      have hj3 : j < 89 := hj2
      split at this <;> split at this <;> (try split at this) <;> (try split at this) <;> (try split at this) <;> (try split at this) <;> (try split at this) <;> (try split at this) <;> omega
    · have hk : k < 89 := by
        have := (List.getElem?_eq_some_iff.mp hx).1
        rwa [ab_W_len] at this
      rw [ab_W_at hk] at hx
      cases hx
      obtain ⟨i, hi, -⟩ := key k hk
      exact hD5.2 i _ hi
  refine W.widen (k := b.1) (n := b.2) (by omega) (by omega) ?_
  exact W.vret hx hb hr (fun t ht hW => ⟨⟨(gd_grow μ L, ad'), rfl, hQ, ha, by rw [ht]; exact hPn, va_K.moved hW.alike hK, hDn⟩, hS5.F ht⟩) hS5.2.2 (by decide +kernel)
