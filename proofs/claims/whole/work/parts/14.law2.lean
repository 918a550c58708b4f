section LW
variable {p : Program} {l : Launch} {e : Env} {s : State} {m : MethodId} {below : List Frame} {meth : Method} {c : Code} {b L : Nat} {xs : Nat → Int32} {D : va_G} {cy : Nat → ClassId} {adS : Nat → Nat} {rel : Nat → ab_S → Prop}
set_option maxRecDepth 20000 in
set_option maxHeartbeats 4000000 in
theorem lw_case_0 {T : Nat} {i : Nat} (hL : L ≤ 3072) (A0 : lw_At p s m meth c b L xs) (hK : va_K D vwCl (ab_tys cy) s) (hX9 : gd_X adS (fun q => s.heap.size ≤ q) s) (hi : i + 6 ≤ L) (hT : T ≤ 120) (hsim : ∀ (μ : ab_S) (a0 a1 a2 a3 a4 : Int32), rel T μ → lw_sim1 rel 93 126 T (0, 0) [a0, a1, a2, a3, a4] μ) (kk : lw_St p l e s m below meth c b D cy adS rel i T 918) : lw_St p l e s m below meth c b D cy adS rel i T 136 := by
  obtain ⟨hx, hb, hr, hml, hown, hts, hXs, hbl, hlocks, hgv⟩ := A0
  have hbA : ¬ (fun q : Nat => s.heap.size ≤ q) b := Nat.not_le.mpr hbl
  have h_1 : vp_in (nI i + 1) L := by rw [show nI i + 1 = nI (i + 1) from nI_add i 1]; exact vp_in_nI (by omega) (by omega)
  have h_2 : vp_in (nI i + 2) L := by rw [show nI i + 2 = nI (i + 2) from nI_add i 2]; exact vp_in_nI (by omega) (by omega)
  have h_3 : vp_in (nI i + 3) L := by rw [show nI i + 3 = nI (i + 3) from nI_add i 3]; exact vp_in_nI (by omega) (by omega)
  have h_4 : vp_in (nI i + 4) L := by rw [show nI i + 4 = nI (i + 4) from nI_add i 4]; exact vp_in_nI (by omega) (by omega)
  have h_5 : vp_in (nI i + 5) L := by rw [show nI i + 5 = nI (i + 5) from nI_add i 5]; exact vp_in_nI (by omega) (by omega)
  intro μ ad H locs ls hrel had hP hD hS hl
  refine lv_aload_n (k := 1) hx hb (by decide +kernel) rfl (lv_at hl 1 rfl) ?_
  refine lv_aload_n (k := 0) hx hb (by decide +kernel) rfl (lv_at hl 0 rfl) ?_
  refine lv_iload_n (k := 3) hx hb (by decide +kernel) rfl (lv_at hl 3 rfl) ?_
  refine lv_iconst (n := 1) (v := 1) hx hb (by decide +kernel) (by decide) ?_
  refine lv_iadd hx hb (by decide +kernel) ?_
  refine va_sld hx hb hXs hbl hbA hS h_1 (by decide +kernel) ?_
  refine lv_aload_n (k := 0) hx hb (by decide +kernel) rfl (lv_at hl 0 rfl) ?_
  refine lv_iload_n (k := 3) hx hb (by decide +kernel) rfl (lv_at hl 3 rfl) ?_
  refine lv_iconst (n := 2) (v := 2) hx hb (by decide +kernel) (by decide) ?_
  refine lv_iadd hx hb (by decide +kernel) ?_
  refine va_sld hx hb hXs hbl hbA hS h_2 (by decide +kernel) ?_
  refine lv_aload_n (k := 0) hx hb (by decide +kernel) rfl (lv_at hl 0 rfl) ?_
  refine lv_iload_n (k := 3) hx hb (by decide +kernel) rfl (lv_at hl 3 rfl) ?_
  refine lv_iconst (n := 3) (v := 3) hx hb (by decide +kernel) (by decide) ?_
  refine lv_iadd hx hb (by decide +kernel) ?_
  refine va_sld hx hb hXs hbl hbA hS h_3 (by decide +kernel) ?_
  refine lv_aload_n (k := 0) hx hb (by decide +kernel) rfl (lv_at hl 0 rfl) ?_
  refine lv_iload_n (k := 3) hx hb (by decide +kernel) rfl (lv_at hl 3 rfl) ?_
  refine lv_iconst (n := 4) (v := 4) hx hb (by decide +kernel) (by decide) ?_
  refine lv_iadd hx hb (by decide +kernel) ?_
  refine va_sld hx hb hXs hbl hbA hS h_4 (by decide +kernel) ?_
  refine lv_aload_n (k := 0) hx hb (by decide +kernel) rfl (lv_at hl 0 rfl) ?_
  refine lv_iload_n (k := 3) hx hb (by decide +kernel) rfl (lv_at hl 3 rfl) ?_
  refine lv_iconst (n := 5) (v := 5) hx hb (by decide +kernel) (by decide) ?_
  refine lv_iadd hx hb (by decide +kernel) ?_
  refine va_sld hx hb hXs hbl hbA hS h_5 (by decide +kernel) ?_
  refine lw_call (M := 93) (n := 5) (idx := 13) (ci := 10) (k := 0) (as := [(xs (nI i + 1).toNatClampNeg), (xs (nI i + 2).toNatClampNeg), (xs (nI i + 3).toNatClampNeg), (xs (nI i + 4).toNatClampNeg), (xs (nI i + 5).toNatClampNeg)]) (rest := []) (bb := (0, 0)) hx hb hml hown hts hK hX9 io_93 (by decide +kernel) rfl rfl uw_360 uw_361 uw_362 (by decide +kernel) (by decide +kernel) (by decide +kernel) (by decide +kernel) ⟨_, rfl⟩ rfl rfl rfl (Nat.le_of_ble_eq_true rfl) (hsim μ (xs (nI i + 1).toNatClampNeg) (xs (nI i + 2).toNatClampNeg) (xs (nI i + 3).toNatClampNeg) (xs (nI i + 4).toNatClampNeg) (xs (nI i + 5).toNatClampNeg) hrel) had hP hD hS hl.1 (by first | omega | (simp only []; omega)) (by first | omega | (simp only []; omega)) (fun v μ1 ad1 H locs hQ ha hP hD hS => ?_)
  obtain ⟨v0, e0, hrun⟩ := hQ
  cases e0
  have had : ∀ k, gd_N ≤ k → ad1 k = adS k := fun k hk => (ha k (gd_mvN k hk)).trans (had k hk)
  rw [← ha 0 rfl, ← ha 11 rfl] at hl
  refine lv_aload_n (k := 2) hx hb (by decide +kernel) rfl (lv_at hl 2 rfl) ?_
  refine lv_aload_n (k := 0) hx hb (by decide +kernel) rfl (lv_at hl 0 rfl) ?_
  refine lv_iload_n (k := 3) hx hb (by decide +kernel) rfl (lv_at hl 3 rfl) ?_
  refine lv_iconst (n := 1) (v := 1) hx hb (by decide +kernel) (by decide) ?_
  refine lv_iadd hx hb (by decide +kernel) ?_
  refine va_sld hx hb hXs hbl hbA hS h_1 (by decide +kernel) ?_
  refine lv_aload_n (k := 0) hx hb (by decide +kernel) rfl (lv_at hl 0 rfl) ?_
  refine lv_iload_n (k := 3) hx hb (by decide +kernel) rfl (lv_at hl 3 rfl) ?_
  refine lv_iconst (n := 2) (v := 2) hx hb (by decide +kernel) (by decide) ?_
  refine lv_iadd hx hb (by decide +kernel) ?_
  refine va_sld hx hb hXs hbl hbA hS h_2 (by decide +kernel) ?_
  refine lv_aload_n (k := 0) hx hb (by decide +kernel) rfl (lv_at hl 0 rfl) ?_
  refine lv_iload_n (k := 3) hx hb (by decide +kernel) rfl (lv_at hl 3 rfl) ?_
  refine lv_iconst (n := 3) (v := 3) hx hb (by decide +kernel) (by decide) ?_
  refine lv_iadd hx hb (by decide +kernel) ?_
  refine va_sld hx hb hXs hbl hbA hS h_3 (by decide +kernel) ?_
  refine lv_aload_n (k := 0) hx hb (by decide +kernel) rfl (lv_at hl 0 rfl) ?_
  refine lv_iload_n (k := 3) hx hb (by decide +kernel) rfl (lv_at hl 3 rfl) ?_
  refine lv_iconst (n := 4) (v := 4) hx hb (by decide +kernel) (by decide) ?_
  refine lv_iadd hx hb (by decide +kernel) ?_
  refine va_sld hx hb hXs hbl hbA hS h_4 (by decide +kernel) ?_
  refine lv_aload_n (k := 0) hx hb (by decide +kernel) rfl (lv_at hl 0 rfl) ?_
  refine lv_iload_n (k := 3) hx hb (by decide +kernel) rfl (lv_at hl 3 rfl) ?_
  refine lv_iconst (n := 5) (v := 5) hx hb (by decide +kernel) (by decide) ?_
  refine lv_iadd hx hb (by decide +kernel) ?_
  refine va_sld hx hb hXs hbl hbA hS h_5 (by decide +kernel) ?_
  refine lw_call (M := 126) (n := 5) (idx := 17) (ci := 11) (k := 11) (as := [(xs (nI i + 1).toNatClampNeg), (xs (nI i + 2).toNatClampNeg), (xs (nI i + 3).toNatClampNeg), (xs (nI i + 4).toNatClampNeg), (xs (nI i + 5).toNatClampNeg)]) (rest := [.int v]) (bb := (0, 0)) hx hb hml hown hts hK hX9 io_126 (by decide +kernel) rfl rfl uw_1134 uw_1135 uw_1136 (by decide +kernel) (by decide +kernel) (by decide +kernel) (by decide +kernel) ⟨_, rfl⟩ rfl rfl rfl (Nat.le_of_ble_eq_true rfl) hrun had hP hD hS hl.1 (by first | omega | (simp only []; omega)) (by first | omega | (simp only []; omega)) (fun v2 μ2 ad2 H locs hQ ha hP hD hS => ?_)
  obtain ⟨e2, hrel⟩ := hQ
  cases e2
  have had : ∀ k, gd_N ≤ k → ad2 k = adS k := fun k hk => (ha k (gd_mvN k hk)).trans (had k hk)
  rw [← ha 0 rfl, ← ha 11 rfl] at hl
  refine lv_icmp_eq (off := 724) (tgt := 918) hx hb (by decide +kernel) (by decide) (fun _ => ?_) (fun q => absurd rfl q)
  exact kk μ2 ad2 H locs ls hrel had hP hD hS hl
set_option maxRecDepth 20000 in
set_option maxHeartbeats 4000000 in
theorem lw_case_1 {T : Nat} {i : Nat} (hL : L ≤ 3072) (A0 : lw_At p s m meth c b L xs) (hK : va_K D vwCl (ab_tys cy) s) (hX9 : gd_X adS (fun q => s.heap.size ≤ q) s) (hi : i + 6 ≤ L) (hT : T ≤ 120) (hsim : ∀ (μ : ab_S) (a0 : Int32), rel T μ → lw_sim1 rel 94 127 T (0, 0) [a0] μ) (kk : lw_St p l e s m below meth c b D cy adS rel i T 918) : lw_St p l e s m below meth c b D cy adS rel i T 199 := by
  obtain ⟨hx, hb, hr, hml, hown, hts, hXs, hbl, hlocks, hgv⟩ := A0
  have hbA : ¬ (fun q : Nat => s.heap.size ≤ q) b := Nat.not_le.mpr hbl
  have h_1 : vp_in (nI i + 1) L := by rw [show nI i + 1 = nI (i + 1) from nI_add i 1]; exact vp_in_nI (by omega) (by omega)
  have h_2 : vp_in (nI i + 2) L := by rw [show nI i + 2 = nI (i + 2) from nI_add i 2]; exact vp_in_nI (by omega) (by omega)
  have h_3 : vp_in (nI i + 3) L := by rw [show nI i + 3 = nI (i + 3) from nI_add i 3]; exact vp_in_nI (by omega) (by omega)
  have h_4 : vp_in (nI i + 4) L := by rw [show nI i + 4 = nI (i + 4) from nI_add i 4]; exact vp_in_nI (by omega) (by omega)
  have h_5 : vp_in (nI i + 5) L := by rw [show nI i + 5 = nI (i + 5) from nI_add i 5]; exact vp_in_nI (by omega) (by omega)
  intro μ ad H locs ls hrel had hP hD hS hl
  refine lv_aload_n (k := 1) hx hb (by decide +kernel) rfl (lv_at hl 1 rfl) ?_
  refine lv_aload_n (k := 0) hx hb (by decide +kernel) rfl (lv_at hl 0 rfl) ?_
  refine lv_iload_n (k := 3) hx hb (by decide +kernel) rfl (lv_at hl 3 rfl) ?_
  refine lv_iconst (n := 1) (v := 1) hx hb (by decide +kernel) (by decide) ?_
  refine lv_iadd hx hb (by decide +kernel) ?_
  refine va_sld hx hb hXs hbl hbA hS h_1 (by decide +kernel) ?_
  refine lw_call (M := 94) (n := 1) (idx := 18) (ci := 10) (k := 0) (as := [(xs (nI i + 1).toNatClampNeg)]) (rest := []) (bb := (0, 0)) hx hb hml hown hts hK hX9 io_94 (by decide +kernel) rfl rfl uw_376 uw_377 uw_378 (by decide +kernel) (by decide +kernel) (by decide +kernel) (by decide +kernel) ⟨_, rfl⟩ rfl rfl rfl (Nat.le_of_ble_eq_true rfl) (hsim μ (xs (nI i + 1).toNatClampNeg) hrel) had hP hD hS hl.1 (by first | omega | (simp only []; omega)) (by first | omega | (simp only []; omega)) (fun v μ1 ad1 H locs hQ ha hP hD hS => ?_)
  obtain ⟨v0, e0, hrun⟩ := hQ
  cases e0
  have had : ∀ k, gd_N ≤ k → ad1 k = adS k := fun k hk => (ha k (gd_mvN k hk)).trans (had k hk)
  rw [← ha 0 rfl, ← ha 11 rfl] at hl
  refine lv_aload_n (k := 2) hx hb (by decide +kernel) rfl (lv_at hl 2 rfl) ?_
  refine lv_aload_n (k := 0) hx hb (by decide +kernel) rfl (lv_at hl 0 rfl) ?_
  refine lv_iload_n (k := 3) hx hb (by decide +kernel) rfl (lv_at hl 3 rfl) ?_
  refine lv_iconst (n := 1) (v := 1) hx hb (by decide +kernel) (by decide) ?_
  refine lv_iadd hx hb (by decide +kernel) ?_
  refine va_sld hx hb hXs hbl hbA hS h_1 (by decide +kernel) ?_
  refine lw_call (M := 127) (n := 1) (idx := 22) (ci := 11) (k := 11) (as := [(xs (nI i + 1).toNatClampNeg)]) (rest := [.int v]) (bb := (0, 0)) hx hb hml hown hts hK hX9 io_127 (by decide +kernel) rfl rfl uw_1142 uw_1143 uw_1144 (by decide +kernel) (by decide +kernel) (by decide +kernel) (by decide +kernel) ⟨_, rfl⟩ rfl rfl rfl (Nat.le_of_ble_eq_true rfl) hrun had hP hD hS hl.1 (by first | omega | (simp only []; omega)) (by first | omega | (simp only []; omega)) (fun v2 μ2 ad2 H locs hQ ha hP hD hS => ?_)
  obtain ⟨e2, hrel⟩ := hQ
  cases e2
  have had : ∀ k, gd_N ≤ k → ad2 k = adS k := fun k hk => (ha k (gd_mvN k hk)).trans (had k hk)
  rw [← ha 0 rfl, ← ha 11 rfl] at hl
  refine lv_icmp_eq (off := 701) (tgt := 918) hx hb (by decide +kernel) (by decide) (fun _ => ?_) (fun q => absurd rfl q)
  exact kk μ2 ad2 H locs ls hrel had hP hD hS hl
set_option maxRecDepth 20000 in
set_option maxHeartbeats 4000000 in
theorem lw_case_2 {T : Nat} {i : Nat} (hL : L ≤ 3072) (A0 : lw_At p s m meth c b L xs) (hK : va_K D vwCl (ab_tys cy) s) (hX9 : gd_X adS (fun q => s.heap.size ≤ q) s) (hi : i + 6 ≤ L) (hT : T ≤ 120) (hsim : ∀ (μ : ab_S) (a0 : Int32), rel T μ → lw_sim1 rel 95 137 T (0, 0) [a0] μ) (kk : lw_St p l e s m below meth c b D cy adS rel i T 918) : lw_St p l e s m below meth c b D cy adS rel i T 222 := by
  obtain ⟨hx, hb, hr, hml, hown, hts, hXs, hbl, hlocks, hgv⟩ := A0
  have hbA : ¬ (fun q : Nat => s.heap.size ≤ q) b := Nat.not_le.mpr hbl
  have h_1 : vp_in (nI i + 1) L := by rw [show nI i + 1 = nI (i + 1) from nI_add i 1]; exact vp_in_nI (by omega) (by omega)
  have h_2 : vp_in (nI i + 2) L := by rw [show nI i + 2 = nI (i + 2) from nI_add i 2]; exact vp_in_nI (by omega) (by omega)
  have h_3 : vp_in (nI i + 3) L := by rw [show nI i + 3 = nI (i + 3) from nI_add i 3]; exact vp_in_nI (by omega) (by omega)
  have h_4 : vp_in (nI i + 4) L := by rw [show nI i + 4 = nI (i + 4) from nI_add i 4]; exact vp_in_nI (by omega) (by omega)
  have h_5 : vp_in (nI i + 5) L := by rw [show nI i + 5 = nI (i + 5) from nI_add i 5]; exact vp_in_nI (by omega) (by omega)
  intro μ ad H locs ls hrel had hP hD hS hl
  refine lv_aload_n (k := 1) hx hb (by decide +kernel) rfl (lv_at hl 1 rfl) ?_
  refine lv_aload_n (k := 0) hx hb (by decide +kernel) rfl (lv_at hl 0 rfl) ?_
  refine lv_iload_n (k := 3) hx hb (by decide +kernel) rfl (lv_at hl 3 rfl) ?_
  refine lv_iconst (n := 1) (v := 1) hx hb (by decide +kernel) (by decide) ?_
  refine lv_iadd hx hb (by decide +kernel) ?_
  refine va_sld hx hb hXs hbl hbA hS h_1 (by decide +kernel) ?_
  refine lw_call (M := 95) (n := 1) (idx := 23) (ci := 10) (k := 0) (as := [(xs (nI i + 1).toNatClampNeg)]) (rest := []) (bb := (0, 0)) hx hb hml hown hts hK hX9 io_95 (by decide +kernel) rfl rfl uw_384 uw_385 uw_386 (by decide +kernel) (by decide +kernel) (by decide +kernel) (by decide +kernel) ⟨_, rfl⟩ rfl rfl rfl (Nat.le_of_ble_eq_true rfl) (hsim μ (xs (nI i + 1).toNatClampNeg) hrel) had hP hD hS hl.1 (by first | omega | (simp only []; omega)) (by first | omega | (simp only []; omega)) (fun v μ1 ad1 H locs hQ ha hP hD hS => ?_)
  obtain ⟨v0, e0, hrun⟩ := hQ
  cases e0
  have had : ∀ k, gd_N ≤ k → ad1 k = adS k := fun k hk => (ha k (gd_mvN k hk)).trans (had k hk)
  rw [← ha 0 rfl, ← ha 11 rfl] at hl
  refine lv_aload_n (k := 2) hx hb (by decide +kernel) rfl (lv_at hl 2 rfl) ?_
  refine lv_aload_n (k := 0) hx hb (by decide +kernel) rfl (lv_at hl 0 rfl) ?_
  refine lv_iload_n (k := 3) hx hb (by decide +kernel) rfl (lv_at hl 3 rfl) ?_
  refine lv_iconst (n := 1) (v := 1) hx hb (by decide +kernel) (by decide) ?_
  refine lv_iadd hx hb (by decide +kernel) ?_
  refine va_sld hx hb hXs hbl hbA hS h_1 (by decide +kernel) ?_
  refine lw_call (M := 137) (n := 1) (idx := 26) (ci := 11) (k := 11) (as := [(xs (nI i + 1).toNatClampNeg)]) (rest := [.int v]) (bb := (0, 0)) hx hb hml hown hts hK hX9 io_137 (by decide +kernel) rfl rfl uw_1146 uw_1147 uw_1148 (by decide +kernel) (by decide +kernel) (by decide +kernel) (by decide +kernel) ⟨_, rfl⟩ rfl rfl rfl (Nat.le_of_ble_eq_true rfl) hrun had hP hD hS hl.1 (by first | omega | (simp only []; omega)) (by first | omega | (simp only []; omega)) (fun v2 μ2 ad2 H locs hQ ha hP hD hS => ?_)
  obtain ⟨e2, hrel⟩ := hQ
  cases e2
  have had : ∀ k, gd_N ≤ k → ad2 k = adS k := fun k hk => (ha k (gd_mvN k hk)).trans (had k hk)
  rw [← ha 0 rfl, ← ha 11 rfl] at hl
  refine lv_icmp_eq (off := 678) (tgt := 918) hx hb (by decide +kernel) (by decide) (fun _ => ?_) (fun q => absurd rfl q)
  exact kk μ2 ad2 H locs ls hrel had hP hD hS hl
set_option maxRecDepth 20000 in
set_option maxHeartbeats 4000000 in
theorem lw_case_3 {T : Nat} {i : Nat} (hL : L ≤ 3072) (A0 : lw_At p s m meth c b L xs) (hK : va_K D vwCl (ab_tys cy) s) (hX9 : gd_X adS (fun q => s.heap.size ≤ q) s) (hi : i + 6 ≤ L) (hT : T ≤ 120) (hsim : ∀ (μ : ab_S) (a0 a1 a2 : Int32), rel T μ → lw_sim1 rel 96 141 T (0, 0) [a0, a1, a2] μ) (kk : lw_St p l e s m below meth c b D cy adS rel i T 918) : lw_St p l e s m below meth c b D cy adS rel i T 245 := by
  obtain ⟨hx, hb, hr, hml, hown, hts, hXs, hbl, hlocks, hgv⟩ := A0
  have hbA : ¬ (fun q : Nat => s.heap.size ≤ q) b := Nat.not_le.mpr hbl
  have h_1 : vp_in (nI i + 1) L := by rw [show nI i + 1 = nI (i + 1) from nI_add i 1]; exact vp_in_nI (by omega) (by omega)
  have h_2 : vp_in (nI i + 2) L := by rw [show nI i + 2 = nI (i + 2) from nI_add i 2]; exact vp_in_nI (by omega) (by omega)
  have h_3 : vp_in (nI i + 3) L := by rw [show nI i + 3 = nI (i + 3) from nI_add i 3]; exact vp_in_nI (by omega) (by omega)
  have h_4 : vp_in (nI i + 4) L := by rw [show nI i + 4 = nI (i + 4) from nI_add i 4]; exact vp_in_nI (by omega) (by omega)
  have h_5 : vp_in (nI i + 5) L := by rw [show nI i + 5 = nI (i + 5) from nI_add i 5]; exact vp_in_nI (by omega) (by omega)
  intro μ ad H locs ls hrel had hP hD hS hl
  refine lv_aload_n (k := 1) hx hb (by decide +kernel) rfl (lv_at hl 1 rfl) ?_
  refine lv_aload_n (k := 0) hx hb (by decide +kernel) rfl (lv_at hl 0 rfl) ?_
  refine lv_iload_n (k := 3) hx hb (by decide +kernel) rfl (lv_at hl 3 rfl) ?_
  refine lv_iconst (n := 1) (v := 1) hx hb (by decide +kernel) (by decide) ?_
  refine lv_iadd hx hb (by decide +kernel) ?_
  refine va_sld hx hb hXs hbl hbA hS h_1 (by decide +kernel) ?_
  refine lv_aload_n (k := 0) hx hb (by decide +kernel) rfl (lv_at hl 0 rfl) ?_
  refine lv_iload_n (k := 3) hx hb (by decide +kernel) rfl (lv_at hl 3 rfl) ?_
  refine lv_iconst (n := 2) (v := 2) hx hb (by decide +kernel) (by decide) ?_
  refine lv_iadd hx hb (by decide +kernel) ?_
  refine va_sld hx hb hXs hbl hbA hS h_2 (by decide +kernel) ?_
  refine lv_aload_n (k := 0) hx hb (by decide +kernel) rfl (lv_at hl 0 rfl) ?_
  refine lv_iload_n (k := 3) hx hb (by decide +kernel) rfl (lv_at hl 3 rfl) ?_
  refine lv_iconst (n := 3) (v := 3) hx hb (by decide +kernel) (by decide) ?_
  refine lv_iadd hx hb (by decide +kernel) ?_
  refine va_sld hx hb hXs hbl hbA hS h_3 (by decide +kernel) ?_
  refine lw_call (M := 96) (n := 3) (idx := 27) (ci := 10) (k := 0) (as := [(xs (nI i + 1).toNatClampNeg), (xs (nI i + 2).toNatClampNeg), (xs (nI i + 3).toNatClampNeg)]) (rest := []) (bb := (0, 0)) hx hb hml hown hts hK hX9 io_96 (by decide +kernel) rfl rfl uw_524 uw_525 uw_526 (by decide +kernel) (by decide +kernel) (by decide +kernel) (by decide +kernel) ⟨_, rfl⟩ rfl rfl rfl (Nat.le_of_ble_eq_true rfl) (hsim μ (xs (nI i + 1).toNatClampNeg) (xs (nI i + 2).toNatClampNeg) (xs (nI i + 3).toNatClampNeg) hrel) had hP hD hS hl.1 (by first | omega | (simp only []; omega)) (by first | omega | (simp only []; omega)) (fun v μ1 ad1 H locs hQ ha hP hD hS => ?_)
  obtain ⟨v0, e0, hrun⟩ := hQ
  cases e0
  have had : ∀ k, gd_N ≤ k → ad1 k = adS k := fun k hk => (ha k (gd_mvN k hk)).trans (had k hk)
  rw [← ha 0 rfl, ← ha 11 rfl] at hl
  refine lv_aload_n (k := 2) hx hb (by decide +kernel) rfl (lv_at hl 2 rfl) ?_
  refine lv_aload_n (k := 0) hx hb (by decide +kernel) rfl (lv_at hl 0 rfl) ?_
  refine lv_iload_n (k := 3) hx hb (by decide +kernel) rfl (lv_at hl 3 rfl) ?_
  refine lv_iconst (n := 1) (v := 1) hx hb (by decide +kernel) (by decide) ?_
  refine lv_iadd hx hb (by decide +kernel) ?_
  refine va_sld hx hb hXs hbl hbA hS h_1 (by decide +kernel) ?_
  refine lv_aload_n (k := 0) hx hb (by decide +kernel) rfl (lv_at hl 0 rfl) ?_
  refine lv_iload_n (k := 3) hx hb (by decide +kernel) rfl (lv_at hl 3 rfl) ?_
  refine lv_iconst (n := 2) (v := 2) hx hb (by decide +kernel) (by decide) ?_
  refine lv_iadd hx hb (by decide +kernel) ?_
  refine va_sld hx hb hXs hbl hbA hS h_2 (by decide +kernel) ?_
  refine lv_aload_n (k := 0) hx hb (by decide +kernel) rfl (lv_at hl 0 rfl) ?_
  refine lv_iload_n (k := 3) hx hb (by decide +kernel) rfl (lv_at hl 3 rfl) ?_
  refine lv_iconst (n := 3) (v := 3) hx hb (by decide +kernel) (by decide) ?_
  refine lv_iadd hx hb (by decide +kernel) ?_
  refine va_sld hx hb hXs hbl hbA hS h_3 (by decide +kernel) ?_
  refine lw_call (M := 141) (n := 3) (idx := 31) (ci := 11) (k := 11) (as := [(xs (nI i + 1).toNatClampNeg), (xs (nI i + 2).toNatClampNeg), (xs (nI i + 3).toNatClampNeg)]) (rest := [.int v]) (bb := (0, 0)) hx hb hml hown hts hK hX9 io_141 (by decide +kernel) rfl rfl uw_1188 uw_1189 uw_1190 (by decide +kernel) (by decide +kernel) (by decide +kernel) (by decide +kernel) ⟨_, rfl⟩ rfl rfl rfl (Nat.le_of_ble_eq_true rfl) hrun had hP hD hS hl.1 (by first | omega | (simp only []; omega)) (by first | omega | (simp only []; omega)) (fun v2 μ2 ad2 H locs hQ ha hP hD hS => ?_)
  obtain ⟨e2, hrel⟩ := hQ
  cases e2
  have had : ∀ k, gd_N ≤ k → ad2 k = adS k := fun k hk => (ha k (gd_mvN k hk)).trans (had k hk)
  rw [← ha 0 rfl, ← ha 11 rfl] at hl
  refine lv_icmp_eq (off := 635) (tgt := 918) hx hb (by decide +kernel) (by decide) (fun _ => ?_) (fun q => absurd rfl q)
  exact kk μ2 ad2 H locs ls hrel had hP hD hS hl
set_option maxRecDepth 20000 in
set_option maxHeartbeats 4000000 in
theorem lw_case_4 {T : Nat} {i : Nat} (hL : L ≤ 3072) (A0 : lw_At p s m meth c b L xs) (hK : va_K D vwCl (ab_tys cy) s) (hX9 : gd_X adS (fun q => s.heap.size ≤ q) s) (hi : i + 6 ≤ L) (hT : T ≤ 120) (hsim : ∀ (μ : ab_S) (a0 a1 a2 a3 a4 : Int32), rel T μ → lw_sim1 rel 97 146 T (0, 0) [a0, a1, a2, a3, a4] μ) (kk : lw_St p l e s m below meth c b D cy adS rel i T 918) : lw_St p l e s m below meth c b D cy adS rel i T 288 := by
  obtain ⟨hx, hb, hr, hml, hown, hts, hXs, hbl, hlocks, hgv⟩ := A0
  have hbA : ¬ (fun q : Nat => s.heap.size ≤ q) b := Nat.not_le.mpr hbl
  have h_1 : vp_in (nI i + 1) L := by rw [show nI i + 1 = nI (i + 1) from nI_add i 1]; exact vp_in_nI (by omega) (by omega)
  have h_2 : vp_in (nI i + 2) L := by rw [show nI i + 2 = nI (i + 2) from nI_add i 2]; exact vp_in_nI (by omega) (by omega)
  have h_3 : vp_in (nI i + 3) L := by rw [show nI i + 3 = nI (i + 3) from nI_add i 3]; exact vp_in_nI (by omega) (by omega)
  have h_4 : vp_in (nI i + 4) L := by rw [show nI i + 4 = nI (i + 4) from nI_add i 4]; exact vp_in_nI (by omega) (by omega)
  have h_5 : vp_in (nI i + 5) L := by rw [show nI i + 5 = nI (i + 5) from nI_add i 5]; exact vp_in_nI (by omega) (by omega)
  intro μ ad H locs ls hrel had hP hD hS hl
  refine lv_aload_n (k := 1) hx hb (by decide +kernel) rfl (lv_at hl 1 rfl) ?_
  refine lv_aload_n (k := 0) hx hb (by decide +kernel) rfl (lv_at hl 0 rfl) ?_
  refine lv_iload_n (k := 3) hx hb (by decide +kernel) rfl (lv_at hl 3 rfl) ?_
  refine lv_iconst (n := 1) (v := 1) hx hb (by decide +kernel) (by decide) ?_
  refine lv_iadd hx hb (by decide +kernel) ?_
  refine va_sld hx hb hXs hbl hbA hS h_1 (by decide +kernel) ?_
  refine lv_aload_n (k := 0) hx hb (by decide +kernel) rfl (lv_at hl 0 rfl) ?_
  refine lv_iload_n (k := 3) hx hb (by decide +kernel) rfl (lv_at hl 3 rfl) ?_
  refine lv_iconst (n := 2) (v := 2) hx hb (by decide +kernel) (by decide) ?_
  refine lv_iadd hx hb (by decide +kernel) ?_
  refine va_sld hx hb hXs hbl hbA hS h_2 (by decide +kernel) ?_
  refine lv_aload_n (k := 0) hx hb (by decide +kernel) rfl (lv_at hl 0 rfl) ?_
  refine lv_iload_n (k := 3) hx hb (by decide +kernel) rfl (lv_at hl 3 rfl) ?_
  refine lv_iconst (n := 3) (v := 3) hx hb (by decide +kernel) (by decide) ?_
  refine lv_iadd hx hb (by decide +kernel) ?_
  refine va_sld hx hb hXs hbl hbA hS h_3 (by decide +kernel) ?_
  refine lv_aload_n (k := 0) hx hb (by decide +kernel) rfl (lv_at hl 0 rfl) ?_
  refine lv_iload_n (k := 3) hx hb (by decide +kernel) rfl (lv_at hl 3 rfl) ?_
  refine lv_iconst (n := 4) (v := 4) hx hb (by decide +kernel) (by decide) ?_
  refine lv_iadd hx hb (by decide +kernel) ?_
  refine va_sld hx hb hXs hbl hbA hS h_4 (by decide +kernel) ?_
  refine lv_aload_n (k := 0) hx hb (by decide +kernel) rfl (lv_at hl 0 rfl) ?_
  refine lv_iload_n (k := 3) hx hb (by decide +kernel) rfl (lv_at hl 3 rfl) ?_
  refine lv_iconst (n := 5) (v := 5) hx hb (by decide +kernel) (by decide) ?_
  refine lv_iadd hx hb (by decide +kernel) ?_
  refine va_sld hx hb hXs hbl hbA hS h_5 (by decide +kernel) ?_
  refine lw_call (M := 97) (n := 5) (idx := 32) (ci := 10) (k := 0) (as := [(xs (nI i + 1).toNatClampNeg), (xs (nI i + 2).toNatClampNeg), (xs (nI i + 3).toNatClampNeg), (xs (nI i + 4).toNatClampNeg), (xs (nI i + 5).toNatClampNeg)]) (rest := []) (bb := (0, 0)) hx hb hml hown hts hK hX9 io_97 (by decide +kernel) rfl rfl uw_537 uw_538 uw_539 (by decide +kernel) (by decide +kernel) (by decide +kernel) (by decide +kernel) ⟨_, rfl⟩ rfl rfl rfl (Nat.le_of_ble_eq_true rfl) (hsim μ (xs (nI i + 1).toNatClampNeg) (xs (nI i + 2).toNatClampNeg) (xs (nI i + 3).toNatClampNeg) (xs (nI i + 4).toNatClampNeg) (xs (nI i + 5).toNatClampNeg) hrel) had hP hD hS hl.1 (by first | omega | (simp only []; omega)) (by first | omega | (simp only []; omega)) (fun v μ1 ad1 H locs hQ ha hP hD hS => ?_)
  obtain ⟨v0, e0, hrun⟩ := hQ
  cases e0
  have had : ∀ k, gd_N ≤ k → ad1 k = adS k := fun k hk => (ha k (gd_mvN k hk)).trans (had k hk)
  rw [← ha 0 rfl, ← ha 11 rfl] at hl
  refine lv_aload_n (k := 2) hx hb (by decide +kernel) rfl (lv_at hl 2 rfl) ?_
  refine lv_aload_n (k := 0) hx hb (by decide +kernel) rfl (lv_at hl 0 rfl) ?_
  refine lv_iload_n (k := 3) hx hb (by decide +kernel) rfl (lv_at hl 3 rfl) ?_
  refine lv_iconst (n := 1) (v := 1) hx hb (by decide +kernel) (by decide) ?_
  refine lv_iadd hx hb (by decide +kernel) ?_
  refine va_sld hx hb hXs hbl hbA hS h_1 (by decide +kernel) ?_
  refine lv_aload_n (k := 0) hx hb (by decide +kernel) rfl (lv_at hl 0 rfl) ?_
  refine lv_iload_n (k := 3) hx hb (by decide +kernel) rfl (lv_at hl 3 rfl) ?_
  refine lv_iconst (n := 2) (v := 2) hx hb (by decide +kernel) (by decide) ?_
  refine lv_iadd hx hb (by decide +kernel) ?_
  refine va_sld hx hb hXs hbl hbA hS h_2 (by decide +kernel) ?_
  refine lv_aload_n (k := 0) hx hb (by decide +kernel) rfl (lv_at hl 0 rfl) ?_
  refine lv_iload_n (k := 3) hx hb (by decide +kernel) rfl (lv_at hl 3 rfl) ?_
  refine lv_iconst (n := 3) (v := 3) hx hb (by decide +kernel) (by decide) ?_
  refine lv_iadd hx hb (by decide +kernel) ?_
  refine va_sld hx hb hXs hbl hbA hS h_3 (by decide +kernel) ?_
  refine lv_aload_n (k := 0) hx hb (by decide +kernel) rfl (lv_at hl 0 rfl) ?_
  refine lv_iload_n (k := 3) hx hb (by decide +kernel) rfl (lv_at hl 3 rfl) ?_
  refine lv_iconst (n := 4) (v := 4) hx hb (by decide +kernel) (by decide) ?_
  refine lv_iadd hx hb (by decide +kernel) ?_
  refine va_sld hx hb hXs hbl hbA hS h_4 (by decide +kernel) ?_
  refine lv_aload_n (k := 0) hx hb (by decide +kernel) rfl (lv_at hl 0 rfl) ?_
  refine lv_iload_n (k := 3) hx hb (by decide +kernel) rfl (lv_at hl 3 rfl) ?_
  refine lv_iconst (n := 5) (v := 5) hx hb (by decide +kernel) (by decide) ?_
  refine lv_iadd hx hb (by decide +kernel) ?_
  refine va_sld hx hb hXs hbl hbA hS h_5 (by decide +kernel) ?_
  refine lw_call (M := 146) (n := 5) (idx := 35) (ci := 11) (k := 11) (as := [(xs (nI i + 1).toNatClampNeg), (xs (nI i + 2).toNatClampNeg), (xs (nI i + 3).toNatClampNeg), (xs (nI i + 4).toNatClampNeg), (xs (nI i + 5).toNatClampNeg)]) (rest := [.int v]) (bb := (0, 0)) hx hb hml hown hts hK hX9 io_146 (by decide +kernel) rfl rfl uw_1203 uw_1204 uw_1205 (by decide +kernel) (by decide +kernel) (by decide +kernel) (by decide +kernel) ⟨_, rfl⟩ rfl rfl rfl (Nat.le_of_ble_eq_true rfl) hrun had hP hD hS hl.1 (by first | omega | (simp only []; omega)) (by first | omega | (simp only []; omega)) (fun v2 μ2 ad2 H locs hQ ha hP hD hS => ?_)
  obtain ⟨e2, hrel⟩ := hQ
  cases e2
  have had : ∀ k, gd_N ≤ k → ad2 k = adS k := fun k hk => (ha k (gd_mvN k hk)).trans (had k hk)
  rw [← ha 0 rfl, ← ha 11 rfl] at hl
  refine lv_icmp_eq (off := 572) (tgt := 918) hx hb (by decide +kernel) (by decide) (fun _ => ?_) (fun q => absurd rfl q)
  exact kk μ2 ad2 H locs ls hrel had hP hD hS hl
set_option maxRecDepth 20000 in
set_option maxHeartbeats 4000000 in
theorem lw_case_5 {T : Nat} {i : Nat} (hL : L ≤ 3072) (A0 : lw_At p s m meth c b L xs) (hK : va_K D vwCl (ab_tys cy) s) (hX9 : gd_X adS (fun q => s.heap.size ≤ q) s) (hi : i + 6 ≤ L) (hT : T ≤ 120) (hsim : ∀ (μ : ab_S) (a0 a1 : Int32), rel T μ → lw_sim1 rel 98 147 T (0, 0) [a0, a1] μ) (kk : lw_St p l e s m below meth c b D cy adS rel i T 918) : lw_St p l e s m below meth c b D cy adS rel i T 351 := by
  obtain ⟨hx, hb, hr, hml, hown, hts, hXs, hbl, hlocks, hgv⟩ := A0
  have hbA : ¬ (fun q : Nat => s.heap.size ≤ q) b := Nat.not_le.mpr hbl
  have h_1 : vp_in (nI i + 1) L := by rw [show nI i + 1 = nI (i + 1) from nI_add i 1]; exact vp_in_nI (by omega) (by omega)
  have h_2 : vp_in (nI i + 2) L := by rw [show nI i + 2 = nI (i + 2) from nI_add i 2]; exact vp_in_nI (by omega) (by omega)
  have h_3 : vp_in (nI i + 3) L := by rw [show nI i + 3 = nI (i + 3) from nI_add i 3]; exact vp_in_nI (by omega) (by omega)
  have h_4 : vp_in (nI i + 4) L := by rw [show nI i + 4 = nI (i + 4) from nI_add i 4]; exact vp_in_nI (by omega) (by omega)
  have h_5 : vp_in (nI i + 5) L := by rw [show nI i + 5 = nI (i + 5) from nI_add i 5]; exact vp_in_nI (by omega) (by omega)
  intro μ ad H locs ls hrel had hP hD hS hl
  refine lv_aload_n (k := 1) hx hb (by decide +kernel) rfl (lv_at hl 1 rfl) ?_
  refine lv_aload_n (k := 0) hx hb (by decide +kernel) rfl (lv_at hl 0 rfl) ?_
  refine lv_iload_n (k := 3) hx hb (by decide +kernel) rfl (lv_at hl 3 rfl) ?_
  refine lv_iconst (n := 1) (v := 1) hx hb (by decide +kernel) (by decide) ?_
  refine lv_iadd hx hb (by decide +kernel) ?_
  refine va_sld hx hb hXs hbl hbA hS h_1 (by decide +kernel) ?_
  refine lv_aload_n (k := 0) hx hb (by decide +kernel) rfl (lv_at hl 0 rfl) ?_
  refine lv_iload_n (k := 3) hx hb (by decide +kernel) rfl (lv_at hl 3 rfl) ?_
  refine lv_iconst (n := 2) (v := 2) hx hb (by decide +kernel) (by decide) ?_
  refine lv_iadd hx hb (by decide +kernel) ?_
  refine va_sld hx hb hXs hbl hbA hS h_2 (by decide +kernel) ?_
  refine lw_call (M := 98) (n := 2) (idx := 36) (ci := 10) (k := 0) (as := [(xs (nI i + 1).toNatClampNeg), (xs (nI i + 2).toNatClampNeg)]) (rest := []) (bb := (0, 0)) hx hb hml hown hts hK hX9 io_98 (by decide +kernel) rfl rfl uw_566 uw_567 uw_568 (by decide +kernel) (by decide +kernel) (by decide +kernel) (by decide +kernel) ⟨_, rfl⟩ rfl rfl rfl (Nat.le_of_ble_eq_true rfl) (hsim μ (xs (nI i + 1).toNatClampNeg) (xs (nI i + 2).toNatClampNeg) hrel) had hP hD hS hl.1 (by first | omega | (simp only []; omega)) (by first | omega | (simp only []; omega)) (fun v μ1 ad1 H locs hQ ha hP hD hS => ?_)
  obtain ⟨v0, e0, hrun⟩ := hQ
  cases e0
  have had : ∀ k, gd_N ≤ k → ad1 k = adS k := fun k hk => (ha k (gd_mvN k hk)).trans (had k hk)
  rw [← ha 0 rfl, ← ha 11 rfl] at hl
  refine lv_aload_n (k := 2) hx hb (by decide +kernel) rfl (lv_at hl 2 rfl) ?_
  refine lv_aload_n (k := 0) hx hb (by decide +kernel) rfl (lv_at hl 0 rfl) ?_
  refine lv_iload_n (k := 3) hx hb (by decide +kernel) rfl (lv_at hl 3 rfl) ?_
  refine lv_iconst (n := 1) (v := 1) hx hb (by decide +kernel) (by decide) ?_
  refine lv_iadd hx hb (by decide +kernel) ?_
  refine va_sld hx hb hXs hbl hbA hS h_1 (by decide +kernel) ?_
  refine lv_aload_n (k := 0) hx hb (by decide +kernel) rfl (lv_at hl 0 rfl) ?_
  refine lv_iload_n (k := 3) hx hb (by decide +kernel) rfl (lv_at hl 3 rfl) ?_
  refine lv_iconst (n := 2) (v := 2) hx hb (by decide +kernel) (by decide) ?_
  refine lv_iadd hx hb (by decide +kernel) ?_
  refine va_sld hx hb hXs hbl hbA hS h_2 (by decide +kernel) ?_
  refine lw_call (M := 147) (n := 2) (idx := 40) (ci := 11) (k := 11) (as := [(xs (nI i + 1).toNatClampNeg), (xs (nI i + 2).toNatClampNeg)]) (rest := [.int v]) (bb := (0, 0)) hx hb hml hown hts hK hX9 io_147 (by decide +kernel) rfl rfl uw_1207 uw_1208 uw_1209 (by decide +kernel) (by decide +kernel) (by decide +kernel) (by decide +kernel) ⟨_, rfl⟩ rfl rfl rfl (Nat.le_of_ble_eq_true rfl) hrun had hP hD hS hl.1 (by first | omega | (simp only []; omega)) (by first | omega | (simp only []; omega)) (fun v2 μ2 ad2 H locs hQ ha hP hD hS => ?_)
  obtain ⟨e2, hrel⟩ := hQ
  cases e2
  have had : ∀ k, gd_N ≤ k → ad2 k = adS k := fun k hk => (ha k (gd_mvN k hk)).trans (had k hk)
  rw [← ha 0 rfl, ← ha 11 rfl] at hl
  refine lv_icmp_eq (off := 539) (tgt := 918) hx hb (by decide +kernel) (by decide) (fun _ => ?_) (fun q => absurd rfl q)
  exact kk μ2 ad2 H locs ls hrel had hP hD hS hl
set_option maxRecDepth 20000 in
set_option maxHeartbeats 4000000 in
theorem lw_case_6 {T : Nat} {i : Nat} (hL : L ≤ 3072) (A0 : lw_At p s m meth c b L xs) (hK : va_K D vwCl (ab_tys cy) s) (hX9 : gd_X adS (fun q => s.heap.size ≤ q) s) (hi : i + 6 ≤ L) (hT : T ≤ 120) (hsim : ∀ (μ : ab_S) (a0 a1 a2 : Int32), rel T μ → lw_sim1 rel 99 148 T (0, 0) [a0, a1, a2] μ) (kk : lw_St p l e s m below meth c b D cy adS rel i T 918) : lw_St p l e s m below meth c b D cy adS rel i T 384 := by
  obtain ⟨hx, hb, hr, hml, hown, hts, hXs, hbl, hlocks, hgv⟩ := A0
  have hbA : ¬ (fun q : Nat => s.heap.size ≤ q) b := Nat.not_le.mpr hbl
  have h_1 : vp_in (nI i + 1) L := by rw [show nI i + 1 = nI (i + 1) from nI_add i 1]; exact vp_in_nI (by omega) (by omega)
  have h_2 : vp_in (nI i + 2) L := by rw [show nI i + 2 = nI (i + 2) from nI_add i 2]; exact vp_in_nI (by omega) (by omega)
  have h_3 : vp_in (nI i + 3) L := by rw [show nI i + 3 = nI (i + 3) from nI_add i 3]; exact vp_in_nI (by omega) (by omega)
  have h_4 : vp_in (nI i + 4) L := by rw [show nI i + 4 = nI (i + 4) from nI_add i 4]; exact vp_in_nI (by omega) (by omega)
  have h_5 : vp_in (nI i + 5) L := by rw [show nI i + 5 = nI (i + 5) from nI_add i 5]; exact vp_in_nI (by omega) (by omega)
  intro μ ad H locs ls hrel had hP hD hS hl
  refine lv_aload_n (k := 1) hx hb (by decide +kernel) rfl (lv_at hl 1 rfl) ?_
  refine lv_aload_n (k := 0) hx hb (by decide +kernel) rfl (lv_at hl 0 rfl) ?_
  refine lv_iload_n (k := 3) hx hb (by decide +kernel) rfl (lv_at hl 3 rfl) ?_
  refine lv_iconst (n := 1) (v := 1) hx hb (by decide +kernel) (by decide) ?_
  refine lv_iadd hx hb (by decide +kernel) ?_
  refine va_sld hx hb hXs hbl hbA hS h_1 (by decide +kernel) ?_
  refine lv_aload_n (k := 0) hx hb (by decide +kernel) rfl (lv_at hl 0 rfl) ?_
  refine lv_iload_n (k := 3) hx hb (by decide +kernel) rfl (lv_at hl 3 rfl) ?_
  refine lv_iconst (n := 2) (v := 2) hx hb (by decide +kernel) (by decide) ?_
  refine lv_iadd hx hb (by decide +kernel) ?_
  refine va_sld hx hb hXs hbl hbA hS h_2 (by decide +kernel) ?_
  refine lv_aload_n (k := 0) hx hb (by decide +kernel) rfl (lv_at hl 0 rfl) ?_
  refine lv_iload_n (k := 3) hx hb (by decide +kernel) rfl (lv_at hl 3 rfl) ?_
  refine lv_iconst (n := 3) (v := 3) hx hb (by decide +kernel) (by decide) ?_
  refine lv_iadd hx hb (by decide +kernel) ?_
  refine va_sld hx hb hXs hbl hbA hS h_3 (by decide +kernel) ?_
  refine lw_call (M := 99) (n := 3) (idx := 41) (ci := 10) (k := 0) (as := [(xs (nI i + 1).toNatClampNeg), (xs (nI i + 2).toNatClampNeg), (xs (nI i + 3).toNatClampNeg)]) (rest := []) (bb := (0, 0)) hx hb hml hown hts hK hX9 io_99 (by decide +kernel) rfl rfl uw_669 uw_670 uw_671 (by decide +kernel) (by decide +kernel) (by decide +kernel) (by decide +kernel) ⟨_, rfl⟩ rfl rfl rfl (Nat.le_of_ble_eq_true rfl) (hsim μ (xs (nI i + 1).toNatClampNeg) (xs (nI i + 2).toNatClampNeg) (xs (nI i + 3).toNatClampNeg) hrel) had hP hD hS hl.1 (by first | omega | (simp only []; omega)) (by first | omega | (simp only []; omega)) (fun v μ1 ad1 H locs hQ ha hP hD hS => ?_)
  obtain ⟨v0, e0, hrun⟩ := hQ
  cases e0
  have had : ∀ k, gd_N ≤ k → ad1 k = adS k := fun k hk => (ha k (gd_mvN k hk)).trans (had k hk)
  rw [← ha 0 rfl, ← ha 11 rfl] at hl
  refine lv_aload_n (k := 2) hx hb (by decide +kernel) rfl (lv_at hl 2 rfl) ?_
  refine lv_aload_n (k := 0) hx hb (by decide +kernel) rfl (lv_at hl 0 rfl) ?_
  refine lv_iload_n (k := 3) hx hb (by decide +kernel) rfl (lv_at hl 3 rfl) ?_
  refine lv_iconst (n := 1) (v := 1) hx hb (by decide +kernel) (by decide) ?_
  refine lv_iadd hx hb (by decide +kernel) ?_
  refine va_sld hx hb hXs hbl hbA hS h_1 (by decide +kernel) ?_
  refine lv_aload_n (k := 0) hx hb (by decide +kernel) rfl (lv_at hl 0 rfl) ?_
  refine lv_iload_n (k := 3) hx hb (by decide +kernel) rfl (lv_at hl 3 rfl) ?_
  refine lv_iconst (n := 2) (v := 2) hx hb (by decide +kernel) (by decide) ?_
  refine lv_iadd hx hb (by decide +kernel) ?_
  refine va_sld hx hb hXs hbl hbA hS h_2 (by decide +kernel) ?_
  refine lv_aload_n (k := 0) hx hb (by decide +kernel) rfl (lv_at hl 0 rfl) ?_
  refine lv_iload_n (k := 3) hx hb (by decide +kernel) rfl (lv_at hl 3 rfl) ?_
  refine lv_iconst (n := 3) (v := 3) hx hb (by decide +kernel) (by decide) ?_
  refine lv_iadd hx hb (by decide +kernel) ?_
  refine va_sld hx hb hXs hbl hbA hS h_3 (by decide +kernel) ?_
  refine lw_call (M := 148) (n := 3) (idx := 44) (ci := 11) (k := 11) (as := [(xs (nI i + 1).toNatClampNeg), (xs (nI i + 2).toNatClampNeg), (xs (nI i + 3).toNatClampNeg)]) (rest := [.int v]) (bb := (0, 0)) hx hb hml hown hts hK hX9 io_148 (by decide +kernel) rfl rfl uw_1227 uw_1228 uw_1229 (by decide +kernel) (by decide +kernel) (by decide +kernel) (by decide +kernel) ⟨_, rfl⟩ rfl rfl rfl (Nat.le_of_ble_eq_true rfl) hrun had hP hD hS hl.1 (by first | omega | (simp only []; omega)) (by first | omega | (simp only []; omega)) (fun v2 μ2 ad2 H locs hQ ha hP hD hS => ?_)
  obtain ⟨e2, hrel⟩ := hQ
  cases e2
  have had : ∀ k, gd_N ≤ k → ad2 k = adS k := fun k hk => (ha k (gd_mvN k hk)).trans (had k hk)
  rw [← ha 0 rfl, ← ha 11 rfl] at hl
  refine lv_icmp_eq (off := 496) (tgt := 918) hx hb (by decide +kernel) (by decide) (fun _ => ?_) (fun q => absurd rfl q)
  exact kk μ2 ad2 H locs ls hrel had hP hD hS hl
set_option maxRecDepth 20000 in
set_option maxHeartbeats 4000000 in
theorem lw_case_7 {T : Nat} {i : Nat} (hL : L ≤ 3072) (A0 : lw_At p s m meth c b L xs) (hK : va_K D vwCl (ab_tys cy) s) (hX9 : gd_X adS (fun q => s.heap.size ≤ q) s) (hi : i + 6 ≤ L) (hT : T ≤ 120) (hsim : ∀ (μ : ab_S) (a0 a1 a2 : Int32), rel T μ → lw_sim1 rel 100 149 T (0, 0) [a0, a1, a2] μ) (kk : lw_St p l e s m below meth c b D cy adS rel i T 918) : lw_St p l e s m below meth c b D cy adS rel i T 427 := by
  obtain ⟨hx, hb, hr, hml, hown, hts, hXs, hbl, hlocks, hgv⟩ := A0
  have hbA : ¬ (fun q : Nat => s.heap.size ≤ q) b := Nat.not_le.mpr hbl
  have h_1 : vp_in (nI i + 1) L := by rw [show nI i + 1 = nI (i + 1) from nI_add i 1]; exact vp_in_nI (by omega) (by omega)
  have h_2 : vp_in (nI i + 2) L := by rw [show nI i + 2 = nI (i + 2) from nI_add i 2]; exact vp_in_nI (by omega) (by omega)
  have h_3 : vp_in (nI i + 3) L := by rw [show nI i + 3 = nI (i + 3) from nI_add i 3]; exact vp_in_nI (by omega) (by omega)
  have h_4 : vp_in (nI i + 4) L := by rw [show nI i + 4 = nI (i + 4) from nI_add i 4]; exact vp_in_nI (by omega) (by omega)
  have h_5 : vp_in (nI i + 5) L := by rw [show nI i + 5 = nI (i + 5) from nI_add i 5]; exact vp_in_nI (by omega) (by omega)
  intro μ ad H locs ls hrel had hP hD hS hl
  refine lv_aload_n (k := 1) hx hb (by decide +kernel) rfl (lv_at hl 1 rfl) ?_
  refine lv_aload_n (k := 0) hx hb (by decide +kernel) rfl (lv_at hl 0 rfl) ?_
  refine lv_iload_n (k := 3) hx hb (by decide +kernel) rfl (lv_at hl 3 rfl) ?_
  refine lv_iconst (n := 1) (v := 1) hx hb (by decide +kernel) (by decide) ?_
  refine lv_iadd hx hb (by decide +kernel) ?_
  refine va_sld hx hb hXs hbl hbA hS h_1 (by decide +kernel) ?_
  refine lv_aload_n (k := 0) hx hb (by decide +kernel) rfl (lv_at hl 0 rfl) ?_
  refine lv_iload_n (k := 3) hx hb (by decide +kernel) rfl (lv_at hl 3 rfl) ?_
  refine lv_iconst (n := 2) (v := 2) hx hb (by decide +kernel) (by decide) ?_
  refine lv_iadd hx hb (by decide +kernel) ?_
  refine va_sld hx hb hXs hbl hbA hS h_2 (by decide +kernel) ?_
  refine lv_aload_n (k := 0) hx hb (by decide +kernel) rfl (lv_at hl 0 rfl) ?_
  refine lv_iload_n (k := 3) hx hb (by decide +kernel) rfl (lv_at hl 3 rfl) ?_
  refine lv_iconst (n := 3) (v := 3) hx hb (by decide +kernel) (by decide) ?_
  refine lv_iadd hx hb (by decide +kernel) ?_
  refine va_sld hx hb hXs hbl hbA hS h_3 (by decide +kernel) ?_
  refine lw_call (M := 100) (n := 3) (idx := 45) (ci := 10) (k := 0) (as := [(xs (nI i + 1).toNatClampNeg), (xs (nI i + 2).toNatClampNeg), (xs (nI i + 3).toNatClampNeg)]) (rest := []) (bb := (0, 0)) hx hb hml hown hts hK hX9 io_100 (by decide +kernel) rfl rfl uw_675 uw_676 uw_677 (by decide +kernel) (by decide +kernel) (by decide +kernel) (by decide +kernel) ⟨_, rfl⟩ rfl rfl rfl (Nat.le_of_ble_eq_true rfl) (hsim μ (xs (nI i + 1).toNatClampNeg) (xs (nI i + 2).toNatClampNeg) (xs (nI i + 3).toNatClampNeg) hrel) had hP hD hS hl.1 (by first | omega | (simp only []; omega)) (by first | omega | (simp only []; omega)) (fun v μ1 ad1 H locs hQ ha hP hD hS => ?_)
  obtain ⟨v0, e0, hrun⟩ := hQ
  cases e0
  have had : ∀ k, gd_N ≤ k → ad1 k = adS k := fun k hk => (ha k (gd_mvN k hk)).trans (had k hk)
  rw [← ha 0 rfl, ← ha 11 rfl] at hl
  refine lv_aload_n (k := 2) hx hb (by decide +kernel) rfl (lv_at hl 2 rfl) ?_
  refine lv_aload_n (k := 0) hx hb (by decide +kernel) rfl (lv_at hl 0 rfl) ?_
  refine lv_iload_n (k := 3) hx hb (by decide +kernel) rfl (lv_at hl 3 rfl) ?_
  refine lv_iconst (n := 1) (v := 1) hx hb (by decide +kernel) (by decide) ?_
  refine lv_iadd hx hb (by decide +kernel) ?_
  refine va_sld hx hb hXs hbl hbA hS h_1 (by decide +kernel) ?_
  refine lv_aload_n (k := 0) hx hb (by decide +kernel) rfl (lv_at hl 0 rfl) ?_
  refine lv_iload_n (k := 3) hx hb (by decide +kernel) rfl (lv_at hl 3 rfl) ?_
  refine lv_iconst (n := 2) (v := 2) hx hb (by decide +kernel) (by decide) ?_
  refine lv_iadd hx hb (by decide +kernel) ?_
  refine va_sld hx hb hXs hbl hbA hS h_2 (by decide +kernel) ?_
  refine lv_aload_n (k := 0) hx hb (by decide +kernel) rfl (lv_at hl 0 rfl) ?_
  refine lv_iload_n (k := 3) hx hb (by decide +kernel) rfl (lv_at hl 3 rfl) ?_
  refine lv_iconst (n := 3) (v := 3) hx hb (by decide +kernel) (by decide) ?_
  refine lv_iadd hx hb (by decide +kernel) ?_
  refine va_sld hx hb hXs hbl hbA hS h_3 (by decide +kernel) ?_
  refine lw_call (M := 149) (n := 3) (idx := 48) (ci := 11) (k := 11) (as := [(xs (nI i + 1).toNatClampNeg), (xs (nI i + 2).toNatClampNeg), (xs (nI i + 3).toNatClampNeg)]) (rest := [.int v]) (bb := (0, 0)) hx hb hml hown hts hK hX9 io_149 (by decide +kernel) rfl rfl uw_1231 uw_1232 uw_1233 (by decide +kernel) (by decide +kernel) (by decide +kernel) (by decide +kernel) ⟨_, rfl⟩ rfl rfl rfl (Nat.le_of_ble_eq_true rfl) hrun had hP hD hS hl.1 (by first | omega | (simp only []; omega)) (by first | omega | (simp only []; omega)) (fun v2 μ2 ad2 H locs hQ ha hP hD hS => ?_)
  obtain ⟨e2, hrel⟩ := hQ
  cases e2
  have had : ∀ k, gd_N ≤ k → ad2 k = adS k := fun k hk => (ha k (gd_mvN k hk)).trans (had k hk)
  rw [← ha 0 rfl, ← ha 11 rfl] at hl
  refine lv_icmp_eq (off := 453) (tgt := 918) hx hb (by decide +kernel) (by decide) (fun _ => ?_) (fun q => absurd rfl q)
  exact kk μ2 ad2 H locs ls hrel had hP hD hS hl
set_option maxRecDepth 20000 in
set_option maxHeartbeats 4000000 in
theorem lw_case_8 {T : Nat} {i : Nat} (hL : L ≤ 3072) (A0 : lw_At p s m meth c b L xs) (hK : va_K D vwCl (ab_tys cy) s) (hX9 : gd_X adS (fun q => s.heap.size ≤ q) s) (hi : i + 6 ≤ L) (hT : T ≤ 120) (hsim : ∀ (μ : ab_S) (a0 a1 : Int32), rel T μ → lw_sim1 rel 101 150 T (0, 0) [a0, a1] μ) (kk : lw_St p l e s m below meth c b D cy adS rel i T 918) : lw_St p l e s m below meth c b D cy adS rel i T 470 := by
  obtain ⟨hx, hb, hr, hml, hown, hts, hXs, hbl, hlocks, hgv⟩ := A0
  have hbA : ¬ (fun q : Nat => s.heap.size ≤ q) b := Nat.not_le.mpr hbl
  have h_1 : vp_in (nI i + 1) L := by rw [show nI i + 1 = nI (i + 1) from nI_add i 1]; exact vp_in_nI (by omega) (by omega)
  have h_2 : vp_in (nI i + 2) L := by rw [show nI i + 2 = nI (i + 2) from nI_add i 2]; exact vp_in_nI (by omega) (by omega)
  have h_3 : vp_in (nI i + 3) L := by rw [show nI i + 3 = nI (i + 3) from nI_add i 3]; exact vp_in_nI (by omega) (by omega)
  have h_4 : vp_in (nI i + 4) L := by rw [show nI i + 4 = nI (i + 4) from nI_add i 4]; exact vp_in_nI (by omega) (by omega)
  have h_5 : vp_in (nI i + 5) L := by rw [show nI i + 5 = nI (i + 5) from nI_add i 5]; exact vp_in_nI (by omega) (by omega)
  intro μ ad H locs ls hrel had hP hD hS hl
  refine lv_aload_n (k := 1) hx hb (by decide +kernel) rfl (lv_at hl 1 rfl) ?_
  refine lv_aload_n (k := 0) hx hb (by decide +kernel) rfl (lv_at hl 0 rfl) ?_
  refine lv_iload_n (k := 3) hx hb (by decide +kernel) rfl (lv_at hl 3 rfl) ?_
  refine lv_iconst (n := 1) (v := 1) hx hb (by decide +kernel) (by decide) ?_
  refine lv_iadd hx hb (by decide +kernel) ?_
  refine va_sld hx hb hXs hbl hbA hS h_1 (by decide +kernel) ?_
  refine lv_aload_n (k := 0) hx hb (by decide +kernel) rfl (lv_at hl 0 rfl) ?_
  refine lv_iload_n (k := 3) hx hb (by decide +kernel) rfl (lv_at hl 3 rfl) ?_
  refine lv_iconst (n := 2) (v := 2) hx hb (by decide +kernel) (by decide) ?_
  refine lv_iadd hx hb (by decide +kernel) ?_
  refine va_sld hx hb hXs hbl hbA hS h_2 (by decide +kernel) ?_
  refine lw_call (M := 101) (n := 2) (idx := 49) (ci := 10) (k := 0) (as := [(xs (nI i + 1).toNatClampNeg), (xs (nI i + 2).toNatClampNeg)]) (rest := []) (bb := (0, 0)) hx hb hml hown hts hK hX9 io_101 (by decide +kernel) rfl rfl uw_683 uw_684 uw_685 (by decide +kernel) (by decide +kernel) (by decide +kernel) (by decide +kernel) ⟨_, rfl⟩ rfl rfl rfl (Nat.le_of_ble_eq_true rfl) (hsim μ (xs (nI i + 1).toNatClampNeg) (xs (nI i + 2).toNatClampNeg) hrel) had hP hD hS hl.1 (by first | omega | (simp only []; omega)) (by first | omega | (simp only []; omega)) (fun v μ1 ad1 H locs hQ ha hP hD hS => ?_)
  obtain ⟨v0, e0, hrun⟩ := hQ
  cases e0
  have had : ∀ k, gd_N ≤ k → ad1 k = adS k := fun k hk => (ha k (gd_mvN k hk)).trans (had k hk)
  rw [← ha 0 rfl, ← ha 11 rfl] at hl
  refine lv_aload_n (k := 2) hx hb (by decide +kernel) rfl (lv_at hl 2 rfl) ?_
  refine lv_aload_n (k := 0) hx hb (by decide +kernel) rfl (lv_at hl 0 rfl) ?_
  refine lv_iload_n (k := 3) hx hb (by decide +kernel) rfl (lv_at hl 3 rfl) ?_
  refine lv_iconst (n := 1) (v := 1) hx hb (by decide +kernel) (by decide) ?_
  refine lv_iadd hx hb (by decide +kernel) ?_
  refine va_sld hx hb hXs hbl hbA hS h_1 (by decide +kernel) ?_
  refine lv_aload_n (k := 0) hx hb (by decide +kernel) rfl (lv_at hl 0 rfl) ?_
  refine lv_iload_n (k := 3) hx hb (by decide +kernel) rfl (lv_at hl 3 rfl) ?_
  refine lv_iconst (n := 2) (v := 2) hx hb (by decide +kernel) (by decide) ?_
  refine lv_iadd hx hb (by decide +kernel) ?_
  refine va_sld hx hb hXs hbl hbA hS h_2 (by decide +kernel) ?_
  refine lw_call (M := 150) (n := 2) (idx := 52) (ci := 11) (k := 11) (as := [(xs (nI i + 1).toNatClampNeg), (xs (nI i + 2).toNatClampNeg)]) (rest := [.int v]) (bb := (0, 0)) hx hb hml hown hts hK hX9 io_150 (by decide +kernel) rfl rfl uw_1236 uw_1237 uw_1238 (by decide +kernel) (by decide +kernel) (by decide +kernel) (by decide +kernel) ⟨_, rfl⟩ rfl rfl rfl (Nat.le_of_ble_eq_true rfl) hrun had hP hD hS hl.1 (by first | omega | (simp only []; omega)) (by first | omega | (simp only []; omega)) (fun v2 μ2 ad2 H locs hQ ha hP hD hS => ?_)
  obtain ⟨e2, hrel⟩ := hQ
  cases e2
  have had : ∀ k, gd_N ≤ k → ad2 k = adS k := fun k hk => (ha k (gd_mvN k hk)).trans (had k hk)
  rw [← ha 0 rfl, ← ha 11 rfl] at hl
  refine lv_icmp_eq (off := 420) (tgt := 918) hx hb (by decide +kernel) (by decide) (fun _ => ?_) (fun q => absurd rfl q)
  exact kk μ2 ad2 H locs ls hrel had hP hD hS hl
set_option maxRecDepth 20000 in
set_option maxHeartbeats 4000000 in
theorem lw_case_9 {T : Nat} {i : Nat} (hL : L ≤ 3072) (A0 : lw_At p s m meth c b L xs) (hK : va_K D vwCl (ab_tys cy) s) (hX9 : gd_X adS (fun q => s.heap.size ≤ q) s) (hi : i + 6 ≤ L) (hT : T ≤ 120) (hsim : ∀ (μ : ab_S) (a0 a1 : Int32), rel T μ → lw_sim1 rel 102 152 T (0, 0) [a0, a1] μ) (kk : lw_St p l e s m below meth c b D cy adS rel i T 918) : lw_St p l e s m below meth c b D cy adS rel i T 503 := by
  obtain ⟨hx, hb, hr, hml, hown, hts, hXs, hbl, hlocks, hgv⟩ := A0
  have hbA : ¬ (fun q : Nat => s.heap.size ≤ q) b := Nat.not_le.mpr hbl
  have h_1 : vp_in (nI i + 1) L := by rw [show nI i + 1 = nI (i + 1) from nI_add i 1]; exact vp_in_nI (by omega) (by omega)
  have h_2 : vp_in (nI i + 2) L := by rw [show nI i + 2 = nI (i + 2) from nI_add i 2]; exact vp_in_nI (by omega) (by omega)
  have h_3 : vp_in (nI i + 3) L := by rw [show nI i + 3 = nI (i + 3) from nI_add i 3]; exact vp_in_nI (by omega) (by omega)
  have h_4 : vp_in (nI i + 4) L := by rw [show nI i + 4 = nI (i + 4) from nI_add i 4]; exact vp_in_nI (by omega) (by omega)
  have h_5 : vp_in (nI i + 5) L := by rw [show nI i + 5 = nI (i + 5) from nI_add i 5]; exact vp_in_nI (by omega) (by omega)
  intro μ ad H locs ls hrel had hP hD hS hl
  refine lv_aload_n (k := 1) hx hb (by decide +kernel) rfl (lv_at hl 1 rfl) ?_
  refine lv_aload_n (k := 0) hx hb (by decide +kernel) rfl (lv_at hl 0 rfl) ?_
  refine lv_iload_n (k := 3) hx hb (by decide +kernel) rfl (lv_at hl 3 rfl) ?_
  refine lv_iconst (n := 1) (v := 1) hx hb (by decide +kernel) (by decide) ?_
  refine lv_iadd hx hb (by decide +kernel) ?_
  refine va_sld hx hb hXs hbl hbA hS h_1 (by decide +kernel) ?_
  refine lv_aload_n (k := 0) hx hb (by decide +kernel) rfl (lv_at hl 0 rfl) ?_
  refine lv_iload_n (k := 3) hx hb (by decide +kernel) rfl (lv_at hl 3 rfl) ?_
  refine lv_iconst (n := 2) (v := 2) hx hb (by decide +kernel) (by decide) ?_
  refine lv_iadd hx hb (by decide +kernel) ?_
  refine va_sld hx hb hXs hbl hbA hS h_2 (by decide +kernel) ?_
  refine lw_call (M := 102) (n := 2) (idx := 53) (ci := 10) (k := 0) (as := [(xs (nI i + 1).toNatClampNeg), (xs (nI i + 2).toNatClampNeg)]) (rest := []) (bb := (0, 0)) hx hb hml hown hts hK hX9 io_102 (by decide +kernel) rfl rfl uw_699 uw_700 uw_701 (by decide +kernel) (by decide +kernel) (by decide +kernel) (by decide +kernel) ⟨_, rfl⟩ rfl rfl rfl (Nat.le_of_ble_eq_true rfl) (hsim μ (xs (nI i + 1).toNatClampNeg) (xs (nI i + 2).toNatClampNeg) hrel) had hP hD hS hl.1 (by first | omega | (simp only []; omega)) (by first | omega | (simp only []; omega)) (fun v μ1 ad1 H locs hQ ha hP hD hS => ?_)
  obtain ⟨v0, e0, hrun⟩ := hQ
  cases e0
  have had : ∀ k, gd_N ≤ k → ad1 k = adS k := fun k hk => (ha k (gd_mvN k hk)).trans (had k hk)
  rw [← ha 0 rfl, ← ha 11 rfl] at hl
  refine lv_aload_n (k := 2) hx hb (by decide +kernel) rfl (lv_at hl 2 rfl) ?_
  refine lv_aload_n (k := 0) hx hb (by decide +kernel) rfl (lv_at hl 0 rfl) ?_
  refine lv_iload_n (k := 3) hx hb (by decide +kernel) rfl (lv_at hl 3 rfl) ?_
  refine lv_iconst (n := 1) (v := 1) hx hb (by decide +kernel) (by decide) ?_
  refine lv_iadd hx hb (by decide +kernel) ?_
  refine va_sld hx hb hXs hbl hbA hS h_1 (by decide +kernel) ?_
  refine lv_aload_n (k := 0) hx hb (by decide +kernel) rfl (lv_at hl 0 rfl) ?_
  refine lv_iload_n (k := 3) hx hb (by decide +kernel) rfl (lv_at hl 3 rfl) ?_
  refine lv_iconst (n := 2) (v := 2) hx hb (by decide +kernel) (by decide) ?_
  refine lv_iadd hx hb (by decide +kernel) ?_
  refine va_sld hx hb hXs hbl hbA hS h_2 (by decide +kernel) ?_
  refine lw_call (M := 152) (n := 2) (idx := 56) (ci := 11) (k := 11) (as := [(xs (nI i + 1).toNatClampNeg), (xs (nI i + 2).toNatClampNeg)]) (rest := [.int v]) (bb := (0, 0)) hx hb hml hown hts hK hX9 io_152 (by decide +kernel) rfl rfl uw_1240 uw_1241 uw_1242 (by decide +kernel) (by decide +kernel) (by decide +kernel) (by decide +kernel) ⟨_, rfl⟩ rfl rfl rfl (Nat.le_of_ble_eq_true rfl) hrun had hP hD hS hl.1 (by first | omega | (simp only []; omega)) (by first | omega | (simp only []; omega)) (fun v2 μ2 ad2 H locs hQ ha hP hD hS => ?_)
  obtain ⟨e2, hrel⟩ := hQ
  cases e2
  have had : ∀ k, gd_N ≤ k → ad2 k = adS k := fun k hk => (ha k (gd_mvN k hk)).trans (had k hk)
  rw [← ha 0 rfl, ← ha 11 rfl] at hl
  refine lv_icmp_eq (off := 387) (tgt := 918) hx hb (by decide +kernel) (by decide) (fun _ => ?_) (fun q => absurd rfl q)
  exact kk μ2 ad2 H locs ls hrel had hP hD hS hl
set_option maxRecDepth 20000 in
set_option maxHeartbeats 4000000 in
theorem lw_case_10 {T : Nat} {i : Nat} (hL : L ≤ 3072) (A0 : lw_At p s m meth c b L xs) (hK : va_K D vwCl (ab_tys cy) s) (hX9 : gd_X adS (fun q => s.heap.size ≤ q) s) (hi : i + 6 ≤ L) (hT : T ≤ 120) (hsim : ∀ (μ : ab_S) (a0 a1 a2 a3 : Int32), (a3 = 0 ∨ a3 = 1) → rel T μ → lw_sim1 rel 103 153 T (0, 0) [a0, a1, a2, a3] μ) (kk : lw_St p l e s m below meth c b D cy adS rel i T 918) : lw_St p l e s m below meth c b D cy adS rel i T 536 := by
  obtain ⟨hx, hb, hr, hml, hown, hts, hXs, hbl, hlocks, hgv⟩ := A0
  have hbA : ¬ (fun q : Nat => s.heap.size ≤ q) b := Nat.not_le.mpr hbl
  have h_1 : vp_in (nI i + 1) L := by rw [show nI i + 1 = nI (i + 1) from nI_add i 1]; exact vp_in_nI (by omega) (by omega)
  have h_2 : vp_in (nI i + 2) L := by rw [show nI i + 2 = nI (i + 2) from nI_add i 2]; exact vp_in_nI (by omega) (by omega)
  have h_3 : vp_in (nI i + 3) L := by rw [show nI i + 3 = nI (i + 3) from nI_add i 3]; exact vp_in_nI (by omega) (by omega)
  have h_4 : vp_in (nI i + 4) L := by rw [show nI i + 4 = nI (i + 4) from nI_add i 4]; exact vp_in_nI (by omega) (by omega)
  have h_5 : vp_in (nI i + 5) L := by rw [show nI i + 5 = nI (i + 5) from nI_add i 5]; exact vp_in_nI (by omega) (by omega)
  intro μ ad H locs ls hrel had hP hD hS hl
  refine lv_aload_n (k := 1) hx hb (by decide +kernel) rfl (lv_at hl 1 rfl) ?_
  refine lv_aload_n (k := 0) hx hb (by decide +kernel) rfl (lv_at hl 0 rfl) ?_
  refine lv_iload_n (k := 3) hx hb (by decide +kernel) rfl (lv_at hl 3 rfl) ?_
  refine lv_iconst (n := 1) (v := 1) hx hb (by decide +kernel) (by decide) ?_
  refine lv_iadd hx hb (by decide +kernel) ?_
  refine va_sld hx hb hXs hbl hbA hS h_1 (by decide +kernel) ?_
  refine lv_aload_n (k := 0) hx hb (by decide +kernel) rfl (lv_at hl 0 rfl) ?_
  refine lv_iload_n (k := 3) hx hb (by decide +kernel) rfl (lv_at hl 3 rfl) ?_
  refine lv_iconst (n := 2) (v := 2) hx hb (by decide +kernel) (by decide) ?_
  refine lv_iadd hx hb (by decide +kernel) ?_
  refine va_sld hx hb hXs hbl hbA hS h_2 (by decide +kernel) ?_
  refine lv_aload_n (k := 0) hx hb (by decide +kernel) rfl (lv_at hl 0 rfl) ?_
  refine lv_iload_n (k := 3) hx hb (by decide +kernel) rfl (lv_at hl 3 rfl) ?_
  refine lv_iconst (n := 3) (v := 3) hx hb (by decide +kernel) (by decide) ?_
  refine lv_iadd hx hb (by decide +kernel) ?_
  refine va_sld hx hb hXs hbl hbA hS h_3 (by decide +kernel) ?_
  refine lv_aload_n (k := 0) hx hb (by decide +kernel) rfl (lv_at hl 0 rfl) ?_
  refine lv_iload_n (k := 3) hx hb (by decide +kernel) rfl (lv_at hl 3 rfl) ?_
  refine lv_iconst (n := 4) (v := 4) hx hb (by decide +kernel) (by decide) ?_
  refine lv_iadd hx hb (by decide +kernel) ?_
  refine va_sld hx hb hXs hbl hbA hS h_4 (by decide +kernel) ?_
  refine lv_if_eq (off := 7) (tgt := 564) hx hb (by decide +kernel) (by decide) (fun fz => ?_) (fun fz => ?_)
  · refine lv_iconst (n := 0) (v := 0) hx hb (by decide +kernel) (by decide) ?_
    refine lw_call (M := 103) (n := 4) (idx := 57) (ci := 10) (k := 0) (as := [(xs (nI i + 1).toNatClampNeg), (xs (nI i + 2).toNatClampNeg), (xs (nI i + 3).toNatClampNeg), 0]) (rest := []) (bb := (0, 0)) hx hb hml hown hts hK hX9 io_103 (by decide +kernel) rfl rfl uw_715 uw_716 uw_717 (by decide +kernel) (by decide +kernel) (by decide +kernel) (by decide +kernel) ⟨_, rfl⟩ rfl rfl rfl (Nat.le_of_ble_eq_true rfl) (hsim μ (xs (nI i + 1).toNatClampNeg) (xs (nI i + 2).toNatClampNeg) (xs (nI i + 3).toNatClampNeg) 0 (by decide) hrel) had hP hD hS hl.1 (by first | omega | (simp only []; omega)) (by first | omega | (simp only []; omega)) (fun v μ1 ad1 H locs hQ ha hP hD hS => ?_)
    obtain ⟨v0, e0, hrun⟩ := hQ
    cases e0
    have had : ∀ k, gd_N ≤ k → ad1 k = adS k := fun k hk => (ha k (gd_mvN k hk)).trans (had k hk)
    rw [← ha 0 rfl, ← ha 11 rfl] at hl
    refine lv_aload_n (k := 2) hx hb (by decide +kernel) rfl (lv_at hl 2 rfl) ?_
    refine lv_aload_n (k := 0) hx hb (by decide +kernel) rfl (lv_at hl 0 rfl) ?_
    refine lv_iload_n (k := 3) hx hb (by decide +kernel) rfl (lv_at hl 3 rfl) ?_
    refine lv_iconst (n := 1) (v := 1) hx hb (by decide +kernel) (by decide) ?_
    refine lv_iadd hx hb (by decide +kernel) ?_
    refine va_sld hx hb hXs hbl hbA hS h_1 (by decide +kernel) ?_
    refine lv_aload_n (k := 0) hx hb (by decide +kernel) rfl (lv_at hl 0 rfl) ?_
    refine lv_iload_n (k := 3) hx hb (by decide +kernel) rfl (lv_at hl 3 rfl) ?_
    refine lv_iconst (n := 2) (v := 2) hx hb (by decide +kernel) (by decide) ?_
    refine lv_iadd hx hb (by decide +kernel) ?_
    refine va_sld hx hb hXs hbl hbA hS h_2 (by decide +kernel) ?_
    refine lv_aload_n (k := 0) hx hb (by decide +kernel) rfl (lv_at hl 0 rfl) ?_
    refine lv_iload_n (k := 3) hx hb (by decide +kernel) rfl (lv_at hl 3 rfl) ?_
    refine lv_iconst (n := 3) (v := 3) hx hb (by decide +kernel) (by decide) ?_
    refine lv_iadd hx hb (by decide +kernel) ?_
    refine va_sld hx hb hXs hbl hbA hS h_3 (by decide +kernel) ?_
    refine lv_aload_n (k := 0) hx hb (by decide +kernel) rfl (lv_at hl 0 rfl) ?_
    refine lv_iload_n (k := 3) hx hb (by decide +kernel) rfl (lv_at hl 3 rfl) ?_
    refine lv_iconst (n := 4) (v := 4) hx hb (by decide +kernel) (by decide) ?_
    refine lv_iadd hx hb (by decide +kernel) ?_
    refine va_sld hx hb hXs hbl hbA hS h_4 (by decide +kernel) ?_
    refine lv_if_eq (off := 7) (tgt := 596) hx hb (by decide +kernel) (by decide) (fun _ => ?_) (fun q => absurd fz q)
    refine lv_iconst (n := 0) (v := 0) hx hb (by decide +kernel) (by decide) ?_
    refine lw_call (M := 153) (n := 4) (idx := 61) (ci := 11) (k := 11) (as := [(xs (nI i + 1).toNatClampNeg), (xs (nI i + 2).toNatClampNeg), (xs (nI i + 3).toNatClampNeg), 0]) (rest := [.int v]) (bb := (0, 0)) hx hb hml hown hts hK hX9 io_153 (by decide +kernel) rfl rfl uw_1248 uw_1249 uw_1250 (by decide +kernel) (by decide +kernel) (by decide +kernel) (by decide +kernel) ⟨_, rfl⟩ rfl rfl rfl (Nat.le_of_ble_eq_true rfl) hrun had hP hD hS hl.1 (by first | omega | (simp only []; omega)) (by first | omega | (simp only []; omega)) (fun v2 μ2 ad2 H locs hQ ha hP hD hS => ?_)
    obtain ⟨e2, hrel⟩ := hQ
    cases e2
    have had : ∀ k, gd_N ≤ k → ad2 k = adS k := fun k hk => (ha k (gd_mvN k hk)).trans (had k hk)
    rw [← ha 0 rfl, ← ha 11 rfl] at hl
    refine lv_icmp_eq (off := 318) (tgt := 918) hx hb (by decide +kernel) (by decide) (fun _ => ?_) (fun q => absurd rfl q)
    exact kk μ2 ad2 H locs ls hrel had hP hD hS hl
  · refine lv_iconst (n := 1) (v := 1) hx hb (by decide +kernel) (by decide) ?_
    refine lv_goto (off := 4) (tgt := 565) hx hb (by decide +kernel) (by decide) ?_
    refine lw_call (M := 103) (n := 4) (idx := 57) (ci := 10) (k := 0) (as := [(xs (nI i + 1).toNatClampNeg), (xs (nI i + 2).toNatClampNeg), (xs (nI i + 3).toNatClampNeg), 1]) (rest := []) (bb := (0, 0)) hx hb hml hown hts hK hX9 io_103 (by decide +kernel) rfl rfl uw_715 uw_716 uw_717 (by decide +kernel) (by decide +kernel) (by decide +kernel) (by decide +kernel) ⟨_, rfl⟩ rfl rfl rfl (Nat.le_of_ble_eq_true rfl) (hsim μ (xs (nI i + 1).toNatClampNeg) (xs (nI i + 2).toNatClampNeg) (xs (nI i + 3).toNatClampNeg) 1 (by decide) hrel) had hP hD hS hl.1 (by first | omega | (simp only []; omega)) (by first | omega | (simp only []; omega)) (fun v μ1 ad1 H locs hQ ha hP hD hS => ?_)
    obtain ⟨v0, e0, hrun⟩ := hQ
    cases e0
    have had : ∀ k, gd_N ≤ k → ad1 k = adS k := fun k hk => (ha k (gd_mvN k hk)).trans (had k hk)
    rw [← ha 0 rfl, ← ha 11 rfl] at hl
    refine lv_aload_n (k := 2) hx hb (by decide +kernel) rfl (lv_at hl 2 rfl) ?_
    refine lv_aload_n (k := 0) hx hb (by decide +kernel) rfl (lv_at hl 0 rfl) ?_
    refine lv_iload_n (k := 3) hx hb (by decide +kernel) rfl (lv_at hl 3 rfl) ?_
    refine lv_iconst (n := 1) (v := 1) hx hb (by decide +kernel) (by decide) ?_
    refine lv_iadd hx hb (by decide +kernel) ?_
    refine va_sld hx hb hXs hbl hbA hS h_1 (by decide +kernel) ?_
    refine lv_aload_n (k := 0) hx hb (by decide +kernel) rfl (lv_at hl 0 rfl) ?_
    refine lv_iload_n (k := 3) hx hb (by decide +kernel) rfl (lv_at hl 3 rfl) ?_
    refine lv_iconst (n := 2) (v := 2) hx hb (by decide +kernel) (by decide) ?_
    refine lv_iadd hx hb (by decide +kernel) ?_
    refine va_sld hx hb hXs hbl hbA hS h_2 (by decide +kernel) ?_
    refine lv_aload_n (k := 0) hx hb (by decide +kernel) rfl (lv_at hl 0 rfl) ?_
    refine lv_iload_n (k := 3) hx hb (by decide +kernel) rfl (lv_at hl 3 rfl) ?_
    refine lv_iconst (n := 3) (v := 3) hx hb (by decide +kernel) (by decide) ?_
    refine lv_iadd hx hb (by decide +kernel) ?_
    refine va_sld hx hb hXs hbl hbA hS h_3 (by decide +kernel) ?_
    refine lv_aload_n (k := 0) hx hb (by decide +kernel) rfl (lv_at hl 0 rfl) ?_
    refine lv_iload_n (k := 3) hx hb (by decide +kernel) rfl (lv_at hl 3 rfl) ?_
    refine lv_iconst (n := 4) (v := 4) hx hb (by decide +kernel) (by decide) ?_
    refine lv_iadd hx hb (by decide +kernel) ?_
    refine va_sld hx hb hXs hbl hbA hS h_4 (by decide +kernel) ?_
    refine lv_if_eq (off := 7) (tgt := 596) hx hb (by decide +kernel) (by decide) (fun q => absurd q fz) (fun _ => ?_)
    refine lv_iconst (n := 1) (v := 1) hx hb (by decide +kernel) (by decide) ?_
    refine lv_goto (off := 4) (tgt := 597) hx hb (by decide +kernel) (by decide) ?_
    refine lw_call (M := 153) (n := 4) (idx := 61) (ci := 11) (k := 11) (as := [(xs (nI i + 1).toNatClampNeg), (xs (nI i + 2).toNatClampNeg), (xs (nI i + 3).toNatClampNeg), 1]) (rest := [.int v]) (bb := (0, 0)) hx hb hml hown hts hK hX9 io_153 (by decide +kernel) rfl rfl uw_1248 uw_1249 uw_1250 (by decide +kernel) (by decide +kernel) (by decide +kernel) (by decide +kernel) ⟨_, rfl⟩ rfl rfl rfl (Nat.le_of_ble_eq_true rfl) hrun had hP hD hS hl.1 (by first | omega | (simp only []; omega)) (by first | omega | (simp only []; omega)) (fun v2 μ2 ad2 H locs hQ ha hP hD hS => ?_)
    obtain ⟨e2, hrel⟩ := hQ
    cases e2
    have had : ∀ k, gd_N ≤ k → ad2 k = adS k := fun k hk => (ha k (gd_mvN k hk)).trans (had k hk)
    rw [← ha 0 rfl, ← ha 11 rfl] at hl
    refine lv_icmp_eq (off := 318) (tgt := 918) hx hb (by decide +kernel) (by decide) (fun _ => ?_) (fun q => absurd rfl q)
    exact kk μ2 ad2 H locs ls hrel had hP hD hS hl
set_option maxRecDepth 20000 in
set_option maxHeartbeats 4000000 in
theorem lw_case_11 {T : Nat} {i : Nat} (hL : L ≤ 3072) (A0 : lw_At p s m meth c b L xs) (hK : va_K D vwCl (ab_tys cy) s) (hX9 : gd_X adS (fun q => s.heap.size ≤ q) s) (hi : i + 6 ≤ L) (hT : T ≤ 120) (hsim : ∀ (μ : ab_S) (a0 a1 : Int32), rel T μ → lw_sim1 rel 104 154 T (0, 0) [a0, a1] μ) (kk : lw_St p l e s m below meth c b D cy adS rel i T 918) : lw_St p l e s m below meth c b D cy adS rel i T 605 := by
  obtain ⟨hx, hb, hr, hml, hown, hts, hXs, hbl, hlocks, hgv⟩ := A0
  have hbA : ¬ (fun q : Nat => s.heap.size ≤ q) b := Nat.not_le.mpr hbl
  have h_1 : vp_in (nI i + 1) L := by rw [show nI i + 1 = nI (i + 1) from nI_add i 1]; exact vp_in_nI (by omega) (by omega)
  have h_2 : vp_in (nI i + 2) L := by rw [show nI i + 2 = nI (i + 2) from nI_add i 2]; exact vp_in_nI (by omega) (by omega)
  have h_3 : vp_in (nI i + 3) L := by rw [show nI i + 3 = nI (i + 3) from nI_add i 3]; exact vp_in_nI (by omega) (by omega)
  have h_4 : vp_in (nI i + 4) L := by rw [show nI i + 4 = nI (i + 4) from nI_add i 4]; exact vp_in_nI (by omega) (by omega)
  have h_5 : vp_in (nI i + 5) L := by rw [show nI i + 5 = nI (i + 5) from nI_add i 5]; exact vp_in_nI (by omega) (by omega)
  intro μ ad H locs ls hrel had hP hD hS hl
  refine lv_aload_n (k := 1) hx hb (by decide +kernel) rfl (lv_at hl 1 rfl) ?_
  refine lv_aload_n (k := 0) hx hb (by decide +kernel) rfl (lv_at hl 0 rfl) ?_
  refine lv_iload_n (k := 3) hx hb (by decide +kernel) rfl (lv_at hl 3 rfl) ?_
  refine lv_iconst (n := 1) (v := 1) hx hb (by decide +kernel) (by decide) ?_
  refine lv_iadd hx hb (by decide +kernel) ?_
  refine va_sld hx hb hXs hbl hbA hS h_1 (by decide +kernel) ?_
  refine lv_aload_n (k := 0) hx hb (by decide +kernel) rfl (lv_at hl 0 rfl) ?_
  refine lv_iload_n (k := 3) hx hb (by decide +kernel) rfl (lv_at hl 3 rfl) ?_
  refine lv_iconst (n := 2) (v := 2) hx hb (by decide +kernel) (by decide) ?_
  refine lv_iadd hx hb (by decide +kernel) ?_
  refine va_sld hx hb hXs hbl hbA hS h_2 (by decide +kernel) ?_
  refine lw_call (M := 104) (n := 2) (idx := 62) (ci := 10) (k := 0) (as := [(xs (nI i + 1).toNatClampNeg), (xs (nI i + 2).toNatClampNeg)]) (rest := []) (bb := (0, 0)) hx hb hml hown hts hK hX9 io_104 (by decide +kernel) rfl rfl uw_739 uw_740 uw_741 (by decide +kernel) (by decide +kernel) (by decide +kernel) (by decide +kernel) ⟨_, rfl⟩ rfl rfl rfl (Nat.le_of_ble_eq_true rfl) (hsim μ (xs (nI i + 1).toNatClampNeg) (xs (nI i + 2).toNatClampNeg) hrel) had hP hD hS hl.1 (by first | omega | (simp only []; omega)) (by first | omega | (simp only []; omega)) (fun v μ1 ad1 H locs hQ ha hP hD hS => ?_)
  obtain ⟨v0, e0, hrun⟩ := hQ
  cases e0
  have had : ∀ k, gd_N ≤ k → ad1 k = adS k := fun k hk => (ha k (gd_mvN k hk)).trans (had k hk)
  rw [← ha 0 rfl, ← ha 11 rfl] at hl
  refine lv_aload_n (k := 2) hx hb (by decide +kernel) rfl (lv_at hl 2 rfl) ?_
  refine lv_aload_n (k := 0) hx hb (by decide +kernel) rfl (lv_at hl 0 rfl) ?_
  refine lv_iload_n (k := 3) hx hb (by decide +kernel) rfl (lv_at hl 3 rfl) ?_
  refine lv_iconst (n := 1) (v := 1) hx hb (by decide +kernel) (by decide) ?_
  refine lv_iadd hx hb (by decide +kernel) ?_
  refine va_sld hx hb hXs hbl hbA hS h_1 (by decide +kernel) ?_
  refine lv_aload_n (k := 0) hx hb (by decide +kernel) rfl (lv_at hl 0 rfl) ?_
  refine lv_iload_n (k := 3) hx hb (by decide +kernel) rfl (lv_at hl 3 rfl) ?_
  refine lv_iconst (n := 2) (v := 2) hx hb (by decide +kernel) (by decide) ?_
  refine lv_iadd hx hb (by decide +kernel) ?_
  refine va_sld hx hb hXs hbl hbA hS h_2 (by decide +kernel) ?_
  refine lw_call (M := 154) (n := 2) (idx := 65) (ci := 11) (k := 11) (as := [(xs (nI i + 1).toNatClampNeg), (xs (nI i + 2).toNatClampNeg)]) (rest := [.int v]) (bb := (0, 0)) hx hb hml hown hts hK hX9 io_154 (by decide +kernel) rfl rfl uw_1252 uw_1253 uw_1254 (by decide +kernel) (by decide +kernel) (by decide +kernel) (by decide +kernel) ⟨_, rfl⟩ rfl rfl rfl (Nat.le_of_ble_eq_true rfl) hrun had hP hD hS hl.1 (by first | omega | (simp only []; omega)) (by first | omega | (simp only []; omega)) (fun v2 μ2 ad2 H locs hQ ha hP hD hS => ?_)
  obtain ⟨e2, hrel⟩ := hQ
  cases e2
  have had : ∀ k, gd_N ≤ k → ad2 k = adS k := fun k hk => (ha k (gd_mvN k hk)).trans (had k hk)
  rw [← ha 0 rfl, ← ha 11 rfl] at hl
  refine lv_icmp_eq (off := 285) (tgt := 918) hx hb (by decide +kernel) (by decide) (fun _ => ?_) (fun q => absurd rfl q)
  exact kk μ2 ad2 H locs ls hrel had hP hD hS hl
set_option maxRecDepth 20000 in
set_option maxHeartbeats 4000000 in
theorem lw_case_12 {T : Nat} {i : Nat} (hL : L ≤ 3072) (A0 : lw_At p s m meth c b L xs) (hK : va_K D vwCl (ab_tys cy) s) (hX9 : gd_X adS (fun q => s.heap.size ≤ q) s) (hi : i + 6 ≤ L) (hT : T ≤ 120) (hsim : ∀ (μ : ab_S) (a0 : Int32), rel T μ → lw_sim1 rel 105 155 T (0, 0) [a0] μ) (kk : lw_St p l e s m below meth c b D cy adS rel i T 918) : lw_St p l e s m below meth c b D cy adS rel i T 638 := by
  obtain ⟨hx, hb, hr, hml, hown, hts, hXs, hbl, hlocks, hgv⟩ := A0
  have hbA : ¬ (fun q : Nat => s.heap.size ≤ q) b := Nat.not_le.mpr hbl
  have h_1 : vp_in (nI i + 1) L := by rw [show nI i + 1 = nI (i + 1) from nI_add i 1]; exact vp_in_nI (by omega) (by omega)
  have h_2 : vp_in (nI i + 2) L := by rw [show nI i + 2 = nI (i + 2) from nI_add i 2]; exact vp_in_nI (by omega) (by omega)
  have h_3 : vp_in (nI i + 3) L := by rw [show nI i + 3 = nI (i + 3) from nI_add i 3]; exact vp_in_nI (by omega) (by omega)
  have h_4 : vp_in (nI i + 4) L := by rw [show nI i + 4 = nI (i + 4) from nI_add i 4]; exact vp_in_nI (by omega) (by omega)
  have h_5 : vp_in (nI i + 5) L := by rw [show nI i + 5 = nI (i + 5) from nI_add i 5]; exact vp_in_nI (by omega) (by omega)
  intro μ ad H locs ls hrel had hP hD hS hl
  refine lv_aload_n (k := 1) hx hb (by decide +kernel) rfl (lv_at hl 1 rfl) ?_
  refine lv_aload_n (k := 0) hx hb (by decide +kernel) rfl (lv_at hl 0 rfl) ?_
  refine lv_iload_n (k := 3) hx hb (by decide +kernel) rfl (lv_at hl 3 rfl) ?_
  refine lv_iconst (n := 1) (v := 1) hx hb (by decide +kernel) (by decide) ?_
  refine lv_iadd hx hb (by decide +kernel) ?_
  refine va_sld hx hb hXs hbl hbA hS h_1 (by decide +kernel) ?_
  refine lw_call (M := 105) (n := 1) (idx := 66) (ci := 10) (k := 0) (as := [(xs (nI i + 1).toNatClampNeg)]) (rest := []) (bb := (0, 0)) hx hb hml hown hts hK hX9 io_105 (by decide +kernel) rfl rfl uw_752 uw_753 uw_754 (by decide +kernel) (by decide +kernel) (by decide +kernel) (by decide +kernel) ⟨_, rfl⟩ rfl rfl rfl (Nat.le_of_ble_eq_true rfl) (hsim μ (xs (nI i + 1).toNatClampNeg) hrel) had hP hD hS hl.1 (by first | omega | (simp only []; omega)) (by first | omega | (simp only []; omega)) (fun v μ1 ad1 H locs hQ ha hP hD hS => ?_)
  obtain ⟨v0, e0, hrun⟩ := hQ
  cases e0
  have had : ∀ k, gd_N ≤ k → ad1 k = adS k := fun k hk => (ha k (gd_mvN k hk)).trans (had k hk)
  rw [← ha 0 rfl, ← ha 11 rfl] at hl
  refine lv_aload_n (k := 2) hx hb (by decide +kernel) rfl (lv_at hl 2 rfl) ?_
  refine lv_aload_n (k := 0) hx hb (by decide +kernel) rfl (lv_at hl 0 rfl) ?_
  refine lv_iload_n (k := 3) hx hb (by decide +kernel) rfl (lv_at hl 3 rfl) ?_
  refine lv_iconst (n := 1) (v := 1) hx hb (by decide +kernel) (by decide) ?_
  refine lv_iadd hx hb (by decide +kernel) ?_
  refine va_sld hx hb hXs hbl hbA hS h_1 (by decide +kernel) ?_
  refine lw_call (M := 155) (n := 1) (idx := 69) (ci := 11) (k := 11) (as := [(xs (nI i + 1).toNatClampNeg)]) (rest := [.int v]) (bb := (0, 0)) hx hb hml hown hts hK hX9 io_155 (by decide +kernel) rfl rfl uw_1256 uw_1257 uw_1258 (by decide +kernel) (by decide +kernel) (by decide +kernel) (by decide +kernel) ⟨_, rfl⟩ rfl rfl rfl (Nat.le_of_ble_eq_true rfl) hrun had hP hD hS hl.1 (by first | omega | (simp only []; omega)) (by first | omega | (simp only []; omega)) (fun v2 μ2 ad2 H locs hQ ha hP hD hS => ?_)
  obtain ⟨e2, hrel⟩ := hQ
  cases e2
  have had : ∀ k, gd_N ≤ k → ad2 k = adS k := fun k hk => (ha k (gd_mvN k hk)).trans (had k hk)
  rw [← ha 0 rfl, ← ha 11 rfl] at hl
  refine lv_icmp_eq (off := 262) (tgt := 918) hx hb (by decide +kernel) (by decide) (fun _ => ?_) (fun q => absurd rfl q)
  exact kk μ2 ad2 H locs ls hrel had hP hD hS hl
set_option maxRecDepth 20000 in
set_option maxHeartbeats 4000000 in
theorem lw_case_13 {T : Nat} {i : Nat} (hL : L ≤ 3072) (A0 : lw_At p s m meth c b L xs) (hK : va_K D vwCl (ab_tys cy) s) (hX9 : gd_X adS (fun q => s.heap.size ≤ q) s) (hi : i + 6 ≤ L) (hT : T ≤ 120) (hsim : ∀ (μ : ab_S) (a0 : Int32), rel T μ → lw_sim1 rel 106 156 T (0, 0) [a0] μ) (kk : lw_St p l e s m below meth c b D cy adS rel i T 918) : lw_St p l e s m below meth c b D cy adS rel i T 661 := by
  obtain ⟨hx, hb, hr, hml, hown, hts, hXs, hbl, hlocks, hgv⟩ := A0
  have hbA : ¬ (fun q : Nat => s.heap.size ≤ q) b := Nat.not_le.mpr hbl
  have h_1 : vp_in (nI i + 1) L := by rw [show nI i + 1 = nI (i + 1) from nI_add i 1]; exact vp_in_nI (by omega) (by omega)
  have h_2 : vp_in (nI i + 2) L := by rw [show nI i + 2 = nI (i + 2) from nI_add i 2]; exact vp_in_nI (by omega) (by omega)
  have h_3 : vp_in (nI i + 3) L := by rw [show nI i + 3 = nI (i + 3) from nI_add i 3]; exact vp_in_nI (by omega) (by omega)
  have h_4 : vp_in (nI i + 4) L := by rw [show nI i + 4 = nI (i + 4) from nI_add i 4]; exact vp_in_nI (by omega) (by omega)
  have h_5 : vp_in (nI i + 5) L := by rw [show nI i + 5 = nI (i + 5) from nI_add i 5]; exact vp_in_nI (by omega) (by omega)
  intro μ ad H locs ls hrel had hP hD hS hl
  refine lv_aload_n (k := 1) hx hb (by decide +kernel) rfl (lv_at hl 1 rfl) ?_
  refine lv_aload_n (k := 0) hx hb (by decide +kernel) rfl (lv_at hl 0 rfl) ?_
  refine lv_iload_n (k := 3) hx hb (by decide +kernel) rfl (lv_at hl 3 rfl) ?_
  refine lv_iconst (n := 1) (v := 1) hx hb (by decide +kernel) (by decide) ?_
  refine lv_iadd hx hb (by decide +kernel) ?_
  refine va_sld hx hb hXs hbl hbA hS h_1 (by decide +kernel) ?_
  refine lw_call (M := 106) (n := 1) (idx := 70) (ci := 10) (k := 0) (as := [(xs (nI i + 1).toNatClampNeg)]) (rest := []) (bb := (0, 0)) hx hb hml hown hts hK hX9 io_106 (by decide +kernel) rfl rfl uw_769 uw_770 uw_771 (by decide +kernel) (by decide +kernel) (by decide +kernel) (by decide +kernel) ⟨_, rfl⟩ rfl rfl rfl (Nat.le_of_ble_eq_true rfl) (hsim μ (xs (nI i + 1).toNatClampNeg) hrel) had hP hD hS hl.1 (by first | omega | (simp only []; omega)) (by first | omega | (simp only []; omega)) (fun v μ1 ad1 H locs hQ ha hP hD hS => ?_)
  obtain ⟨v0, e0, hrun⟩ := hQ
  cases e0
  have had : ∀ k, gd_N ≤ k → ad1 k = adS k := fun k hk => (ha k (gd_mvN k hk)).trans (had k hk)
  rw [← ha 0 rfl, ← ha 11 rfl] at hl
  refine lv_aload_n (k := 2) hx hb (by decide +kernel) rfl (lv_at hl 2 rfl) ?_
  refine lv_aload_n (k := 0) hx hb (by decide +kernel) rfl (lv_at hl 0 rfl) ?_
  refine lv_iload_n (k := 3) hx hb (by decide +kernel) rfl (lv_at hl 3 rfl) ?_
  refine lv_iconst (n := 1) (v := 1) hx hb (by decide +kernel) (by decide) ?_
  refine lv_iadd hx hb (by decide +kernel) ?_
  refine va_sld hx hb hXs hbl hbA hS h_1 (by decide +kernel) ?_
  refine lw_call (M := 156) (n := 1) (idx := 74) (ci := 11) (k := 11) (as := [(xs (nI i + 1).toNatClampNeg)]) (rest := [.int v]) (bb := (0, 0)) hx hb hml hown hts hK hX9 io_156 (by decide +kernel) rfl rfl uw_1260 uw_1261 uw_1262 (by decide +kernel) (by decide +kernel) (by decide +kernel) (by decide +kernel) ⟨_, rfl⟩ rfl rfl rfl (Nat.le_of_ble_eq_true rfl) hrun had hP hD hS hl.1 (by first | omega | (simp only []; omega)) (by first | omega | (simp only []; omega)) (fun v2 μ2 ad2 H locs hQ ha hP hD hS => ?_)
  obtain ⟨e2, hrel⟩ := hQ
  cases e2
  have had : ∀ k, gd_N ≤ k → ad2 k = adS k := fun k hk => (ha k (gd_mvN k hk)).trans (had k hk)
  rw [← ha 0 rfl, ← ha 11 rfl] at hl
  refine lv_icmp_eq (off := 239) (tgt := 918) hx hb (by decide +kernel) (by decide) (fun _ => ?_) (fun q => absurd rfl q)
  exact kk μ2 ad2 H locs ls hrel had hP hD hS hl
set_option maxRecDepth 20000 in
set_option maxHeartbeats 4000000 in
theorem lw_case_14 {T : Nat} {i : Nat} (hL : L ≤ 3072) (A0 : lw_At p s m meth c b L xs) (hK : va_K D vwCl (ab_tys cy) s) (hX9 : gd_X adS (fun q => s.heap.size ≤ q) s) (hi : i + 6 ≤ L) (hT : T ≤ 120) (hsim : ∀ (μ : ab_S) (a0 a1 a2 : Int32), rel T μ → lw_sim1 rel 107 157 T (0, 0) [a0, a1, a2] μ) (kk : lw_St p l e s m below meth c b D cy adS rel i T 918) : lw_St p l e s m below meth c b D cy adS rel i T 684 := by
  obtain ⟨hx, hb, hr, hml, hown, hts, hXs, hbl, hlocks, hgv⟩ := A0
  have hbA : ¬ (fun q : Nat => s.heap.size ≤ q) b := Nat.not_le.mpr hbl
  have h_1 : vp_in (nI i + 1) L := by rw [show nI i + 1 = nI (i + 1) from nI_add i 1]; exact vp_in_nI (by omega) (by omega)
  have h_2 : vp_in (nI i + 2) L := by rw [show nI i + 2 = nI (i + 2) from nI_add i 2]; exact vp_in_nI (by omega) (by omega)
  have h_3 : vp_in (nI i + 3) L := by rw [show nI i + 3 = nI (i + 3) from nI_add i 3]; exact vp_in_nI (by omega) (by omega)
  have h_4 : vp_in (nI i + 4) L := by rw [show nI i + 4 = nI (i + 4) from nI_add i 4]; exact vp_in_nI (by omega) (by omega)
  have h_5 : vp_in (nI i + 5) L := by rw [show nI i + 5 = nI (i + 5) from nI_add i 5]; exact vp_in_nI (by omega) (by omega)
  intro μ ad H locs ls hrel had hP hD hS hl
  refine lv_aload_n (k := 1) hx hb (by decide +kernel) rfl (lv_at hl 1 rfl) ?_
  refine lv_aload_n (k := 0) hx hb (by decide +kernel) rfl (lv_at hl 0 rfl) ?_
  refine lv_iload_n (k := 3) hx hb (by decide +kernel) rfl (lv_at hl 3 rfl) ?_
  refine lv_iconst (n := 1) (v := 1) hx hb (by decide +kernel) (by decide) ?_
  refine lv_iadd hx hb (by decide +kernel) ?_
  refine va_sld hx hb hXs hbl hbA hS h_1 (by decide +kernel) ?_
  refine lv_aload_n (k := 0) hx hb (by decide +kernel) rfl (lv_at hl 0 rfl) ?_
  refine lv_iload_n (k := 3) hx hb (by decide +kernel) rfl (lv_at hl 3 rfl) ?_
  refine lv_iconst (n := 2) (v := 2) hx hb (by decide +kernel) (by decide) ?_
  refine lv_iadd hx hb (by decide +kernel) ?_
  refine va_sld hx hb hXs hbl hbA hS h_2 (by decide +kernel) ?_
  refine lv_aload_n (k := 0) hx hb (by decide +kernel) rfl (lv_at hl 0 rfl) ?_
  refine lv_iload_n (k := 3) hx hb (by decide +kernel) rfl (lv_at hl 3 rfl) ?_
  refine lv_iconst (n := 3) (v := 3) hx hb (by decide +kernel) (by decide) ?_
  refine lv_iadd hx hb (by decide +kernel) ?_
  refine va_sld hx hb hXs hbl hbA hS h_3 (by decide +kernel) ?_
  refine lw_call (M := 107) (n := 3) (idx := 75) (ci := 10) (k := 0) (as := [(xs (nI i + 1).toNatClampNeg), (xs (nI i + 2).toNatClampNeg), (xs (nI i + 3).toNatClampNeg)]) (rest := []) (bb := (0, 0)) hx hb hml hown hts hK hX9 io_107 (by decide +kernel) rfl rfl uw_782 uw_783 uw_784 (by decide +kernel) (by decide +kernel) (by decide +kernel) (by decide +kernel) ⟨_, rfl⟩ rfl rfl rfl (Nat.le_of_ble_eq_true rfl) (hsim μ (xs (nI i + 1).toNatClampNeg) (xs (nI i + 2).toNatClampNeg) (xs (nI i + 3).toNatClampNeg) hrel) had hP hD hS hl.1 (by first | omega | (simp only []; omega)) (by first | omega | (simp only []; omega)) (fun v μ1 ad1 H locs hQ ha hP hD hS => ?_)
  obtain ⟨v0, e0, hrun⟩ := hQ
  cases e0
  have had : ∀ k, gd_N ≤ k → ad1 k = adS k := fun k hk => (ha k (gd_mvN k hk)).trans (had k hk)
  rw [← ha 0 rfl, ← ha 11 rfl] at hl
  refine lv_aload_n (k := 2) hx hb (by decide +kernel) rfl (lv_at hl 2 rfl) ?_
  refine lv_aload_n (k := 0) hx hb (by decide +kernel) rfl (lv_at hl 0 rfl) ?_
  refine lv_iload_n (k := 3) hx hb (by decide +kernel) rfl (lv_at hl 3 rfl) ?_
  refine lv_iconst (n := 1) (v := 1) hx hb (by decide +kernel) (by decide) ?_
  refine lv_iadd hx hb (by decide +kernel) ?_
  refine va_sld hx hb hXs hbl hbA hS h_1 (by decide +kernel) ?_
  refine lv_aload_n (k := 0) hx hb (by decide +kernel) rfl (lv_at hl 0 rfl) ?_
  refine lv_iload_n (k := 3) hx hb (by decide +kernel) rfl (lv_at hl 3 rfl) ?_
  refine lv_iconst (n := 2) (v := 2) hx hb (by decide +kernel) (by decide) ?_
  refine lv_iadd hx hb (by decide +kernel) ?_
  refine va_sld hx hb hXs hbl hbA hS h_2 (by decide +kernel) ?_
  refine lv_aload_n (k := 0) hx hb (by decide +kernel) rfl (lv_at hl 0 rfl) ?_
  refine lv_iload_n (k := 3) hx hb (by decide +kernel) rfl (lv_at hl 3 rfl) ?_
  refine lv_iconst (n := 3) (v := 3) hx hb (by decide +kernel) (by decide) ?_
  refine lv_iadd hx hb (by decide +kernel) ?_
  refine va_sld hx hb hXs hbl hbA hS h_3 (by decide +kernel) ?_
  refine lw_call (M := 157) (n := 3) (idx := 78) (ci := 11) (k := 11) (as := [(xs (nI i + 1).toNatClampNeg), (xs (nI i + 2).toNatClampNeg), (xs (nI i + 3).toNatClampNeg)]) (rest := [.int v]) (bb := (0, 0)) hx hb hml hown hts hK hX9 io_157 (by decide +kernel) rfl rfl uw_1264 uw_1265 uw_1266 (by decide +kernel) (by decide +kernel) (by decide +kernel) (by decide +kernel) ⟨_, rfl⟩ rfl rfl rfl (Nat.le_of_ble_eq_true rfl) hrun had hP hD hS hl.1 (by first | omega | (simp only []; omega)) (by first | omega | (simp only []; omega)) (fun v2 μ2 ad2 H locs hQ ha hP hD hS => ?_)
  obtain ⟨e2, hrel⟩ := hQ
  cases e2
  have had : ∀ k, gd_N ≤ k → ad2 k = adS k := fun k hk => (ha k (gd_mvN k hk)).trans (had k hk)
  rw [← ha 0 rfl, ← ha 11 rfl] at hl
  refine lv_icmp_eq (off := 196) (tgt := 918) hx hb (by decide +kernel) (by decide) (fun _ => ?_) (fun q => absurd rfl q)
  exact kk μ2 ad2 H locs ls hrel had hP hD hS hl
set_option maxRecDepth 20000 in
set_option maxHeartbeats 4000000 in
theorem lw_case_15 {T : Nat} {i : Nat} (hL : L ≤ 3072) (A0 : lw_At p s m meth c b L xs) (hK : va_K D vwCl (ab_tys cy) s) (hX9 : gd_X adS (fun q => s.heap.size ≤ q) s) (hi : i + 6 ≤ L) (hT : T ≤ 120) (hsim : ∀ (μ : ab_S) (a0 : Int32), rel T μ → lw_sim1 rel 108 158 T (0, 0) [a0] μ) (kk : lw_St p l e s m below meth c b D cy adS rel i T 918) : lw_St p l e s m below meth c b D cy adS rel i T 727 := by
  obtain ⟨hx, hb, hr, hml, hown, hts, hXs, hbl, hlocks, hgv⟩ := A0
  have hbA : ¬ (fun q : Nat => s.heap.size ≤ q) b := Nat.not_le.mpr hbl
  have h_1 : vp_in (nI i + 1) L := by rw [show nI i + 1 = nI (i + 1) from nI_add i 1]; exact vp_in_nI (by omega) (by omega)
  have h_2 : vp_in (nI i + 2) L := by rw [show nI i + 2 = nI (i + 2) from nI_add i 2]; exact vp_in_nI (by omega) (by omega)
  have h_3 : vp_in (nI i + 3) L := by rw [show nI i + 3 = nI (i + 3) from nI_add i 3]; exact vp_in_nI (by omega) (by omega)
  have h_4 : vp_in (nI i + 4) L := by rw [show nI i + 4 = nI (i + 4) from nI_add i 4]; exact vp_in_nI (by omega) (by omega)
  have h_5 : vp_in (nI i + 5) L := by rw [show nI i + 5 = nI (i + 5) from nI_add i 5]; exact vp_in_nI (by omega) (by omega)
  intro μ ad H locs ls hrel had hP hD hS hl
  refine lv_aload_n (k := 1) hx hb (by decide +kernel) rfl (lv_at hl 1 rfl) ?_
  refine lv_aload_n (k := 0) hx hb (by decide +kernel) rfl (lv_at hl 0 rfl) ?_
  refine lv_iload_n (k := 3) hx hb (by decide +kernel) rfl (lv_at hl 3 rfl) ?_
  refine lv_iconst (n := 1) (v := 1) hx hb (by decide +kernel) (by decide) ?_
  refine lv_iadd hx hb (by decide +kernel) ?_
  refine va_sld hx hb hXs hbl hbA hS h_1 (by decide +kernel) ?_
  refine lw_call (M := 108) (n := 1) (idx := 79) (ci := 10) (k := 0) (as := [(xs (nI i + 1).toNatClampNeg)]) (rest := []) (bb := (0, 0)) hx hb hml hown hts hK hX9 io_108 (by decide +kernel) rfl rfl uw_803 uw_804 uw_805 (by decide +kernel) (by decide +kernel) (by decide +kernel) (by decide +kernel) ⟨_, rfl⟩ rfl rfl rfl (Nat.le_of_ble_eq_true rfl) (hsim μ (xs (nI i + 1).toNatClampNeg) hrel) had hP hD hS hl.1 (by first | omega | (simp only []; omega)) (by first | omega | (simp only []; omega)) (fun v μ1 ad1 H locs hQ ha hP hD hS => ?_)
  obtain ⟨v0, e0, hrun⟩ := hQ
  cases e0
  have had : ∀ k, gd_N ≤ k → ad1 k = adS k := fun k hk => (ha k (gd_mvN k hk)).trans (had k hk)
  rw [← ha 0 rfl, ← ha 11 rfl] at hl
  refine lv_aload_n (k := 2) hx hb (by decide +kernel) rfl (lv_at hl 2 rfl) ?_
  refine lv_aload_n (k := 0) hx hb (by decide +kernel) rfl (lv_at hl 0 rfl) ?_
  refine lv_iload_n (k := 3) hx hb (by decide +kernel) rfl (lv_at hl 3 rfl) ?_
  refine lv_iconst (n := 1) (v := 1) hx hb (by decide +kernel) (by decide) ?_
  refine lv_iadd hx hb (by decide +kernel) ?_
  refine va_sld hx hb hXs hbl hbA hS h_1 (by decide +kernel) ?_
  refine lw_call (M := 158) (n := 1) (idx := 82) (ci := 11) (k := 11) (as := [(xs (nI i + 1).toNatClampNeg)]) (rest := [.int v]) (bb := (0, 0)) hx hb hml hown hts hK hX9 io_158 (by decide +kernel) rfl rfl uw_1268 uw_1269 uw_1270 (by decide +kernel) (by decide +kernel) (by decide +kernel) (by decide +kernel) ⟨_, rfl⟩ rfl rfl rfl (Nat.le_of_ble_eq_true rfl) hrun had hP hD hS hl.1 (by first | omega | (simp only []; omega)) (by first | omega | (simp only []; omega)) (fun v2 μ2 ad2 H locs hQ ha hP hD hS => ?_)
  obtain ⟨e2, hrel⟩ := hQ
  cases e2
  have had : ∀ k, gd_N ≤ k → ad2 k = adS k := fun k hk => (ha k (gd_mvN k hk)).trans (had k hk)
  rw [← ha 0 rfl, ← ha 11 rfl] at hl
  refine lv_icmp_eq (off := 173) (tgt := 918) hx hb (by decide +kernel) (by decide) (fun _ => ?_) (fun q => absurd rfl q)
  exact kk μ2 ad2 H locs ls hrel had hP hD hS hl
set_option maxRecDepth 20000 in
set_option maxHeartbeats 4000000 in
theorem lw_case_16 {T T' : Nat} {bb : ab_B} (hc2 : 89 + 28 * T' = 89 + 28 * T + bb.1 + 0) (hs2 : 26380 + 32512 * T' = 26380 + 32512 * T + bb.2 + 0) {i : Nat} (hL : L ≤ 3072) (A0 : lw_At p s m meth c b L xs) (hK : va_K D vwCl (ab_tys cy) s) (hX9 : gd_X adS (fun q => s.heap.size ≤ q) s) (hi : i + 6 ≤ L) (hT : T ≤ 120) (hT2 : T' ≤ 120) (hsim : ∀ (μ : ab_S), rel T μ → lw_sim1 rel 109 162 T' bb [] μ) (kk : lw_St p l e s m below meth c b D cy adS rel i T' 918) : lw_St p l e s m below meth c b D cy adS rel i T 750 := by
  obtain ⟨hx, hb, hr, hml, hown, hts, hXs, hbl, hlocks, hgv⟩ := A0
  have hbA : ¬ (fun q : Nat => s.heap.size ≤ q) b := Nat.not_le.mpr hbl
  have h_1 : vp_in (nI i + 1) L := by rw [show nI i + 1 = nI (i + 1) from nI_add i 1]; exact vp_in_nI (by omega) (by omega)
  have h_2 : vp_in (nI i + 2) L := by rw [show nI i + 2 = nI (i + 2) from nI_add i 2]; exact vp_in_nI (by omega) (by omega)
  have h_3 : vp_in (nI i + 3) L := by rw [show nI i + 3 = nI (i + 3) from nI_add i 3]; exact vp_in_nI (by omega) (by omega)
  have h_4 : vp_in (nI i + 4) L := by rw [show nI i + 4 = nI (i + 4) from nI_add i 4]; exact vp_in_nI (by omega) (by omega)
  have h_5 : vp_in (nI i + 5) L := by rw [show nI i + 5 = nI (i + 5) from nI_add i 5]; exact vp_in_nI (by omega) (by omega)
  intro μ ad H locs ls hrel had hP hD hS hl
  refine lv_aload_n (k := 1) hx hb (by decide +kernel) rfl (lv_at hl 1 rfl) ?_
  refine lw_call (M := 109) (n := 0) (idx := 83) (ci := 10) (k := 0) (as := []) (rest := []) (bb := bb) hx hb hml hown hts hK hX9 io_109 (by decide +kernel) rfl rfl uw_811 uw_812 uw_813 (by decide +kernel) (by decide +kernel) (by decide +kernel) (by decide +kernel) ⟨_, rfl⟩ rfl rfl rfl (Nat.le_of_ble_eq_true rfl) (hsim μ hrel) had hP hD hS hl.1 (by first | omega | (simp only []; omega)) (by first | omega | (simp only []; omega)) (fun v μ1 ad1 H locs hQ ha hP hD hS => ?_)
  obtain ⟨v0, e0, hrun⟩ := hQ
  cases e0
  have had : ∀ k, gd_N ≤ k → ad1 k = adS k := fun k hk => (ha k (gd_mvN k hk)).trans (had k hk)
  rw [← ha 0 rfl, ← ha 11 rfl] at hl
  refine lv_aload_n (k := 2) hx hb (by decide +kernel) rfl (lv_at hl 2 rfl) ?_
  refine lw_call (M := 162) (n := 0) (idx := 87) (ci := 11) (k := 11) (as := []) (rest := [.int v]) (bb := (0, 0)) hx hb hml hown hts hK hX9 io_162 (by decide +kernel) rfl rfl uw_1272 uw_1273 uw_1274 (by decide +kernel) (by decide +kernel) (by decide +kernel) (by decide +kernel) ⟨_, rfl⟩ rfl rfl rfl (Nat.le_of_ble_eq_true rfl) hrun had hP hD hS hl.1 (by first | omega | (simp only []; omega)) (by first | omega | (simp only []; omega)) (fun v2 μ2 ad2 H locs hQ ha hP hD hS => ?_)
  obtain ⟨e2, hrel⟩ := hQ
  cases e2
  have had : ∀ k, gd_N ≤ k → ad2 k = adS k := fun k hk => (ha k (gd_mvN k hk)).trans (had k hk)
  rw [← ha 0 rfl, ← ha 11 rfl] at hl
  refine lv_icmp_eq (off := 160) (tgt := 918) hx hb (by decide +kernel) (by decide) (fun _ => ?_) (fun q => absurd rfl q)
  have kk := kk μ2 ad2 H locs ls hrel had hP hD hS hl
  rw [hc2, hs2] at kk
  exact kk
set_option maxRecDepth 20000 in
set_option maxHeartbeats 4000000 in
theorem lw_case_17 {T : Nat} {i : Nat} (hL : L ≤ 3072) (A0 : lw_At p s m meth c b L xs) (hK : va_K D vwCl (ab_tys cy) s) (hX9 : gd_X adS (fun q => s.heap.size ≤ q) s) (hi : i + 6 ≤ L) (hT : T ≤ 120) (hsim : ∀ (μ : ab_S) (a0 a1 : Int32), rel T μ → lw_sim1 rel 110 164 T (0, 0) [a0, a1] μ) (kk : lw_St p l e s m below meth c b D cy adS rel i T 918) : lw_St p l e s m below meth c b D cy adS rel i T 763 := by
  obtain ⟨hx, hb, hr, hml, hown, hts, hXs, hbl, hlocks, hgv⟩ := A0
  have hbA : ¬ (fun q : Nat => s.heap.size ≤ q) b := Nat.not_le.mpr hbl
  have h_1 : vp_in (nI i + 1) L := by rw [show nI i + 1 = nI (i + 1) from nI_add i 1]; exact vp_in_nI (by omega) (by omega)
  have h_2 : vp_in (nI i + 2) L := by rw [show nI i + 2 = nI (i + 2) from nI_add i 2]; exact vp_in_nI (by omega) (by omega)
  have h_3 : vp_in (nI i + 3) L := by rw [show nI i + 3 = nI (i + 3) from nI_add i 3]; exact vp_in_nI (by omega) (by omega)
  have h_4 : vp_in (nI i + 4) L := by rw [show nI i + 4 = nI (i + 4) from nI_add i 4]; exact vp_in_nI (by omega) (by omega)
  have h_5 : vp_in (nI i + 5) L := by rw [show nI i + 5 = nI (i + 5) from nI_add i 5]; exact vp_in_nI (by omega) (by omega)
  intro μ ad H locs ls hrel had hP hD hS hl
  refine lv_aload_n (k := 1) hx hb (by decide +kernel) rfl (lv_at hl 1 rfl) ?_
  refine lv_aload_n (k := 0) hx hb (by decide +kernel) rfl (lv_at hl 0 rfl) ?_
  refine lv_iload_n (k := 3) hx hb (by decide +kernel) rfl (lv_at hl 3 rfl) ?_
  refine lv_iconst (n := 1) (v := 1) hx hb (by decide +kernel) (by decide) ?_
  refine lv_iadd hx hb (by decide +kernel) ?_
  refine va_sld hx hb hXs hbl hbA hS h_1 (by decide +kernel) ?_
  refine lv_aload_n (k := 0) hx hb (by decide +kernel) rfl (lv_at hl 0 rfl) ?_
  refine lv_iload_n (k := 3) hx hb (by decide +kernel) rfl (lv_at hl 3 rfl) ?_
  refine lv_iconst (n := 2) (v := 2) hx hb (by decide +kernel) (by decide) ?_
  refine lv_iadd hx hb (by decide +kernel) ?_
  refine va_sld hx hb hXs hbl hbA hS h_2 (by decide +kernel) ?_
  refine lw_call (M := 110) (n := 2) (idx := 88) (ci := 10) (k := 0) (as := [(xs (nI i + 1).toNatClampNeg), (xs (nI i + 2).toNatClampNeg)]) (rest := []) (bb := (0, 0)) hx hb hml hown hts hK hX9 io_110 (by decide +kernel) rfl rfl uw_917 uw_918 uw_919 (by decide +kernel) (by decide +kernel) (by decide +kernel) (by decide +kernel) ⟨_, rfl⟩ rfl rfl rfl (Nat.le_of_ble_eq_true rfl) (hsim μ (xs (nI i + 1).toNatClampNeg) (xs (nI i + 2).toNatClampNeg) hrel) had hP hD hS hl.1 (by first | omega | (simp only []; omega)) (by first | omega | (simp only []; omega)) (fun v μ1 ad1 H locs hQ ha hP hD hS => ?_)
  obtain ⟨v0, e0, hrun⟩ := hQ
  cases e0
  have had : ∀ k, gd_N ≤ k → ad1 k = adS k := fun k hk => (ha k (gd_mvN k hk)).trans (had k hk)
  rw [← ha 0 rfl, ← ha 11 rfl] at hl
  refine lv_aload_n (k := 2) hx hb (by decide +kernel) rfl (lv_at hl 2 rfl) ?_
  refine lv_aload_n (k := 0) hx hb (by decide +kernel) rfl (lv_at hl 0 rfl) ?_
  refine lv_iload_n (k := 3) hx hb (by decide +kernel) rfl (lv_at hl 3 rfl) ?_
  refine lv_iconst (n := 1) (v := 1) hx hb (by decide +kernel) (by decide) ?_
  refine lv_iadd hx hb (by decide +kernel) ?_
  refine va_sld hx hb hXs hbl hbA hS h_1 (by decide +kernel) ?_
  refine lv_aload_n (k := 0) hx hb (by decide +kernel) rfl (lv_at hl 0 rfl) ?_
  refine lv_iload_n (k := 3) hx hb (by decide +kernel) rfl (lv_at hl 3 rfl) ?_
  refine lv_iconst (n := 2) (v := 2) hx hb (by decide +kernel) (by decide) ?_
  refine lv_iadd hx hb (by decide +kernel) ?_
  refine va_sld hx hb hXs hbl hbA hS h_2 (by decide +kernel) ?_
  refine lw_call (M := 164) (n := 2) (idx := 91) (ci := 11) (k := 11) (as := [(xs (nI i + 1).toNatClampNeg), (xs (nI i + 2).toNatClampNeg)]) (rest := [.int v]) (bb := (0, 0)) hx hb hml hown hts hK hX9 io_164 (by decide +kernel) rfl rfl uw_1292 uw_1293 uw_1294 (by decide +kernel) (by decide +kernel) (by decide +kernel) (by decide +kernel) ⟨_, rfl⟩ rfl rfl rfl (Nat.le_of_ble_eq_true rfl) hrun had hP hD hS hl.1 (by first | omega | (simp only []; omega)) (by first | omega | (simp only []; omega)) (fun v2 μ2 ad2 H locs hQ ha hP hD hS => ?_)
  obtain ⟨e2, hrel⟩ := hQ
  cases e2
  have had : ∀ k, gd_N ≤ k → ad2 k = adS k := fun k hk => (ha k (gd_mvN k hk)).trans (had k hk)
  rw [← ha 0 rfl, ← ha 11 rfl] at hl
  refine lv_icmp_eq (off := 127) (tgt := 918) hx hb (by decide +kernel) (by decide) (fun _ => ?_) (fun q => absurd rfl q)
  exact kk μ2 ad2 H locs ls hrel had hP hD hS hl
set_option maxRecDepth 20000 in
set_option maxHeartbeats 4000000 in
theorem lw_case_18 {T : Nat} {i : Nat} (hL : L ≤ 3072) (A0 : lw_At p s m meth c b L xs) (hK : va_K D vwCl (ab_tys cy) s) (hX9 : gd_X adS (fun q => s.heap.size ≤ q) s) (hi : i + 6 ≤ L) (hT : T ≤ 120) (hsim : ∀ (μ : ab_S) (a0 a1 : Int32), rel T μ → lw_sim1 rel 111 165 T (0, 0) [a0, a1] μ) (kk : lw_St p l e s m below meth c b D cy adS rel i T 918) : lw_St p l e s m below meth c b D cy adS rel i T 796 := by
  obtain ⟨hx, hb, hr, hml, hown, hts, hXs, hbl, hlocks, hgv⟩ := A0
  have hbA : ¬ (fun q : Nat => s.heap.size ≤ q) b := Nat.not_le.mpr hbl
  have h_1 : vp_in (nI i + 1) L := by rw [show nI i + 1 = nI (i + 1) from nI_add i 1]; exact vp_in_nI (by omega) (by omega)
  have h_2 : vp_in (nI i + 2) L := by rw [show nI i + 2 = nI (i + 2) from nI_add i 2]; exact vp_in_nI (by omega) (by omega)
  have h_3 : vp_in (nI i + 3) L := by rw [show nI i + 3 = nI (i + 3) from nI_add i 3]; exact vp_in_nI (by omega) (by omega)
  have h_4 : vp_in (nI i + 4) L := by rw [show nI i + 4 = nI (i + 4) from nI_add i 4]; exact vp_in_nI (by omega) (by omega)
  have h_5 : vp_in (nI i + 5) L := by rw [show nI i + 5 = nI (i + 5) from nI_add i 5]; exact vp_in_nI (by omega) (by omega)
  intro μ ad H locs ls hrel had hP hD hS hl
  refine lv_aload_n (k := 1) hx hb (by decide +kernel) rfl (lv_at hl 1 rfl) ?_
  refine lv_aload_n (k := 0) hx hb (by decide +kernel) rfl (lv_at hl 0 rfl) ?_
  refine lv_iload_n (k := 3) hx hb (by decide +kernel) rfl (lv_at hl 3 rfl) ?_
  refine lv_iconst (n := 1) (v := 1) hx hb (by decide +kernel) (by decide) ?_
  refine lv_iadd hx hb (by decide +kernel) ?_
  refine va_sld hx hb hXs hbl hbA hS h_1 (by decide +kernel) ?_
  refine lv_aload_n (k := 0) hx hb (by decide +kernel) rfl (lv_at hl 0 rfl) ?_
  refine lv_iload_n (k := 3) hx hb (by decide +kernel) rfl (lv_at hl 3 rfl) ?_
  refine lv_iconst (n := 2) (v := 2) hx hb (by decide +kernel) (by decide) ?_
  refine lv_iadd hx hb (by decide +kernel) ?_
  refine va_sld hx hb hXs hbl hbA hS h_2 (by decide +kernel) ?_
  refine lw_call (M := 111) (n := 2) (idx := 92) (ci := 10) (k := 0) (as := [(xs (nI i + 1).toNatClampNeg), (xs (nI i + 2).toNatClampNeg)]) (rest := []) (bb := (0, 0)) hx hb hml hown hts hK hX9 io_111 (by decide +kernel) rfl rfl uw_929 uw_930 uw_931 (by decide +kernel) (by decide +kernel) (by decide +kernel) (by decide +kernel) ⟨_, rfl⟩ rfl rfl rfl (Nat.le_of_ble_eq_true rfl) (hsim μ (xs (nI i + 1).toNatClampNeg) (xs (nI i + 2).toNatClampNeg) hrel) had hP hD hS hl.1 (by first | omega | (simp only []; omega)) (by first | omega | (simp only []; omega)) (fun v μ1 ad1 H locs hQ ha hP hD hS => ?_)
  obtain ⟨v0, e0, hrun⟩ := hQ
  cases e0
  have had : ∀ k, gd_N ≤ k → ad1 k = adS k := fun k hk => (ha k (gd_mvN k hk)).trans (had k hk)
  rw [← ha 0 rfl, ← ha 11 rfl] at hl
  refine lv_aload_n (k := 2) hx hb (by decide +kernel) rfl (lv_at hl 2 rfl) ?_
  refine lv_aload_n (k := 0) hx hb (by decide +kernel) rfl (lv_at hl 0 rfl) ?_
  refine lv_iload_n (k := 3) hx hb (by decide +kernel) rfl (lv_at hl 3 rfl) ?_
  refine lv_iconst (n := 1) (v := 1) hx hb (by decide +kernel) (by decide) ?_
  refine lv_iadd hx hb (by decide +kernel) ?_
  refine va_sld hx hb hXs hbl hbA hS h_1 (by decide +kernel) ?_
  refine lv_aload_n (k := 0) hx hb (by decide +kernel) rfl (lv_at hl 0 rfl) ?_
  refine lv_iload_n (k := 3) hx hb (by decide +kernel) rfl (lv_at hl 3 rfl) ?_
  refine lv_iconst (n := 2) (v := 2) hx hb (by decide +kernel) (by decide) ?_
  refine lv_iadd hx hb (by decide +kernel) ?_
  refine va_sld hx hb hXs hbl hbA hS h_2 (by decide +kernel) ?_
  refine lw_call (M := 165) (n := 2) (idx := 95) (ci := 11) (k := 11) (as := [(xs (nI i + 1).toNatClampNeg), (xs (nI i + 2).toNatClampNeg)]) (rest := [.int v]) (bb := (0, 0)) hx hb hml hown hts hK hX9 io_165 (by decide +kernel) rfl rfl uw_1296 uw_1297 uw_1298 (by decide +kernel) (by decide +kernel) (by decide +kernel) (by decide +kernel) ⟨_, rfl⟩ rfl rfl rfl (Nat.le_of_ble_eq_true rfl) hrun had hP hD hS hl.1 (by first | omega | (simp only []; omega)) (by first | omega | (simp only []; omega)) (fun v2 μ2 ad2 H locs hQ ha hP hD hS => ?_)
  obtain ⟨e2, hrel⟩ := hQ
  cases e2
  have had : ∀ k, gd_N ≤ k → ad2 k = adS k := fun k hk => (ha k (gd_mvN k hk)).trans (had k hk)
  rw [← ha 0 rfl, ← ha 11 rfl] at hl
  refine lv_icmp_eq (off := 94) (tgt := 918) hx hb (by decide +kernel) (by decide) (fun _ => ?_) (fun q => absurd rfl q)
  exact kk μ2 ad2 H locs ls hrel had hP hD hS hl
set_option maxRecDepth 20000 in
set_option maxHeartbeats 4000000 in
theorem lw_case_19 {T : Nat} {i : Nat} (hL : L ≤ 3072) (A0 : lw_At p s m meth c b L xs) (hK : va_K D vwCl (ab_tys cy) s) (hX9 : gd_X adS (fun q => s.heap.size ≤ q) s) (hi : i + 6 ≤ L) (hT : T ≤ 120) (hsim : ∀ (μ : ab_S) (a0 a1 a2 : Int32), rel T μ → lw_sim1 rel 112 166 T (0, 0) [a0, a1, a2] μ) (kk : lw_St p l e s m below meth c b D cy adS rel i T 918) : lw_St p l e s m below meth c b D cy adS rel i T 829 := by
  obtain ⟨hx, hb, hr, hml, hown, hts, hXs, hbl, hlocks, hgv⟩ := A0
  have hbA : ¬ (fun q : Nat => s.heap.size ≤ q) b := Nat.not_le.mpr hbl
  have h_1 : vp_in (nI i + 1) L := by rw [show nI i + 1 = nI (i + 1) from nI_add i 1]; exact vp_in_nI (by omega) (by omega)
  have h_2 : vp_in (nI i + 2) L := by rw [show nI i + 2 = nI (i + 2) from nI_add i 2]; exact vp_in_nI (by omega) (by omega)
  have h_3 : vp_in (nI i + 3) L := by rw [show nI i + 3 = nI (i + 3) from nI_add i 3]; exact vp_in_nI (by omega) (by omega)
  have h_4 : vp_in (nI i + 4) L := by rw [show nI i + 4 = nI (i + 4) from nI_add i 4]; exact vp_in_nI (by omega) (by omega)
  have h_5 : vp_in (nI i + 5) L := by rw [show nI i + 5 = nI (i + 5) from nI_add i 5]; exact vp_in_nI (by omega) (by omega)
  intro μ ad H locs ls hrel had hP hD hS hl
  refine lv_aload_n (k := 1) hx hb (by decide +kernel) rfl (lv_at hl 1 rfl) ?_
  refine lv_aload_n (k := 0) hx hb (by decide +kernel) rfl (lv_at hl 0 rfl) ?_
  refine lv_iload_n (k := 3) hx hb (by decide +kernel) rfl (lv_at hl 3 rfl) ?_
  refine lv_iconst (n := 1) (v := 1) hx hb (by decide +kernel) (by decide) ?_
  refine lv_iadd hx hb (by decide +kernel) ?_
  refine va_sld hx hb hXs hbl hbA hS h_1 (by decide +kernel) ?_
  refine lv_aload_n (k := 0) hx hb (by decide +kernel) rfl (lv_at hl 0 rfl) ?_
  refine lv_iload_n (k := 3) hx hb (by decide +kernel) rfl (lv_at hl 3 rfl) ?_
  refine lv_iconst (n := 2) (v := 2) hx hb (by decide +kernel) (by decide) ?_
  refine lv_iadd hx hb (by decide +kernel) ?_
  refine va_sld hx hb hXs hbl hbA hS h_2 (by decide +kernel) ?_
  refine lv_aload_n (k := 0) hx hb (by decide +kernel) rfl (lv_at hl 0 rfl) ?_
  refine lv_iload_n (k := 3) hx hb (by decide +kernel) rfl (lv_at hl 3 rfl) ?_
  refine lv_iconst (n := 3) (v := 3) hx hb (by decide +kernel) (by decide) ?_
  refine lv_iadd hx hb (by decide +kernel) ?_
  refine va_sld hx hb hXs hbl hbA hS h_3 (by decide +kernel) ?_
  refine lw_call (M := 112) (n := 3) (idx := 96) (ci := 10) (k := 0) (as := [(xs (nI i + 1).toNatClampNeg), (xs (nI i + 2).toNatClampNeg), (xs (nI i + 3).toNatClampNeg)]) (rest := []) (bb := (0, 0)) hx hb hml hown hts hK hX9 io_112 (by decide +kernel) rfl rfl uw_937 uw_938 uw_939 (by decide +kernel) (by decide +kernel) (by decide +kernel) (by decide +kernel) ⟨_, rfl⟩ rfl rfl rfl (Nat.le_of_ble_eq_true rfl) (hsim μ (xs (nI i + 1).toNatClampNeg) (xs (nI i + 2).toNatClampNeg) (xs (nI i + 3).toNatClampNeg) hrel) had hP hD hS hl.1 (by first | omega | (simp only []; omega)) (by first | omega | (simp only []; omega)) (fun v μ1 ad1 H locs hQ ha hP hD hS => ?_)
  obtain ⟨v0, e0, hrun⟩ := hQ
  cases e0
  have had : ∀ k, gd_N ≤ k → ad1 k = adS k := fun k hk => (ha k (gd_mvN k hk)).trans (had k hk)
  rw [← ha 0 rfl, ← ha 11 rfl] at hl
  refine lv_aload_n (k := 2) hx hb (by decide +kernel) rfl (lv_at hl 2 rfl) ?_
  refine lv_aload_n (k := 0) hx hb (by decide +kernel) rfl (lv_at hl 0 rfl) ?_
  refine lv_iload_n (k := 3) hx hb (by decide +kernel) rfl (lv_at hl 3 rfl) ?_
  refine lv_iconst (n := 1) (v := 1) hx hb (by decide +kernel) (by decide) ?_
  refine lv_iadd hx hb (by decide +kernel) ?_
  refine va_sld hx hb hXs hbl hbA hS h_1 (by decide +kernel) ?_
  refine lv_aload_n (k := 0) hx hb (by decide +kernel) rfl (lv_at hl 0 rfl) ?_
  refine lv_iload_n (k := 3) hx hb (by decide +kernel) rfl (lv_at hl 3 rfl) ?_
  refine lv_iconst (n := 2) (v := 2) hx hb (by decide +kernel) (by decide) ?_
  refine lv_iadd hx hb (by decide +kernel) ?_
  refine va_sld hx hb hXs hbl hbA hS h_2 (by decide +kernel) ?_
  refine lv_aload_n (k := 0) hx hb (by decide +kernel) rfl (lv_at hl 0 rfl) ?_
  refine lv_iload_n (k := 3) hx hb (by decide +kernel) rfl (lv_at hl 3 rfl) ?_
  refine lv_iconst (n := 3) (v := 3) hx hb (by decide +kernel) (by decide) ?_
  refine lv_iadd hx hb (by decide +kernel) ?_
  refine va_sld hx hb hXs hbl hbA hS h_3 (by decide +kernel) ?_
  refine lw_call (M := 166) (n := 3) (idx := 99) (ci := 11) (k := 11) (as := [(xs (nI i + 1).toNatClampNeg), (xs (nI i + 2).toNatClampNeg), (xs (nI i + 3).toNatClampNeg)]) (rest := [.int v]) (bb := (0, 0)) hx hb hml hown hts hK hX9 io_166 (by decide +kernel) rfl rfl uw_1300 uw_1301 uw_1302 (by decide +kernel) (by decide +kernel) (by decide +kernel) (by decide +kernel) ⟨_, rfl⟩ rfl rfl rfl (Nat.le_of_ble_eq_true rfl) hrun had hP hD hS hl.1 (by first | omega | (simp only []; omega)) (by first | omega | (simp only []; omega)) (fun v2 μ2 ad2 H locs hQ ha hP hD hS => ?_)
  obtain ⟨e2, hrel⟩ := hQ
  cases e2
  have had : ∀ k, gd_N ≤ k → ad2 k = adS k := fun k hk => (ha k (gd_mvN k hk)).trans (had k hk)
  rw [← ha 0 rfl, ← ha 11 rfl] at hl
  refine lv_icmp_eq (off := 51) (tgt := 918) hx hb (by decide +kernel) (by decide) (fun _ => ?_) (fun q => absurd rfl q)
  exact kk μ2 ad2 H locs ls hrel had hP hD hS hl
set_option maxRecDepth 20000 in
set_option maxHeartbeats 4000000 in
theorem lw_case_20 {T : Nat} {i : Nat} (hL : L ≤ 3072) (A0 : lw_At p s m meth c b L xs) (hK : va_K D vwCl (ab_tys cy) s) (hX9 : gd_X adS (fun q => s.heap.size ≤ q) s) (hi : i + 6 ≤ L) (hT : T ≤ 120) (hsim : ∀ (μ : ab_S) (a0 : Int32), rel T μ → lw_sim1 rel 113 167 T (0, 0) [a0] μ) (kk : lw_St p l e s m below meth c b D cy adS rel i T 918) : lw_St p l e s m below meth c b D cy adS rel i T 872 := by
  obtain ⟨hx, hb, hr, hml, hown, hts, hXs, hbl, hlocks, hgv⟩ := A0
  have hbA : ¬ (fun q : Nat => s.heap.size ≤ q) b := Nat.not_le.mpr hbl
  have h_1 : vp_in (nI i + 1) L := by rw [show nI i + 1 = nI (i + 1) from nI_add i 1]; exact vp_in_nI (by omega) (by omega)
  have h_2 : vp_in (nI i + 2) L := by rw [show nI i + 2 = nI (i + 2) from nI_add i 2]; exact vp_in_nI (by omega) (by omega)
  have h_3 : vp_in (nI i + 3) L := by rw [show nI i + 3 = nI (i + 3) from nI_add i 3]; exact vp_in_nI (by omega) (by omega)
  have h_4 : vp_in (nI i + 4) L := by rw [show nI i + 4 = nI (i + 4) from nI_add i 4]; exact vp_in_nI (by omega) (by omega)
  have h_5 : vp_in (nI i + 5) L := by rw [show nI i + 5 = nI (i + 5) from nI_add i 5]; exact vp_in_nI (by omega) (by omega)
  intro μ ad H locs ls hrel had hP hD hS hl
  refine lv_aload_n (k := 1) hx hb (by decide +kernel) rfl (lv_at hl 1 rfl) ?_
  refine lv_aload_n (k := 0) hx hb (by decide +kernel) rfl (lv_at hl 0 rfl) ?_
  refine lv_iload_n (k := 3) hx hb (by decide +kernel) rfl (lv_at hl 3 rfl) ?_
  refine lv_iconst (n := 1) (v := 1) hx hb (by decide +kernel) (by decide) ?_
  refine lv_iadd hx hb (by decide +kernel) ?_
  refine va_sld hx hb hXs hbl hbA hS h_1 (by decide +kernel) ?_
  refine lw_call (M := 113) (n := 1) (idx := 100) (ci := 10) (k := 0) (as := [(xs (nI i + 1).toNatClampNeg)]) (rest := []) (bb := (0, 0)) hx hb hml hown hts hK hX9 io_113 (by decide +kernel) rfl rfl uw_945 uw_946 uw_947 (by decide +kernel) (by decide +kernel) (by decide +kernel) (by decide +kernel) ⟨_, rfl⟩ rfl rfl rfl (Nat.le_of_ble_eq_true rfl) (hsim μ (xs (nI i + 1).toNatClampNeg) hrel) had hP hD hS hl.1 (by first | omega | (simp only []; omega)) (by first | omega | (simp only []; omega)) (fun v μ1 ad1 H locs hQ ha hP hD hS => ?_)
  obtain ⟨v0, e0, hrun⟩ := hQ
  cases e0
  have had : ∀ k, gd_N ≤ k → ad1 k = adS k := fun k hk => (ha k (gd_mvN k hk)).trans (had k hk)
  rw [← ha 0 rfl, ← ha 11 rfl] at hl
  refine lv_aload_n (k := 2) hx hb (by decide +kernel) rfl (lv_at hl 2 rfl) ?_
  refine lv_aload_n (k := 0) hx hb (by decide +kernel) rfl (lv_at hl 0 rfl) ?_
  refine lv_iload_n (k := 3) hx hb (by decide +kernel) rfl (lv_at hl 3 rfl) ?_
  refine lv_iconst (n := 1) (v := 1) hx hb (by decide +kernel) (by decide) ?_
  refine lv_iadd hx hb (by decide +kernel) ?_
  refine va_sld hx hb hXs hbl hbA hS h_1 (by decide +kernel) ?_
  refine lw_call (M := 167) (n := 1) (idx := 103) (ci := 11) (k := 11) (as := [(xs (nI i + 1).toNatClampNeg)]) (rest := [.int v]) (bb := (0, 0)) hx hb hml hown hts hK hX9 io_167 (by decide +kernel) rfl rfl uw_1304 uw_1305 uw_1306 (by decide +kernel) (by decide +kernel) (by decide +kernel) (by decide +kernel) ⟨_, rfl⟩ rfl rfl rfl (Nat.le_of_ble_eq_true rfl) hrun had hP hD hS hl.1 (by first | omega | (simp only []; omega)) (by first | omega | (simp only []; omega)) (fun v2 μ2 ad2 H locs hQ ha hP hD hS => ?_)
  obtain ⟨e2, hrel⟩ := hQ
  cases e2
  have had : ∀ k, gd_N ≤ k → ad2 k = adS k := fun k hk => (ha k (gd_mvN k hk)).trans (had k hk)
  rw [← ha 0 rfl, ← ha 11 rfl] at hl
  refine lv_icmp_eq (off := 28) (tgt := 918) hx hb (by decide +kernel) (by decide) (fun _ => ?_) (fun q => absurd rfl q)
  exact kk μ2 ad2 H locs ls hrel had hP hD hS hl
set_option maxRecDepth 20000 in
set_option maxHeartbeats 4000000 in
theorem lw_case_21 {T : Nat} {i : Nat} (hL : L ≤ 3072) (A0 : lw_At p s m meth c b L xs) (hK : va_K D vwCl (ab_tys cy) s) (hX9 : gd_X adS (fun q => s.heap.size ≤ q) s) (hi : i + 6 ≤ L) (hT : T ≤ 120) (hsim : ∀ (μ : ab_S) (a0 : Int32), rel T μ → lw_sim1 rel 114 168 T (0, 0) [a0] μ) (kk : lw_St p l e s m below meth c b D cy adS rel i T 918) : lw_St p l e s m below meth c b D cy adS rel i T 895 := by
  obtain ⟨hx, hb, hr, hml, hown, hts, hXs, hbl, hlocks, hgv⟩ := A0
  have hbA : ¬ (fun q : Nat => s.heap.size ≤ q) b := Nat.not_le.mpr hbl
  have h_1 : vp_in (nI i + 1) L := by rw [show nI i + 1 = nI (i + 1) from nI_add i 1]; exact vp_in_nI (by omega) (by omega)
  have h_2 : vp_in (nI i + 2) L := by rw [show nI i + 2 = nI (i + 2) from nI_add i 2]; exact vp_in_nI (by omega) (by omega)
  have h_3 : vp_in (nI i + 3) L := by rw [show nI i + 3 = nI (i + 3) from nI_add i 3]; exact vp_in_nI (by omega) (by omega)
  have h_4 : vp_in (nI i + 4) L := by rw [show nI i + 4 = nI (i + 4) from nI_add i 4]; exact vp_in_nI (by omega) (by omega)
  have h_5 : vp_in (nI i + 5) L := by rw [show nI i + 5 = nI (i + 5) from nI_add i 5]; exact vp_in_nI (by omega) (by omega)
  intro μ ad H locs ls hrel had hP hD hS hl
  refine lv_aload_n (k := 1) hx hb (by decide +kernel) rfl (lv_at hl 1 rfl) ?_
  refine lv_aload_n (k := 0) hx hb (by decide +kernel) rfl (lv_at hl 0 rfl) ?_
  refine lv_iload_n (k := 3) hx hb (by decide +kernel) rfl (lv_at hl 3 rfl) ?_
  refine lv_iconst (n := 1) (v := 1) hx hb (by decide +kernel) (by decide) ?_
  refine lv_iadd hx hb (by decide +kernel) ?_
  refine va_sld hx hb hXs hbl hbA hS h_1 (by decide +kernel) ?_
  refine lw_call (M := 114) (n := 1) (idx := 104) (ci := 10) (k := 0) (as := [(xs (nI i + 1).toNatClampNeg)]) (rest := []) (bb := (0, 0)) hx hb hml hown hts hK hX9 io_114 (by decide +kernel) rfl rfl uw_957 uw_958 uw_959 (by decide +kernel) (by decide +kernel) (by decide +kernel) (by decide +kernel) ⟨_, rfl⟩ rfl rfl rfl (Nat.le_of_ble_eq_true rfl) (hsim μ (xs (nI i + 1).toNatClampNeg) hrel) had hP hD hS hl.1 (by first | omega | (simp only []; omega)) (by first | omega | (simp only []; omega)) (fun v μ1 ad1 H locs hQ ha hP hD hS => ?_)
  obtain ⟨v0, e0, hrun⟩ := hQ
  cases e0
  have had : ∀ k, gd_N ≤ k → ad1 k = adS k := fun k hk => (ha k (gd_mvN k hk)).trans (had k hk)
  rw [← ha 0 rfl, ← ha 11 rfl] at hl
  refine lv_aload_n (k := 2) hx hb (by decide +kernel) rfl (lv_at hl 2 rfl) ?_
  refine lv_aload_n (k := 0) hx hb (by decide +kernel) rfl (lv_at hl 0 rfl) ?_
  refine lv_iload_n (k := 3) hx hb (by decide +kernel) rfl (lv_at hl 3 rfl) ?_
  refine lv_iconst (n := 1) (v := 1) hx hb (by decide +kernel) (by decide) ?_
  refine lv_iadd hx hb (by decide +kernel) ?_
  refine va_sld hx hb hXs hbl hbA hS h_1 (by decide +kernel) ?_
  refine lw_call (M := 168) (n := 1) (idx := 107) (ci := 11) (k := 11) (as := [(xs (nI i + 1).toNatClampNeg)]) (rest := [.int v]) (bb := (0, 0)) hx hb hml hown hts hK hX9 io_168 (by decide +kernel) rfl rfl uw_1308 uw_1309 uw_1310 (by decide +kernel) (by decide +kernel) (by decide +kernel) (by decide +kernel) ⟨_, rfl⟩ rfl rfl rfl (Nat.le_of_ble_eq_true rfl) hrun had hP hD hS hl.1 (by first | omega | (simp only []; omega)) (by first | omega | (simp only []; omega)) (fun v2 μ2 ad2 H locs hQ ha hP hD hS => ?_)
  obtain ⟨e2, hrel⟩ := hQ
  cases e2
  have had : ∀ k, gd_N ≤ k → ad2 k = adS k := fun k hk => (ha k (gd_mvN k hk)).trans (had k hk)
  rw [← ha 0 rfl, ← ha 11 rfl] at hl
  refine lv_icmp_eq (off := 5) (tgt := 918) hx hb (by decide +kernel) (by decide) (fun _ => ?_) (fun q => absurd rfl q)
  exact kk μ2 ad2 H locs ls hrel had hP hD hS hl
end LW
