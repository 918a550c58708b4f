def lw_sims (rel : Nat → ab_S → Prop) : Prop := ∀ T : Nat, T ≤ 120 →
  (∀ (μ : ab_S) (a0 a1 a2 a3 a4 : Int32), rel T μ → lw_sim1 rel 93 126 T (0, 0) [a0, a1, a2, a3, a4] μ) ∧
  (∀ (μ : ab_S) (a0 : Int32), rel T μ → lw_sim1 rel 94 127 T (0, 0) [a0] μ) ∧
  (∀ (μ : ab_S) (a0 : Int32), rel T μ → lw_sim1 rel 95 137 T (0, 0) [a0] μ) ∧
  (∀ (μ : ab_S) (a0 a1 a2 : Int32), rel T μ → lw_sim1 rel 96 141 T (0, 0) [a0, a1, a2] μ) ∧
  (∀ (μ : ab_S) (a0 a1 a2 a3 a4 : Int32), rel T μ → lw_sim1 rel 97 146 T (0, 0) [a0, a1, a2, a3, a4] μ) ∧
  (∀ (μ : ab_S) (a0 a1 : Int32), rel T μ → lw_sim1 rel 98 147 T (0, 0) [a0, a1] μ) ∧
  (∀ (μ : ab_S) (a0 a1 a2 : Int32), rel T μ → lw_sim1 rel 99 148 T (0, 0) [a0, a1, a2] μ) ∧
  (∀ (μ : ab_S) (a0 a1 a2 : Int32), rel T μ → lw_sim1 rel 100 149 T (0, 0) [a0, a1, a2] μ) ∧
  (∀ (μ : ab_S) (a0 a1 : Int32), rel T μ → lw_sim1 rel 101 150 T (0, 0) [a0, a1] μ) ∧
  (∀ (μ : ab_S) (a0 a1 : Int32), rel T μ → lw_sim1 rel 102 152 T (0, 0) [a0, a1] μ) ∧
  (∀ (μ : ab_S) (a0 a1 a2 a3 : Int32), (a3 = 0 ∨ a3 = 1) → rel T μ → lw_sim1 rel 103 153 T (0, 0) [a0, a1, a2, a3] μ) ∧
  (∀ (μ : ab_S) (a0 a1 : Int32), rel T μ → lw_sim1 rel 104 154 T (0, 0) [a0, a1] μ) ∧
  (∀ (μ : ab_S) (a0 : Int32), rel T μ → lw_sim1 rel 105 155 T (0, 0) [a0] μ) ∧
  (∀ (μ : ab_S) (a0 : Int32), rel T μ → lw_sim1 rel 106 156 T (0, 0) [a0] μ) ∧
  (∀ (μ : ab_S) (a0 a1 a2 : Int32), rel T μ → lw_sim1 rel 107 157 T (0, 0) [a0, a1, a2] μ) ∧
  (∀ (μ : ab_S) (a0 : Int32), rel T μ → lw_sim1 rel 108 158 T (0, 0) [a0] μ) ∧
  ((T < 120 → ∀ μ : ab_S, rel T μ → lw_sim1 rel 109 162 (T + 1) (28, 32512) [] μ) ∧ (T = 120 → ∀ μ : ab_S, rel T μ → lw_sim1 rel 109 162 T (0, 0) [] μ)) ∧
  (∀ (μ : ab_S) (a0 a1 : Int32), rel T μ → lw_sim1 rel 110 164 T (0, 0) [a0, a1] μ) ∧
  (∀ (μ : ab_S) (a0 a1 : Int32), rel T μ → lw_sim1 rel 111 165 T (0, 0) [a0, a1] μ) ∧
  (∀ (μ : ab_S) (a0 a1 a2 : Int32), rel T μ → lw_sim1 rel 112 166 T (0, 0) [a0, a1, a2] μ) ∧
  (∀ (μ : ab_S) (a0 : Int32), rel T μ → lw_sim1 rel 113 167 T (0, 0) [a0] μ) ∧
  (∀ (μ : ab_S) (a0 : Int32), rel T μ → lw_sim1 rel 114 168 T (0, 0) [a0] μ)

section LW
variable {p : Program} {l : Launch} {e : Env} {s : State} {m : MethodId} {below : List Frame} {meth : Method} {c : Code} {b L : Nat} {xs : Nat → Int32} {D : va_G} {cy : Nat → ClassId} {adS : Nat → Nat} {rel : Nat → ab_S → Prop}
theorem lw_tail {i T : Nat} (A0 : lw_At p s m meth c b L xs) (kk : lw_St p l e s m below meth c b D cy adS rel (i + 6) T 18) : lw_St p l e s m below meth c b D cy adS rel i T 918 := by
  obtain ⟨hx, hb, hr, hml, hown, hts, hXs, hbl, hlocks, hgv⟩ := A0
  intro μ ad H locs ls hrel had hP hD hS hl
  refine lv_iinc (n := 6) (v := nI (i + 6)) (k := 3) (lv' := [(3, .int (nI (i + 6))), (0, .ref b), (1, .ref (ad 0)), (2, .ref (ad 11))]) hx hb (by decide +kernel) hl rfl (nI_add i 6) (by decide) rfl (fun ls hl => ?_)
  refine lv_goto (off := -903) (tgt := 18) hx hb (by decide +kernel) (by decide) ?_
  exact kk μ ad H locs ls hrel had hP hD hS (lv_sub hl [1, 2, 3, 0] rfl)
theorem lw_head {i T : Nat} (hL : L ≤ 3072) (hi : i ≤ 4000) (hT : T ≤ 120) (A0 : lw_At p s m meth c b L xs) (kk : i + 6 ≤ L → lw_St p l e s m below meth c b D cy adS rel i T 27) : lw_St p l e s m below meth c b D cy adS rel i T 18 := by
  obtain ⟨hx, hb, hr, hml, hown, hts, hXs, hbl, hlocks, hgv⟩ := A0
  have hbA : ¬ (fun q : Nat => s.heap.size ≤ q) b := Nat.not_le.mpr hbl
  intro μ ad H locs ls hrel had hP hD hS hl
  refine lv_iload_n (k := 3) hx hb (by decide +kernel) rfl (lv_at hl 3 rfl) ?_
  refine lv_aload_n (k := 0) hx hb (by decide +kernel) rfl (lv_at hl 0 rfl) ?_
  refine va_slen hx hb hXs hbl hbA hS (by decide +kernel) ?_
  refine lv_bipush (n := 6) (v := 6) hx hb (by decide +kernel) (by decide) ?_
  refine lv_isub hx hb (by decide +kernel) ?_
  have es : (nI L - 6).toInt = (L : Int) - 6 := pk_sub_toInt (a := L) (b := 6) (by omega) (by omega)
  refine lv_icmp_gt (off := 900) (tgt := 924) hx hb (by decide +kernel) (by decide) (fun q => ?_) (fun q => ?_)
  · refine lv_iconst (n := 1) (v := 1) hx hb (by decide +kernel) (by decide) ?_
    refine va_forget (fun q hq => hS.2.2 q hq) ?_
    refine W.widen (k := 600000) (n := 7302249) (by omega) (by omega) ?_
    exact lw_ret hx hb hr hlocks (by decide +kernel)
  · have hle : i + 6 ≤ L := by
      have q1 : ¬ (nI L - 6).toInt < (nI i).toInt := fun z => q (Int32.lt_iff_toInt_lt.mpr z)
      rw [es, nI_toInt (by omega)] at q1
      omega
    exact kk hle μ ad H locs ls hrel had hP hD hS hl
set_option maxRecDepth 20000 in
set_option maxHeartbeats 1000000 in
theorem lw_body {i T : Nat} (hL : L ≤ 3072) (A0 : lw_At p s m meth c b L xs) (hK : va_K D vwCl (ab_tys cy) s) (hX9 : gd_X adS (fun q => s.heap.size ≤ q) s) (hi : i + 6 ≤ L) (hT : T ≤ 120) (hsims : lw_sims rel) (kk : ∀ T', T' ≤ 120 → lw_St p l e s m below meth c b D cy adS rel i T' 918) : lw_St p l e s m below meth c b D cy adS rel i T 27 := by
  have A1 := A0
  have hsim := hsims T hT
  obtain ⟨hx, hb, hr, hml, hown, hts, hXs, hbl, hlocks, hgv⟩ := A0
  have hbA : ¬ (fun q : Nat => s.heap.size ≤ q) b := Nat.not_le.mpr hbl
  have h_0 : vp_in (nI i) L := vp_in_nI (by omega) (by omega)
  intro μ ad H locs ls hrel had hP hD hS hl
  refine lv_aload_n (k := 0) hx hb (by decide +kernel) rfl (lv_at hl 0 rfl) ?_
  refine lv_iload_n (k := 3) hx hb (by decide +kernel) rfl (lv_at hl 3 rfl) ?_
  refine va_sld hx hb hXs hbl hbA hS h_0 (by decide +kernel) ?_
  refine lv_bipush (n := 31) (v := 31) hx hb (by decide +kernel) (by decide) ?_
  refine lv_iand hx hb (by decide +kernel) ?_
  obtain ⟨j, hj, ej⟩ := pk_andE (xs (nI i).toNatClampNeg) (m := 31) 5 (by decide)
  rw [ej]
  have hsw : decode code 33 = .ok (.tableswitch 885 0 21 #[103, 166, 189, 212, 255, 318, 351, 394, 437, 470, 503, 572, 605, 628, 651, 694, 717, 730, 763, 796, 839, 862], 103) := by decide +kernel
  by_cases h22 : 22 ≤ j
  · refine lv_tableOut (tgt := 918) hx hb hsw (Or.inr ?_) (by decide) (kk T hT μ ad H locs ls hrel had hP hD hS hl)
    rw [nI_toInt (by omega)]
    omega
  · have hjs : j = 0 ∨ j = 1 ∨ j = 2 ∨ j = 3 ∨ j = 4 ∨ j = 5 ∨ j = 6 ∨ j = 7 ∨ j = 8 ∨ j = 9 ∨ j = 10 ∨ j = 11 ∨ j = 12 ∨ j = 13 ∨ j = 14 ∨ j = 15 ∨ j = 16 ∨ j = 17 ∨ j = 18 ∨ j = 19 ∨ j = 20 ∨ j = 21 := by omega
    rcases hjs with rfl | rfl | rfl | rfl | rfl | rfl | rfl | rfl | rfl | rfl | rfl | rfl | rfl | rfl | rfl | rfl | rfl | rfl | rfl | rfl | rfl | rfl
    · refine lv_tableIn (tgt := 136) (off := 103) hx hb hsw (by decide +kernel) (by decide +kernel) (by decide +kernel) (by decide) ?_
      exact (lw_case_0 hL A1 hK hX9 hi hT hsim.1 (kk T hT)) μ ad H locs ls hrel had hP hD hS hl
    · refine lv_tableIn (tgt := 199) (off := 166) hx hb hsw (by decide +kernel) (by decide +kernel) (by decide +kernel) (by decide) ?_
      exact (lw_case_1 hL A1 hK hX9 hi hT hsim.2.1 (kk T hT)) μ ad H locs ls hrel had hP hD hS hl
    · refine lv_tableIn (tgt := 222) (off := 189) hx hb hsw (by decide +kernel) (by decide +kernel) (by decide +kernel) (by decide) ?_
      exact (lw_case_2 hL A1 hK hX9 hi hT hsim.2.2.1 (kk T hT)) μ ad H locs ls hrel had hP hD hS hl
    · refine lv_tableIn (tgt := 245) (off := 212) hx hb hsw (by decide +kernel) (by decide +kernel) (by decide +kernel) (by decide) ?_
      exact (lw_case_3 hL A1 hK hX9 hi hT hsim.2.2.2.1 (kk T hT)) μ ad H locs ls hrel had hP hD hS hl
    · refine lv_tableIn (tgt := 288) (off := 255) hx hb hsw (by decide +kernel) (by decide +kernel) (by decide +kernel) (by decide) ?_
      exact (lw_case_4 hL A1 hK hX9 hi hT hsim.2.2.2.2.1 (kk T hT)) μ ad H locs ls hrel had hP hD hS hl
    · refine lv_tableIn (tgt := 351) (off := 318) hx hb hsw (by decide +kernel) (by decide +kernel) (by decide +kernel) (by decide) ?_
      exact (lw_case_5 hL A1 hK hX9 hi hT hsim.2.2.2.2.2.1 (kk T hT)) μ ad H locs ls hrel had hP hD hS hl
    · refine lv_tableIn (tgt := 384) (off := 351) hx hb hsw (by decide +kernel) (by decide +kernel) (by decide +kernel) (by decide) ?_
      exact (lw_case_6 hL A1 hK hX9 hi hT hsim.2.2.2.2.2.2.1 (kk T hT)) μ ad H locs ls hrel had hP hD hS hl
    · refine lv_tableIn (tgt := 427) (off := 394) hx hb hsw (by decide +kernel) (by decide +kernel) (by decide +kernel) (by decide) ?_
      exact (lw_case_7 hL A1 hK hX9 hi hT hsim.2.2.2.2.2.2.2.1 (kk T hT)) μ ad H locs ls hrel had hP hD hS hl
    · refine lv_tableIn (tgt := 470) (off := 437) hx hb hsw (by decide +kernel) (by decide +kernel) (by decide +kernel) (by decide) ?_
      exact (lw_case_8 hL A1 hK hX9 hi hT hsim.2.2.2.2.2.2.2.2.1 (kk T hT)) μ ad H locs ls hrel had hP hD hS hl
    · refine lv_tableIn (tgt := 503) (off := 470) hx hb hsw (by decide +kernel) (by decide +kernel) (by decide +kernel) (by decide) ?_
      exact (lw_case_9 hL A1 hK hX9 hi hT hsim.2.2.2.2.2.2.2.2.2.1 (kk T hT)) μ ad H locs ls hrel had hP hD hS hl
    · refine lv_tableIn (tgt := 536) (off := 503) hx hb hsw (by decide +kernel) (by decide +kernel) (by decide +kernel) (by decide) ?_
      exact (lw_case_10 hL A1 hK hX9 hi hT hsim.2.2.2.2.2.2.2.2.2.2.1 (kk T hT)) μ ad H locs ls hrel had hP hD hS hl
    · refine lv_tableIn (tgt := 605) (off := 572) hx hb hsw (by decide +kernel) (by decide +kernel) (by decide +kernel) (by decide) ?_
      exact (lw_case_11 hL A1 hK hX9 hi hT hsim.2.2.2.2.2.2.2.2.2.2.2.1 (kk T hT)) μ ad H locs ls hrel had hP hD hS hl
    · refine lv_tableIn (tgt := 638) (off := 605) hx hb hsw (by decide +kernel) (by decide +kernel) (by decide +kernel) (by decide) ?_
      exact (lw_case_12 hL A1 hK hX9 hi hT hsim.2.2.2.2.2.2.2.2.2.2.2.2.1 (kk T hT)) μ ad H locs ls hrel had hP hD hS hl
    · refine lv_tableIn (tgt := 661) (off := 628) hx hb hsw (by decide +kernel) (by decide +kernel) (by decide +kernel) (by decide) ?_
      exact (lw_case_13 hL A1 hK hX9 hi hT hsim.2.2.2.2.2.2.2.2.2.2.2.2.2.1 (kk T hT)) μ ad H locs ls hrel had hP hD hS hl
    · refine lv_tableIn (tgt := 684) (off := 651) hx hb hsw (by decide +kernel) (by decide +kernel) (by decide +kernel) (by decide) ?_
      exact (lw_case_14 hL A1 hK hX9 hi hT hsim.2.2.2.2.2.2.2.2.2.2.2.2.2.2.1 (kk T hT)) μ ad H locs ls hrel had hP hD hS hl
    · refine lv_tableIn (tgt := 727) (off := 694) hx hb hsw (by decide +kernel) (by decide +kernel) (by decide +kernel) (by decide) ?_
      exact (lw_case_15 hL A1 hK hX9 hi hT hsim.2.2.2.2.2.2.2.2.2.2.2.2.2.2.2.1 (kk T hT)) μ ad H locs ls hrel had hP hD hS hl
    · refine lv_tableIn (tgt := 750) (off := 717) hx hb hsw (by decide +kernel) (by decide +kernel) (by decide +kernel) (by decide) ?_
      exact (show lw_St p l e s m below meth c b D cy adS rel i T 750 from by
        rcases Nat.lt_or_ge T 120 with h | h
        · exact lw_case_16 (T' := T + 1) (bb := (28, 32512)) (by omega) (by omega) hL A1 hK hX9 hi hT h (hsim.2.2.2.2.2.2.2.2.2.2.2.2.2.2.2.2.1.1 h) (kk (T + 1) h)
        · have hT120 : T = 120 := by omega
          exact lw_case_16 (T' := T) (bb := (0, 0)) rfl rfl hL A1 hK hX9 hi hT hT (hsim.2.2.2.2.2.2.2.2.2.2.2.2.2.2.2.2.1.2 hT120) (kk T hT)) μ ad H locs ls hrel had hP hD hS hl
    · refine lv_tableIn (tgt := 763) (off := 730) hx hb hsw (by decide +kernel) (by decide +kernel) (by decide +kernel) (by decide) ?_
      exact (lw_case_17 hL A1 hK hX9 hi hT hsim.2.2.2.2.2.2.2.2.2.2.2.2.2.2.2.2.2.1 (kk T hT)) μ ad H locs ls hrel had hP hD hS hl
    · refine lv_tableIn (tgt := 796) (off := 763) hx hb hsw (by decide +kernel) (by decide +kernel) (by decide +kernel) (by decide) ?_
      exact (lw_case_18 hL A1 hK hX9 hi hT hsim.2.2.2.2.2.2.2.2.2.2.2.2.2.2.2.2.2.2.1 (kk T hT)) μ ad H locs ls hrel had hP hD hS hl
    · refine lv_tableIn (tgt := 829) (off := 796) hx hb hsw (by decide +kernel) (by decide +kernel) (by decide +kernel) (by decide) ?_
      exact (lw_case_19 hL A1 hK hX9 hi hT hsim.2.2.2.2.2.2.2.2.2.2.2.2.2.2.2.2.2.2.2.1 (kk T hT)) μ ad H locs ls hrel had hP hD hS hl
    · refine lv_tableIn (tgt := 872) (off := 839) hx hb hsw (by decide +kernel) (by decide +kernel) (by decide +kernel) (by decide) ?_
      exact (lw_case_20 hL A1 hK hX9 hi hT hsim.2.2.2.2.2.2.2.2.2.2.2.2.2.2.2.2.2.2.2.2.1 (kk T hT)) μ ad H locs ls hrel had hP hD hS hl
    · refine lv_tableIn (tgt := 895) (off := 862) hx hb hsw (by decide +kernel) (by decide +kernel) (by decide +kernel) (by decide) ?_
      exact (lw_case_21 hL A1 hK hX9 hi hT hsim.2.2.2.2.2.2.2.2.2.2.2.2.2.2.2.2.2.2.2.2.2 (kk T hT)) μ ad H locs ls hrel had hP hD hS hl
theorem lw_loop (hL : L ≤ 3072) (A0 : lw_At p s m meth c b L xs) (hK : va_K D vwCl (ab_tys cy) s) (hX9 : gd_X adS (fun q => s.heap.size ≤ q) s) (hsims : lw_sims rel) : ∀ n i T : Nat, L ≤ i + n → i ≤ L + 6 → T ≤ 120 → lw_St p l e s m below meth c b D cy adS rel i T 18 := by
  intro n
  induction n with
  | zero =>
    intro i T h1 h2 hT
    exact lw_head hL (by omega) hT A0 (fun h => absurd h (by omega))
  | succ n ih =>
    intro i T h1 h2 hT
    exact lw_head hL (by omega) hT A0 (fun h => lw_body hL A0 hK hX9 h hT hsims (fun T' hT' => lw_tail A0 (ih (i + 6) T' (by omega) (by omega) hT')))
end LW
