-- part, both
theorem laws_mono {T : Nat} {sz sz' : Int32} {val mon kn fr kn' nb : Nat → Int32} (h : R_laws T sz val mon kn sz' fr kn' nb) : R_laws (T + 1) sz val mon kn sz' fr kn' nb := by
  obtain ⟨n, a, c, d, hj⟩ := h
  refine ⟨n, a, c, d, fun j hjn => ?_⟩
  obtain ⟨b1, b2, b3, b4, b5, b6, b7⟩ := hj j hjn
  exact ⟨b1, b2, b3, b4, b5, by omega, b7⟩
theorem roll_mono {T : Nat} {sz : Int32} {kd mo pl ci rk kn od : Nat → Int32} {sz' : Int32} {kd' mo' one two three kn' : Nat → Int32} (h : R_roll T sz kd mo pl ci rk kn od sz' kd' mo' one two three kn') : R_roll (T + 1) sz kd mo pl ci rk kn od sz' kd' mo' one two three kn' := by
  obtain ⟨n, a, c, d, hj, ho⟩ := h
  refine ⟨n, a, c, d, fun j hjn => ?_, ho⟩
  obtain ⟨b1, b2, b3, b4, b5, b6, b7, b8, b9⟩ := hj j hjn
  exact ⟨b1, b2, b3, b4, b5, b6, by omega, b8, b9⟩
theorem pu_mono {f g : Nat → Int} : ∀ {n : Nat}, (∀ j, j < n → f j ≤ g j) → pu_sum f n ≤ pu_sum g n
  | 0, _ => Int.le_refl _
  | n + 1, h => by
    have h1 := pu_mono (f := f) (g := g) (n := n) (fun j hj => h j (by omega))
    have h2 := h n (by omega)
    rw [pu_sum, pu_sum]
    omega
theorem ctx_fc {T n : Nat} {μ μ1 : ab_S} {q : Nat → Nat} {cs : List Nat} {fs : List (Nat × Nat)} {L : Nat} (C : ls_ctx T μ n q) (f : ab_fc (fw cs fs) μ μ1) (hL : ∃ i, i ≤ 7 ∧ L = 32 * 2 ^ i) (hl : μ1.2 = gd_ln L) (hc : ∀ c ∈ [15, 16, 17, 18, 19, 20, 21, 22, 23, 24, 52, 53, 54, 55, 56, 57, 58, 59, 60], c ∉ cs ∧ ∀ q ∈ fs, q.1 ≠ c) (h1 : fw cs fs 3 3 = false) (h2 : fw cs fs 4 7 = false) (h3 : fw cs fs 11 3 = false) (h4 : fw cs fs 11 7 = false) : ls_ctx T μ1 n q ∧ ∀ m known, gd_lst μ1 m known q n = gd_lst μ m known q n ∧ ∀ w, gd_law μ1 m known w = gd_law μ m known w := by
  obtain ⟨C1, e1⟩ := ctx_fr (μ1 := (μ1.1, μ.2)) C ⟨rfl, f⟩ hc h1 h2 h3 h4
  obtain ⟨⟨-, b1, b2⟩, b3⟩ := C1
  exact ⟨⟨⟨⟨L, hL, hl⟩, b1, b2⟩, b3⟩, fun m known => ⟨(e1 m known).1, (e1 m known).2.2⟩⟩
theorem sim_part {T : Nat} {μ : ab_S} (hT : T < 120) (h : gd_rel T μ) : lw_sim1 gd_rel 109 162 (T + 1) (28, 32512) [] μ := by
  obtain ⟨nE, q, C⟩ := ctx_of h
  obtain ⟨hT2, hnow, hnow', L, hL, hl, h1, h2, h3, h4, h5, h6, h7⟩ := id h
  obtain ⟨n, hn2, hn, hn', hg4, hj⟩ := id h5
  obtain ⟨ng, e, hg1, hg2, hg3, hgc, hg5, hg6, hg7, hg8⟩ := id h7
  obtain ⟨i0, hi0, eL⟩ := id hL
  have ok := lst_ok (m := nI T) (known := nI T) C.1 C.2.1 C.2.2.1 C.2.2.2.1
  -- the numbers
  have b0 := law_b C.1 (nI T) (nI T) (w := 0) (by omega)
  have b0 : 1 ≤ (gd_law μ (nI T) (nI T) 0).toInt ∧ (gd_law μ (nI T) (nI T) 0).toInt ≤ 50 := b0
  obtain ⟨s, hs, es⟩ := i_of (x := gd_law μ (nI T) (nI T) 0) (n := 50) (by omega) (by omega) (by omega)
  have hs1 : 1 ≤ s := by rw [es, nI_toInt (by omega)] at b0; omega
  obtain ⟨sp, hsp⟩ : ∃ sp, sp = gd_law μ (nI T) (nI T) 1 := ⟨_, rfl⟩
  obtain ⟨dm, hdm⟩ : ∃ dm, dm = gd_law μ (nI T) (nI T) 2 := ⟨_, rfl⟩
  have hre : ∀ j, j < n → 0 ≤ (μ.1 38 j).toInt ∧ (μ.1 38 j).toInt ≤ 3000 := fun j hjn => by
    obtain ⟨g0, g1, g2, g3, g4, g5, g6, q1, q2, q3, q4, q5, q6, q7, q8, q9, q10⟩ := hj j hjn
    omega
  obtain ⟨G0, eG⟩ : ∃ G0 : hd_G, G0 = (fun j => if j < n then (if th_out T sp.toInt dm.toInt (μ.1 36) (μ.1 40) j = true then 0 else (μ.1 38 j).toInt.toNat) else 0, ng, i0, fun g => (μ.1 46 g).toInt.toNat, fun g => (μ.1 48 g).toInt.toNat, fun g => (μ.1 49 g).toInt.toNat) := ⟨_, rfl⟩
  have er : ∀ j, j < n → g_r G0 j = if th_out T sp.toInt dm.toInt (μ.1 36) (μ.1 40) j = true then 0 else (μ.1 38 j).toInt.toNat := fun j hjn => by
    rw [eG]
    dsimp only [g_r]
    rw [if_pos hjn]
  have hr0 : ∀ j, g_r G0 j ≤ 3000 := fun j => by
    rw [eG]
    dsimp only [g_r]
    by_cases z : j < n
    · have := hre j z
      rw [if_pos z]
      split <;> omega
    · rw [if_neg z]
      omega
  have en : g_n G0 = ng := by rw [eG]
  have ei : g_i G0 = i0 := by rw [eG]
  have hr : ∀ j, j < n → (if th_out T sp.toInt dm.toInt (μ.1 36) (μ.1 40) j = true then 0 else μ.1 38 j) = nI (g_r G0 j) := fun j hjn => by
    rw [er j hjn]
    have := hre j hjn
    split
    · rfl
    · rw [i_eq, nI_toInt (by omega)]
      omega
  have hle : ∀ j, j < n → (g_r G0 j : Int) ≤ (μ.1 38 j).toInt := fun j hjn => by
    rw [er j hjn]
    have := hre j hjn
    split <;> omega
  have hgr : ∀ j, j < n → 0 ≤ (μ.1 35 j).toInt ∧ (μ.1 35 j).toInt ≤ 3 := fun j hjn => by
    obtain ⟨g0, g1, g2, g3, g4, g5, g6, q1, q2, -⟩ := hj j hjn
    omega
  have hly : ly_ok (μ.1 35) (μ.1 38) (μ.1 33) n := fun g hg => (hg4 g hg).2.2.1
  have hH : pn_sum (g_r G0) n ≤ 20000 := by
    have a1 : pu_sum (fun j => (μ.1 38 j).toInt) n ≤ 20000 := by
      have a4 := pu_four (gr := μ.1 35) (re := μ.1 38) hgr
      have l0 := hg4 0 (by omega)
      have l1 := hg4 1 (by omega)
      have l2 := hg4 2 (by omega)
      have l3 := hg4 3 (by omega)
      omega
    have a2 := pu_mono (f := fun j => ((g_r G0 j : Nat) : Int)) (g := fun j => (μ.1 38 j).toInt) (n := n) hle
    rw [pn_pu (g := g_r G0) (fun j _ => rfl)] at a2
    omega
  obtain ⟨get, hget⟩ : ∃ get : Nat → Bool, ∀ p, get p = (!decide (μ.1 42 p = 0) && !decide ((gd_lst μ (nI T) (nI T) q nE).1.1 p = -1)) := ⟨fun p => _, fun p => rfl⟩
  have hg : ∀ p, p < 30 → (get p = true ↔ ¬ μ.1 42 p = 0 ∧ ¬ (gd_lst μ (nI T) (nI T) q nE).1.1 p = -1) := fun p hp => by
    rw [hget p, Bool.and_eq_true, Bool.not_eq_true', Bool.not_eq_true', decide_eq_false_iff_not, decide_eq_false_iff_not]
  obtain ⟨rk, hrk⟩ : ∃ rk : Nat → Nat, ∀ p, rk p = ((gd_lst μ (nI T) (nI T) q nE).1.2.1 p).toInt.toNat := ⟨fun p => _, fun p => rfl⟩
  obtain ⟨rv, hrv0⟩ : ∃ rv : Nat → Nat, ∀ p, rv p = if rk p < 4 then (gd_law μ (nI T) (nI T) (6 + rk p)).toInt.toNat else 0 := ⟨fun p => _, fun p => rfl⟩
  have h6b : ∀ k, k < 4 → 0 ≤ (gd_law μ (nI T) (nI T) (6 + k)).toInt ∧ (gd_law μ (nI T) (nI T) (6 + k)).toInt ≤ 100 := fun k hk => by
    have b := law_b C.1 (nI T) (nI T) (w := 6 + k) (by omega)
    have hc : k = 0 ∨ k = 1 ∨ k = 2 ∨ k = 3 := by omega
    rcases hc with rfl | rfl | rfl | rfl <;> exact b
  have hrv : ∀ p, rv p ≤ 100 := fun p => by
    rw [hrv0 p]
    split
    · rename_i z
      have := h6b (rk p) z
      omega
    · omega
  have hg2' : ∀ p, p < 30 → get p = true → (gd_lst μ (nI T) (nI T) q nE).1.2.1 p = nI (rk p) ∧ rk p < 4 ∧ gd_law μ (nI T) (nI T) (6 + rk p) = nI (rv p) := fun p hp hgp => by
    obtain ⟨k, hk, ek⟩ := ok.2.2.2 p hp ((hg p hp).mp hgp).2
    have erk : rk p = k := by rw [hrk p, ek, i_nat (by omega)]
    have hb := h6b k hk
    refine ⟨by rw [erk]; exact ek, by omega, ?_⟩
    rw [hrv0 p, erk, if_pos hk, i_eq, nI_toInt (by omega)]
    omega
  have hc0 : g_n G0 ≤ 30 * T + c0 (g_r G0) n := by
    have a := hgc n hn hn2
    rw [en]
    refine Nat.le_trans a (Nat.add_le_add_left ?_ _)
    unfold c0
    have mono : ∀ {f g : Nat → Bool} {m : Nat}, (∀ j, j < m → f j = true → g j = true) → pu_cnt f m ≤ pu_cnt g m := by
      intro f g m
      induction m with
      | zero => intro _; exact Nat.le_refl _
      | succ m ih =>
        intro hfg
        have := ih (fun j hj => hfg j (by omega))
        rw [pu_cnt, pu_cnt]
        by_cases z : f m = true
        · rw [if_pos z, if_pos (hfg m (by omega) z)]
          omega
        · rw [if_neg z]
          omega
    refine mono (fun j hjn hz => ?_)
    rw [decide_eq_true_eq] at hz ⊢
    rw [er j hjn, hz]
    split <;> rfl
  have hnged : ng ≤ L := hg3
  have hgift : ∀ g, g < ng → ∃ m, m < T ∧ e m ≤ g ∧ g < e (m + 1) := fun g hgg => by
    have key : ∀ m, m ≤ T → g < e m → ∃ m', m' < T ∧ e m' ≤ g ∧ g < e (m' + 1) := by
      intro m
      induction m with
      | zero => intro _ hgm; rw [hg5] at hgm; omega
      | succ m ih =>
        intro hm hgm
        by_cases z : g < e m
        · exact ih (by omega) z
        · exact ⟨m, by omega, by omega, hgm⟩
    exact key T (Nat.le_refl _) (by rw [hg6]; exact hgg)
  have hgf0 : ∀ g, g < ng → 0 ≤ (μ.1 46 g).toInt ∧ (μ.1 46 g).toInt < 30 ∧ 1 ≤ (μ.1 49 g).toInt ∧ (μ.1 49 g).toInt ≤ 3000 ∧ μ.1 46 g = μ.1 79 g ∧ μ.1 48 g = μ.1 78 g ∧ μ.1 49 g = μ.1 80 g ∧ 0 ≤ (μ.1 48 g).toInt := fun g hgg => by
    obtain ⟨m, a1, a2, a3⟩ := hgift g hgg
    obtain ⟨-, -, -, r4, -⟩ := hg8 m a1
    obtain ⟨x1, x2, x3, x4, x5, x6, x7, x8, x9⟩ := r4 g a2 a3
    exact ⟨x4, x5, x6, x7, x1, x2, x3, x9⟩
  have egp : ∀ g, g_p G0 g = (μ.1 46 g).toInt.toNat := fun g => by rw [eG]
  have egl : ∀ g, g_l G0 g = (μ.1 48 g).toInt.toNat := fun g => by rw [eG]
  have egm : ∀ g, g_m G0 g = (μ.1 49 g).toInt.toNat := fun g => by rw [eG]
  have toN : ∀ x : Int32, 0 ≤ x.toInt → x = nI x.toInt.toNat := fun x hx => by
    have := x.toInt_lt
    rw [i_eq, nI_toInt (by omega)]
    omega
  have hgf : ∀ g, g < g_n G0 → μ.1 46 g = nI (g_p G0 g) ∧ μ.1 48 g = nI (g_l G0 g) ∧ μ.1 49 g = nI (g_m G0 g) := fun g hgg => by
    rw [en] at hgg
    obtain ⟨x4, x5, x6, x7, x1, x2, x3, x9⟩ := hgf0 g hgg
    rw [egp, egl, egm]
    exact ⟨toN _ x4, toN _ x9, toN _ (by omega)⟩
  have hi' : g_n G0 ≤ 32 * 2 ^ g_i G0 := by rw [en, ei, ← eL]; exact hg3
  have hi7' : g_i G0 ≤ 7 := by rw [ei]; exact hi0
  have hst : (0 < T → μ.1 45 (T - 1) = nI (g_n G0)) ∧ (T = 0 → g_n G0 = 0) := ⟨fun h0 => by
    have := (hg8 (T - 1) (by omega)).2.1
    rw [show T - 1 + 1 = T by omega, hg6] at this
    rw [en]
    exact this, fun h0 => by rw [en, ← hg6, h0, hg5]⟩
  show gd_run 109 0 [some (.inr 0), none, none, none] [] μ (28, 32512) _
  refine c_part (T := T) (nE := nE) (n := n) (q := q) (get := get) (s := s) (rv := rv) (rk := rk) (G0 := G0) (sp := sp) (dm := dm) C hT (by rw [ei, ← eL]; exact hl) hnow hn hn2 (fun j hjn => ?_) hly hsp hdm hr hr0 hH hs hs1 es hrv hg hg2' hi' hi7' hc0 (by rw [en]; exact hg1) hgf hst (Nat.le_refl _) (Nat.le_refl _) (fun μ' thr F1 lx' sz' rs' ly' gf' cz' cz0' th' hthr en' fo' fk' now1 tk1 tk2 => ⟨_, rfl, ?_⟩)
  · obtain ⟨g0, g1, g2, g3, g4, g5, g6, q1, q2, q3, q4, q5, q6, q7, q8, q9, q10⟩ := hj j hjn
    omega
  have hdue : ∀ p, du get s rv (pn_sum (g_r G0) n) p ≤ 50 := fun p => du_le hs hrv p
  have hsum : pn_sum (du get s rv (pn_sum (g_r G0) n)) 30 ≤ pn_sum (g_r G0) n := du_sum
  obtain ⟨hI29, hz29⟩ := hd_I_all hT hn2 hr0 hsum hi' hi7' hc0 29 (by omega)
  have hI := (hd_I_lots hT (by omega) hn2 hr0 hI29 n (Nat.le_refl _)).1
  rw [hz29] at hI
  have e30 : hd_all (du get s rv (pn_sum (g_r G0) n)) n 30 G0 = (hd_lots 29 n (du get s rv (pn_sum (g_r G0) n) 29, hd_all (du get s rv (pn_sum (g_r G0) n)) n 29 G0)).2 := rfl
  rw [← e30] at hI
  clear hI29 hz29 e30
  have hLG : ∃ i, i ≤ 7 ∧ 32 * 2 ^ g_i (hd_all (du get s rv (pn_sum (g_r G0) n)) n 30 G0) = 32 * 2 ^ i := ⟨_, hI.2.2.2.2.2.1, rfl⟩
  obtain ⟨C', e'⟩ := ctx_fc C F1 hLG lx' (by decide) rfl rfl rfl rfl
  have r66 : μ'.1 66 = μ.1 66 := fc_c F1 _ (fun _ => rfl)
  have r70 : μ'.1 70 = μ.1 70 := fc_c F1 _ (fun _ => rfl)
  have r68 : μ'.1 68 = μ.1 68 := fc_c F1 _ (fun _ => rfl)
  have r69 : μ'.1 69 = μ.1 69 := fc_c F1 _ (fun _ => rfl)
  have r72 : μ'.1 72 = μ.1 72 := fc_c F1 _ (fun _ => rfl)
  have hout : ∀ j, j < n → th_out T sp.toInt dm.toInt (μ'.1 66) (μ'.1 70) j = th_out T sp.toInt dm.toInt (μ.1 36) (μ.1 40) j := fun j hjn => by
    obtain ⟨g0, g1, g2, g3, g4, g5, g6, -⟩ := hj j hjn
    unfold th_out
    rw [r66, r70, g2, g6]
  have hleft : ∀ j, j < n → μ'.1 68 j = μ.1 38 j := fun j hjn => by
    obtain ⟨g0, g1, g2, g3, g4, -⟩ := hj j hjn
    rw [r68, g4]
  show gd_run 162 0 [some (.inr 11), none, none, none, none, none, none, none, none, none] [] μ' (0, 0) _
  refine m_part (T := T) (nE := nE) (n := n) (q := q) (get := get) (s := s) (rv := rv) (rk := rk) (G0 := G0) (sp := sp) (dm := dm) C' hT lx' ((F1 _ _ rfl).trans hnow') ((F1 _ _ rfl).trans hn') hn2 (fun j hjn => ?_) (by rw [(e' _ _).2 1]; exact hsp) (by rw [(e' _ _).2 2]; exact hdm) (fun j hjn => by rw [hout j hjn, hleft j hjn]; exact hr j hjn) hr0 hH hs hs1 (by rw [(e' _ _).2 0]; exact es) hrv (fun p hp => ?_) (fun p hp hgp => ?_) hi' hi7' hc0 ?_ (fun g hgg => ?_) (fun ν thr' f' M' t' hthr' tf' v1 v2 k1 k2 now2 z1 z2 => ⟨rfl, ?_⟩)
  · obtain ⟨g0, g1, g2, g3, g4, g5, g6, q1, q2, q3, q4, q5, q6, q7, q8, q9, q10⟩ := hj j hjn
    rw [hleft j hjn, r66, ← g2]
    omega
  · rw [hg p hp, (e' _ _).1, r72]
    obtain ⟨k1, k2, k3, k4, k5, k6⟩ := h6.1 p hp
    have hx : (¬ μ.1 42 p = 0) ↔ (¬ μ.1 72 (2 * p) = 0 ∨ ¬ μ.1 72 (2 * p + 1) = 0) := by
      have i10' : ¬ (1 : Int32) = 0 := by decide
      have i01 : ¬ (0 : Int32) = 1 := by decide
      rcases k3 with w | w <;> rcases k4 with x | x <;> rcases k5 with y | y <;> rw [w, x, y] at k6 <;> rw [w, x, y]
      · exact ⟨fun z => absurd rfl z, fun z => z.elim id id⟩
      · exact absurd (k6.mpr (Or.inr rfl)) i01
      · exact absurd (k6.mpr (Or.inl rfl)) i01
      · exact absurd (k6.mpr (Or.inl rfl)) i01
      · exact (k6.mp rfl).elim (fun z => absurd z i01) (fun z => absurd z i01)
      · exact ⟨fun _ => Or.inr i10', fun _ => i10'⟩
      · exact ⟨fun _ => Or.inl i10', fun _ => i10'⟩
      · exact ⟨fun _ => Or.inl i10', fun _ => i10'⟩
    rw [hx]
  · rw [(e' _ _).1, (e' _ _).2]
    exact hg2' p hp hgp
  · rw [F1 11 32 rfl, en]
    exact hg2
  · rw [fc_c F1 79 (fun _ => rfl), fc_c F1 78 (fun _ => rfl), fc_c F1 80 (fun _ => rfl)]
    obtain ⟨x4, x5, x6, x7, x1, x2, x3, x9⟩ := hgf0 g (by rw [← en]; exact hgg)
    rw [← x1, ← x2, ← x3]
    exact hgf g hgg
  rw [(e' _ _).1] at v2
  generalize hdu : du get s rv (pn_sum (g_r G0) n) = due at *
  generalize hGG : hd_all due n 30 G0 = G at *
  obtain ⟨i1, i2, i3, i4, i5, i6, i7, i8, i9, i10, i11, i12, i13, i14, i15⟩ := hI
  have fz : ab_fc (fw [33, 38, 39, 25, 26, 27, 28, 29, 50, 46, 47, 48, 49, 44, 45, 41, 42, 43, 68, 69, 82, 83, 84, 85, 86, 87, 88, 77, 75, 76, 78, 79, 80, 74, 71, 72, 73] [(5, 7), (5, 8), (10, 5), (10, 6), (9, 6), (0, 10), (11, 49), (11, 32), (11, 0)]) μ ν := fc_tr (fc_sub F1 (by decide) (by decide)) (fc_sub (fun d j hh => f'.2 d j hh) (by decide) (by decide))
  have q33 : ν.1 33 = μ'.1 33 := fr_c f' _ (fun _ => rfl)
  have q38 : ν.1 38 = μ'.1 38 := fr_c f' _ (fun _ => rfl)
  have q39 : ν.1 39 = μ'.1 39 := fr_c f' _ (fun _ => rfl)
  have q41 : ν.1 41 = μ'.1 41 := fr_c f' _ (fun _ => rfl)
  have q42 : ν.1 42 = μ'.1 42 := fr_c f' _ (fun _ => rfl)
  have q43 : ν.1 43 = μ'.1 43 := fr_c f' _ (fun _ => rfl)
  have q44 : ν.1 44 = μ'.1 44 := fr_c f' _ (fun _ => rfl)
  have q45 : ν.1 45 = μ'.1 45 := fr_c f' _ (fun _ => rfl)
  have q46 : ν.1 46 = μ'.1 46 := fr_c f' _ (fun _ => rfl)
  have q47 : ν.1 47 = μ'.1 47 := fr_c f' _ (fun _ => rfl)
  have q48 : ν.1 48 = μ'.1 48 := fr_c f' _ (fun _ => rfl)
  have q49 : ν.1 49 = μ'.1 49 := fr_c f' _ (fun _ => rfl)
  have hleG : ∀ j, j < n → ((g_r G j : Nat) : Int) ≤ (μ.1 38 j).toInt := fun j hjn => by
    have a := i1 j
    have c := hle j hjn
    omega
  have tG : ∀ j, (nI (g_r G j)).toInt = (g_r G j : Int) := fun j => by
    have a := i1 j
    have c := hr0 j
    exact nI_toInt (by omega)
  have hthr2 : thr' = thr := by
    rw [i_eq, hthr, hthr']
    exact pu_cong (fun j hjn => by rw [hout j hjn, hleft j hjn])
  refine ⟨by omega, (f'.2 _ _ rfl).trans now1, now2, 32 * 2 ^ g_i G, ⟨_, i6, rfl⟩, f'.1.trans lx', (by rw [fz 1 1 rfl, fc_c fz 12 (fun _ => rfl), fz 11 2 rfl, fc_c fz 51 (fun _ => rfl)]; exact h1), (by rw [fz 3 3 rfl, fc_c fz 15 (fun _ => rfl), fc_c fz 16 (fun _ => rfl), fc_c fz 17 (fun _ => rfl), fz 11 3 rfl, fc_c fz 52 (fun _ => rfl), fc_c fz 53 (fun _ => rfl), fc_c fz 54 (fun _ => rfl)]; exact laws_mono h2), (by rw [fz 4 7 rfl, fc_c fz 18 (fun _ => rfl), fc_c fz 19 (fun _ => rfl), fc_c fz 20 (fun _ => rfl), fc_c fz 21 (fun _ => rfl), fc_c fz 22 (fun _ => rfl), fc_c fz 23 (fun _ => rfl), fc_c fz 24 (fun _ => rfl), fz 11 7 rfl, fc_c fz 55 (fun _ => rfl), fc_c fz 56 (fun _ => rfl), fc_c fz 57 (fun _ => rfl), fc_c fz 58 (fun _ => rfl), fc_c fz 59 (fun _ => rfl), fc_c fz 60 (fun _ => rfl)]; exact roll_mono h3), (by rw [fz 6 2 rfl, fc_c fz 30 (fun _ => rfl), fc_c fz 31 (fun _ => rfl), fz 11 14 rfl, fc_c fz 61 (fun _ => rfl), fc_c fz 62 (fun _ => rfl)]; exact h4), ?_, ?_, ?_⟩
  · refine ⟨n, hn2, (fz _ _ rfl).trans hn, (fz _ _ rfl).trans hn', fun g hg4' => ?_, fun j hjn => ?_⟩
    · obtain ⟨a1, a2, a3, a4⟩ := hg4 g hg4'
      rw [fc_c fz 32 (fun _ => rfl), fc_c fz 63 (fun _ => rfl), fc_c fz 35 (fun _ => rfl), q33, q38]
      refine ⟨a1, a2, ly' g hg4', ?_⟩
      rw [ly' g hg4']
      refine Int.le_trans (pu_mono (fun j hjn => ?_)) (by rw [← a3]; exact a4)
      rw [rs' j hjn, tG j]
      have := hleG j hjn
      split <;> omega
    · obtain ⟨g0, g1, g2, g3, g4, g5, g6, q1, q2, q3, q4, q5, q6, q7, q8, q9, q10⟩ := hj j hjn
      rw [fc_c fz 34 (fun _ => rfl), fc_c fz 35 (fun _ => rfl), fc_c fz 36 (fun _ => rfl), fc_c fz 37 (fun _ => rfl), fc_c fz 40 (fun _ => rfl), fc_c fz 64 (fun _ => rfl), fc_c fz 65 (fun _ => rfl), fc_c fz 66 (fun _ => rfl), fc_c fz 67 (fun _ => rfl), fc_c fz 70 (fun _ => rfl), q38, q39, rs' j hjn, M'.2.1 j hjn, th' j hjn, t' j hjn, hout j hjn, hleft j hjn, r69, ← g5, tG j]
      have := hleG j hjn
      exact ⟨g0, g1, g2, g3, rfl, rfl, g6, q1, q2, q3, by omega, q5, q6, q7, by omega, by omega, q10⟩
  · rw [q41, q42, q43]
    refine ⟨fun p hp => ?_, fun g hg4' => ?_⟩
    · obtain ⟨a1, a2⟩ := tk1 p hp
      obtain ⟨c1, c2, c3⟩ := z1 p hp
      rw [a1, a2, c1, c2, c3]
      exact ⟨rfl, Or.inl rfl, Or.inl rfl, Or.inl rfl, Or.inl rfl, ⟨fun hh => Or.inl hh, fun hh => hh.elim id id⟩⟩
    · rw [tk2 g hg4', z2 g hg4']
  · rw [en] at i4 i10 i11 i12 i13
    obtain ⟨e2, he2⟩ : ∃ e2 : Nat → Nat, ∀ m, e2 m = if m ≤ T then e m else g_n G := ⟨fun m => _, fun _ => rfl⟩
    refine ⟨g_n G, e2, (f'.2 _ _ rfl).trans sz', M'.1, i5, fun nl hnl hnl2 => ?_, ?_, ?_, fun m hm => ?_, fun m hm => ?_⟩
    · have enl : nl = n := (nI_eq (by omega) (by omega)).mp (hnl.symm.trans ((fz _ _ rfl).trans hn))
      subst enl
      have ec : pu_cnt (fun j => decide (ν.1 38 j = 0)) nl = c0 (g_r G) nl := pu_cnt_cong (fun j hjn => by
        rw [q38, rs' j hjn]
        have : (nI (g_r G j) = 0) = (g_r G j = 0) := by
          have a := i1 j
          have c := hr0 j
          exact q_eq (b := 0) (by omega) (by omega)
        simp only [this])
      rw [ec]
      omega
    · rw [he2, if_pos (Nat.zero_le _)]
      exact hg5
    · rw [he2, if_neg (by omega)]
    · rw [tf', u_at, u_at, fc_c F1 77 (fun _ => rfl), he2]
      by_cases z : m = T + 1
      · rw [if_pos z, if_neg (by omega)]
      · rw [if_neg z, if_pos (show m ≤ T by omega)]
        by_cases z2 : m = T
        · rw [if_pos z2, en, z2, hg6]
        · rw [if_neg z2]
          exact hg7 m (by omega)
    · by_cases z : m < T
      · rw [he2 m, he2 (m + 1), if_pos (show m ≤ T by omega), if_pos (show m + 1 ≤ T by omega)]
        obtain ⟨x1, x2, x3, x4, x5⟩ := hg8 m z
        have hmono : e (m + 1) ≤ ng := by
          rw [← hg6]
          have key : ∀ k, m + 1 ≤ k → k ≤ T → e (m + 1) ≤ e k := by
            intro k
            induction k with
            | zero => intro h1 _; omega
            | succ k ih =>
              intro h1 h2
              by_cases w : m = k
              · rw [w]; omega
              · have := ih (by omega) (by omega)
                have := (hg8 k (by omega)).1
                omega
          exact key T (by omega) (Nat.le_refl _)
        have old : ∀ k, k < ng → ν.1 46 k = μ.1 46 k ∧ ν.1 49 k = μ.1 49 k ∧ ν.1 48 k = μ.1 48 k ∧ ν.1 47 k = μ.1 47 k := fun k hk => by
          obtain ⟨y1, y2, y3⟩ := gf' k (by omega)
          obtain ⟨w1, w2, w3⟩ := i10 k hk
          obtain ⟨u1, u2, u3⟩ := hgf k (by rw [en]; exact hk)
          rw [q46, q47, q48, q49, y1, y2, y3, w1, w2, w3, ← u1, ← u2, ← u3]
          exact ⟨rfl, rfl, rfl, cz0' k (by rw [en]; exact hk)⟩
        refine ⟨x1, ?_, fun w hw => ?_, fun k hk1 hk2 => ?_, fun p hp => ?_⟩
        · rw [q45, en', u_at, if_neg (by omega)]
          exact x2
        · rw [q44, fo' _ (by omega), k1 _ (by omega), fc_c F1 74 (fun _ => rfl)]
          exact x3 w hw
        · obtain ⟨o1, o2, o3, o4⟩ := old k (by omega)
          obtain ⟨a1, a2, a3, a4, a5, a6, a7, a8, a9⟩ := x4 k hk1 hk2
          obtain ⟨y1, y2, y3⟩ := gf' k (by omega)
          obtain ⟨w1, w2, w3⟩ := M'.2.2 k (by omega)
          refine ⟨?_, ?_, ?_, by rw [o1]; exact a4, by rw [o1]; exact a5, by rw [o2]; exact a6, by rw [o2]; exact a7, ?_, by rw [o3]; exact a9⟩
          · rw [q46, y1, w1]
          · rw [q48, y2, w2]
          · rw [q49, y3, w3]
          · rw [o4, o1, (v1 _ (by omega)).2, fc_c F1 76 (fun _ => rfl)]
            exact a8
        · obtain ⟨a1, a2, a3⟩ := x5 p hp
          rw [(v1 _ (by omega)).1, fc_c F1 75 (fun _ => rfl)]
          refine ⟨?_, a2, a3⟩
          rw [a1]
          refine pu_cong (fun i hi => ?_)
          obtain ⟨o1, o2, -⟩ := old (e m + i) (by omega)
          rw [o1, o2]
      · have ez : m = T := by omega
        subst ez
        rw [he2 m, he2 (m + 1), if_pos (Nat.le_refl _), if_neg (show ¬ m + 1 ≤ m by omega), hg6]
        refine ⟨i4, ?_, fun w hw => ?_, fun k hk1 hk2 => ?_, fun p hp => ?_⟩
        · rw [q45, en', u_at, if_pos rfl]
        · obtain ⟨a0, a1, a2, a3, a4, a5⟩ := fk'
          obtain ⟨c0', c1, c2, c3, c4, c5⟩ := k2
          rw [q44]
          have hc : w = 0 ∨ w = 1 ∨ w = 2 ∨ w = 3 ∨ w = 4 ∨ w = 5 := by omega
          rcases hc with rfl | rfl | rfl | rfl | rfl | rfl
          · exact a0.trans c0'.symm
          · exact a1.trans c1.symm
          · exact a2.trans c2.symm
          · rw [a3, c3, hthr2]
          · exact a4.trans c4.symm
          · exact a5.trans c5.symm
        · obtain ⟨y1, y2, y3⟩ := gf' k hk2
          obtain ⟨w1, w2, w3⟩ := M'.2.2 k hk2
          obtain ⟨p1, p2, p3, p4⟩ := i11 k hk1 hk2
          have tp : (ν.1 46 k).toInt = (g_p G k : Int) := by rw [q46, y1, nI_toInt (by omega)]
          have tm : (ν.1 49 k).toInt = (g_m G k : Int) := by rw [q49, y3, nI_toInt (by omega)]
          have tl : (ν.1 48 k).toInt = (g_l G k : Int) := by rw [q48, y2, nI_toInt (by omega)]
          refine ⟨?_, ?_, ?_, by rw [tp]; omega, by rw [tp]; omega, by rw [tm]; omega, by rw [tm]; omega, ?_, by rw [tl]; omega⟩
          · rw [q46, y1, w1]
          · rw [q48, y2, w2]
          · rw [q49, y3, w3]
          · rw [q47, cz' k (by rw [en]; exact hk1) hk2, tp, show ((g_p G k : Nat) : Int).toNat = g_p G k from rfl, (v2 _ (by omega)).2]
        · have hd := hdue p
          rw [(v2 p hp).1, nI_toInt (by omega)]
          refine ⟨?_, by omega, by omega⟩
          have hgs := i12 p
          have hgs : gs_c (g_p G) (g_m G) ng p (g_n G - ng) = due p := by
            rw [hgs]
            by_cases w : p < 29
            · rw [if_pos w]
            · rw [if_neg w, if_pos (by omega), show p = 29 by omega, Nat.sub_zero]
          rw [← hgs]
          unfold gs_c
          refine (pn_pu (fun i hi => ?_)).symm
          obtain ⟨y1, y2, y3⟩ := gf' (ng + i) (by omega)
          obtain ⟨p1, p2, p3, p4⟩ := i11 (ng + i) (by omega) (by omega)
          rw [q46, q49, y1, y3, nI_toInt (by omega), nI_toInt (by omega)]
          by_cases w : g_p G (ng + i) = p
          · rw [if_pos w, if_pos (by omega)]
          · rw [if_neg w, if_neg (by omega)]
            rfl
theorem sim_part_end {T : Nat} {μ : ab_S} (hT : T = 120) (h : gd_rel T μ) : lw_sim1 gd_rel 109 162 T (0, 0) [] μ := by
  have h0 := h
  obtain ⟨hT2, hnow, hnow', -⟩ := h
  subst hT
  show gd_run 109 0 [some (.inr 0), none, none, none] [] μ (0, 0) _
  have a1 : (nI 120 < 120) = False := by decide
  have a2 : (nI 120 = 120) = True := by decide
  have key : ∀ (Q : ab_Q), Q (some (-1)) μ → gd_run 109 0 [some (.inr 0), none, none, none] [] μ (0, 0) Q := by
    intro Q hQ
    simp +decide only [s_109_0, s_109_1, s_109_4, s_109_7, s_109_8, s_109_9, s_109_10, s_109_13, s_109_14, s_109_17, s_109_18, s_109_21, s_109_24, s_109_25, s_109_26, s_109_29, s_109_30, s_109_33, s_109_34, s_109_37, s_109_38, s_109_39, s_109_42, s_109_43, s_109_46, s_109_47, s_109_48, s_109_51, s_109_54, s_109_55, s_109_56, s_109_59, s_109_60, s_109_63, s_109_64, s_109_67, s_109_70, s_109_71, s_109_74, s_109_75, s_109_78, s_109_79, s_109_82, s_109_83, s_109_86, s_109_89, s_109_90, s_109_91, s_109_94, s_109_95, s_109_98, s_109_99, s_109_100, s_109_101, s_109_104, s_109_107, s_109_108, s_109_111, s_109_114, s_109_115, s_109_118, s_109_121, s_109_124, s_109_125, s_109_128, s_109_131, s_109_132, s_109_133, s_109_136, s_109_137, s_109_138, s_109_141, s_109_142, s_115_0, s_115_1, s_115_4, s_115_6, s_115_9, s_115_10, s_115_13, s_115_14, b_res, b_resN, b_nm0, b_nm1, b_nm2, b_ns0, b_ns1, b_l0, b_l1, b_l2, b_l3, b_l4, b_l5, b_l6, Bool.true_and, Bool.and_true, cond_true, b01_0, b01_1, i10, true_and, and_true, true_or, or_true, u_rd, u_2, u_at, reduceIte, eq_self, not_true_eq_false, not_false_eq_true, false_imp_iff, true_imp_iff, forall_const, b_nm3_0, b_nm3_1, b_nm3_2, b_nm3_3, b_nm3_4, b_nm3_5, b_nm3_6, b_nm3_7, b_nm3_8, b_nm3_9, b_nm3_10, b_nm3_11, b_nm3_100, b_nm3_101, b_nm3_102, b_nm3_200, b_nm3_201, b_nm3_202, b_nm3_203, b_nm3_204, b_nm3_205, b_nm3_206, b_nm3_207, b_nm3_208, b_ns2_0, b_ns2_1, b_ns2_2, b_ns2_3, b_ns2_4, b_ns2_5, b_ns2_6, b_ns2_7, b_ns2_8, b_ns2_9, b_ns2_10, b_ns2_11, b_ns2_12, b_ns2_13, b_ns2_14, b_ns2_15, b_ns2_16, b_ns2_17, b_ns2_18, b_ns2_19, b_ns2_20, b_ns2_21, b_ns2_22, b_ns2_23, b_ns2_24, b_ns2_25, b_ns2_26, b_ns2_27, b_ns2_28, b_ns2_29, b_ns2_30, b_ns2_31, b_ns2_32, b_ns2_33, b_ns2_34, b_ns2_35, b_ns2_36, b_ns2_37, b_ns2_38, b_ns2_39, b_ns2_40, b_ns2_41, b_ns2_42, b_ns2_43, b_ns2_44, b_ns2_45, b_ns2_50, b_ns2_51, b_ns2_52, b_ns2_53, b_ns2_54, b_ns2_55, b_ns2_56, b_ns2_57, b_ns2_58, b_ns2_59, b_ns2_60, b_ns2_61, b_ns2_62, b_ns2_63, b_ns2_64, b_ns2_65, b_ns2_66, b_ns2_67, b_ns2_68, b_ns2_69, b_ns2_70, b_ns2_71, b_ns2_72, b_ns2_73, b_ns2_74, b_ns2_75, b_ns2_76, b_ns2_77, b_ns2_78, b_ns2_79, b_ns2_80, b_ns2_81, b_ns2_82, b_ns2_83, b_ns2_84, b_ns2_85, b_ns2_86, b_ns2_87, b_ns2_88, hnow, a1]
    exact hQ
  refine key _ ⟨_, rfl, ?_⟩
  have key2 : ∀ (Q : ab_Q), Q (some (-1)) μ → gd_run 162 0 [some (.inr 11), none, none, none, none, none, none, none, none, none] [] μ (0, 0) Q := by
    intro Q hQ
    simp +decide only [s_162_0, s_162_1, s_162_4, s_162_6, s_162_9, s_162_10, b_res, b_resN, b_nm0, b_nm1, b_nm2, b_ns0, b_ns1, b_l0, b_l1, b_l2, b_l3, b_l4, b_l5, b_l6, Bool.true_and, Bool.and_true, cond_true, b01_0, b01_1, i10, true_and, and_true, true_or, or_true, u_rd, u_2, u_at, reduceIte, eq_self, not_true_eq_false, not_false_eq_true, false_imp_iff, true_imp_iff, forall_const, b_nm3_0, b_nm3_1, b_nm3_2, b_nm3_3, b_nm3_4, b_nm3_5, b_nm3_6, b_nm3_7, b_nm3_8, b_nm3_9, b_nm3_10, b_nm3_11, b_nm3_100, b_nm3_101, b_nm3_102, b_nm3_200, b_nm3_201, b_nm3_202, b_nm3_203, b_nm3_204, b_nm3_205, b_nm3_206, b_nm3_207, b_nm3_208, b_ns2_0, b_ns2_1, b_ns2_2, b_ns2_3, b_ns2_4, b_ns2_5, b_ns2_6, b_ns2_7, b_ns2_8, b_ns2_9, b_ns2_10, b_ns2_11, b_ns2_12, b_ns2_13, b_ns2_14, b_ns2_15, b_ns2_16, b_ns2_17, b_ns2_18, b_ns2_19, b_ns2_20, b_ns2_21, b_ns2_22, b_ns2_23, b_ns2_24, b_ns2_25, b_ns2_26, b_ns2_27, b_ns2_28, b_ns2_29, b_ns2_30, b_ns2_31, b_ns2_32, b_ns2_33, b_ns2_34, b_ns2_35, b_ns2_36, b_ns2_37, b_ns2_38, b_ns2_39, b_ns2_40, b_ns2_41, b_ns2_42, b_ns2_43, b_ns2_44, b_ns2_45, b_ns2_50, b_ns2_51, b_ns2_52, b_ns2_53, b_ns2_54, b_ns2_55, b_ns2_56, b_ns2_57, b_ns2_58, b_ns2_59, b_ns2_60, b_ns2_61, b_ns2_62, b_ns2_63, b_ns2_64, b_ns2_65, b_ns2_66, b_ns2_67, b_ns2_68, b_ns2_69, b_ns2_70, b_ns2_71, b_ns2_72, b_ns2_73, b_ns2_74, b_ns2_75, b_ns2_76, b_ns2_77, b_ns2_78, b_ns2_79, b_ns2_80, b_ns2_81, b_ns2_82, b_ns2_83, b_ns2_84, b_ns2_85, b_ns2_86, b_ns2_87, b_ns2_88, hnow', a2]
    exact hQ
  exact key2 _ ⟨rfl, h0⟩
