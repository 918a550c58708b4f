/-! THE CLAIM OUT OF ONE WALK OF THE LAW'S BODY. Your part is whole_start (and what it stands on); all else here is the same for every law, but numbers. -/
def R_law : String := "GrainDoleLaw"
def lw_P (b : Addr) (xs : List Int32) (args : Array Value) (s : State) : Prop := args = #[.ref b] ∧ s.IntsAt b xs ∧ xs.length ≤ 3072 ∧ (Jvm.Cond.and given_1 narrow_1).before args s = true
def lw_Q (_ : Array Value) (s : State) (o : Outcome) (t : State) : Prop := o = .returned (some (.int 1)) ∧ Framed s o t [] 600000 7302249
def lw_Z (below : List Frame) (a : Array Value) (s : State) : State → Prop := fun t => ∃ o, t.status = .running ∧ Ended t below o ∧ lw_Q a s o t
/-- the law's own end, with 1 on the stack, nothing written that was there before, its room as the claim has it -/
theorem lw_ret {p : Program} {l : Launch} {e : Env} {s : State} {m : MethodId} {below : List Frame} {meth : Method} {c : Code} {b : Nat} (hx : p.tables.exec = Jvm.exec) (hb : c.code = code) (hr : meth.sig.returnType = ret) (hlocks : meth.locks = false) {pc : Nat} {H : Heap} {ls : Array Slot} (hdg : decode code pc = .ok (.ireturn, 1)) : W p l e room_1 s m #[Value.ref b] below meth c H [] 600000 7302249 (lw_Z below #[Value.ref b] s) (F0 m pc ls [.int 1]) := by
  intro T hT X
  obtain ⟨fs, hret, hrun, hended, hW, hframe⟩ := X.leave (v := some (.int 1)) (hlocks := hlocks) (fun h => by rw [hr] at h; cases h)
  have hmeth' : T.vm.method? m = some meth := X.method'
  refine ⟨T.setFrames fs, ?_, .returned (some (.int 1)), hrun, hended, rfl, ⟨_, rfl⟩, hW, hframe⟩
  jvm_step X.here [X.here.top, hx, hb, hdg, hmeth', hr, ret, narrow_b1]
  (try refine ⟨rfl, ?_⟩); (try refine ⟨rfl, ?_⟩)
  first | (intro acts; rw [hret _ acts rfl rfl rfl]) | rw [hret _ _ rfl rfl rfl]
  exact Steps.refl _
/-- what holds at the law's entry: the machine, the code, the tables' words (any of lw_tbl by 'hts w (by decide +kernel)'), the script of L ints xs at the cell b, what the Statement gives of the start (any of its parts by flat_of_before) -/
def lw_At (p : Program) (s : State) (m : MethodId) (meth : Method) (c : Code) (b L : Nat) (xs : Nat → Int32) : Prop :=
  p.tables.exec = Jvm.exec ∧ c.code = code ∧ meth.sig.returnType = ret ∧ c.maxLocals = 4 ∧ s.vm.findClass R_law = some m.cls ∧ (∀ w ∈ lw_tbl, w.before #[Value.ref b] s = true) ∧ va_X b L xs s s.heap ∧ b < s.heap.size ∧ meth.locks = false ∧ (Jvm.Cond.and given_1 narrow_1).before #[Value.ref b] s = true

def lw_sim1 (rel : Nat → ab_S → Prop) (Mx Mm T : Nat) (bb : ab_B) (as : List Int32) (μ : ab_S) : Prop := gd_run Mx 0 (ab_init gd_I Mx (.inr 0 :: as.map .inl)) [] μ bb (fun r μ1 => ∃ v, r = some v ∧ gd_run Mm 0 (ab_init gd_I Mm (.inr 11 :: as.map .inl)) [] μ1 (0, 0) (fun r' μ2 => r' = some v ∧ rel T μ2))
def lw_St (p : Program) (l : Launch) (e : Env) (s : State) (m : MethodId) (below : List Frame) (meth : Method) (c : Code) (b : Nat) (D : va_G) (cy : Nat → ClassId) (adS : Nat → Nat) (rel : Nat → ab_S → Prop) (i T PC : Nat) : Prop := ∀ (μ : ab_S) (ad : Nat → Nat) (H : Heap) (locs : List Loc) (ls : Array Slot), rel T μ → (∀ k, gd_N ≤ k → ad k = adS k) → va_P D vwCl (ab_W gd_lay gd_N cy ad μ) H → va_D (fun q => s.heap.size ≤ q) (ab_W gd_lay gd_N cy ad μ) → va_S (fun q => s.heap.size ≤ q) s.heap H locs → lv_has ls 4 [(0, .ref b), (1, .ref (ad 0)), (2, .ref (ad 11)), (3, .int (nI i))] → W p l e room_1 s m #[Value.ref b] below meth c H locs (89 + 28 * T) (26380 + 32512 * T) (lw_Z below #[Value.ref b] s) (F0 m PC ls [])
set_option maxRecDepth 20000 in
theorem uw_360 : Cond.methodLink RL 13 yX10_feed ∈ uw := List.mem_filter.mpr ⟨List.mem_of_getElem? (i := 360) (by decide +kernel), by decide +kernel⟩
set_option maxRecDepth 20000 in
theorem uw_361 : Cond.instanceMethod yX10_feed ∈ uw := List.mem_filter.mpr ⟨List.mem_of_getElem? (i := 361) (by decide +kernel), by decide +kernel⟩
set_option maxRecDepth 20000 in
theorem uw_362 : Cond.selects RX10 yX10_feed yX10_feed ∈ uw := List.mem_filter.mpr ⟨List.mem_of_getElem? (i := 362) (by decide +kernel), by decide +kernel⟩
set_option maxRecDepth 20000 in
theorem uw_376 : Cond.methodLink RL 18 yX10_end ∈ uw := List.mem_filter.mpr ⟨List.mem_of_getElem? (i := 376) (by decide +kernel), by decide +kernel⟩
set_option maxRecDepth 20000 in
theorem uw_377 : Cond.instanceMethod yX10_end ∈ uw := List.mem_filter.mpr ⟨List.mem_of_getElem? (i := 377) (by decide +kernel), by decide +kernel⟩
set_option maxRecDepth 20000 in
theorem uw_378 : Cond.selects RX10 yX10_end yX10_end ∈ uw := List.mem_filter.mpr ⟨List.mem_of_getElem? (i := 378) (by decide +kernel), by decide +kernel⟩
set_option maxRecDepth 20000 in
theorem uw_384 : Cond.methodLink RL 23 yX10_law ∈ uw := List.mem_filter.mpr ⟨List.mem_of_getElem? (i := 384) (by decide +kernel), by decide +kernel⟩
set_option maxRecDepth 20000 in
theorem uw_385 : Cond.instanceMethod yX10_law ∈ uw := List.mem_filter.mpr ⟨List.mem_of_getElem? (i := 385) (by decide +kernel), by decide +kernel⟩
set_option maxRecDepth 20000 in
theorem uw_386 : Cond.selects RX10 yX10_law yX10_law ∈ uw := List.mem_filter.mpr ⟨List.mem_of_getElem? (i := 386) (by decide +kernel), by decide +kernel⟩
set_option maxRecDepth 20000 in
theorem uw_524 : Cond.methodLink RL 27 yX10_holds ∈ uw := List.mem_filter.mpr ⟨List.mem_of_getElem? (i := 524) (by decide +kernel), by decide +kernel⟩
set_option maxRecDepth 20000 in
theorem uw_525 : Cond.instanceMethod yX10_holds ∈ uw := List.mem_filter.mpr ⟨List.mem_of_getElem? (i := 525) (by decide +kernel), by decide +kernel⟩
set_option maxRecDepth 20000 in
theorem uw_526 : Cond.selects RX10 yX10_holds yX10_holds ∈ uw := List.mem_filter.mpr ⟨List.mem_of_getElem? (i := 526) (by decide +kernel), by decide +kernel⟩
set_option maxRecDepth 20000 in
theorem uw_537 : Cond.methodLink RL 32 yX10_enter ∈ uw := List.mem_filter.mpr ⟨List.mem_of_getElem? (i := 537) (by decide +kernel), by decide +kernel⟩
set_option maxRecDepth 20000 in
theorem uw_538 : Cond.instanceMethod yX10_enter ∈ uw := List.mem_filter.mpr ⟨List.mem_of_getElem? (i := 538) (by decide +kernel), by decide +kernel⟩
set_option maxRecDepth 20000 in
theorem uw_539 : Cond.selects RX10 yX10_enter yX10_enter ∈ uw := List.mem_filter.mpr ⟨List.mem_of_getElem? (i := 539) (by decide +kernel), by decide +kernel⟩
set_option maxRecDepth 20000 in
theorem uw_566 : Cond.methodLink RL 36 yX10_isVoid ∈ uw := List.mem_filter.mpr ⟨List.mem_of_getElem? (i := 566) (by decide +kernel), by decide +kernel⟩
set_option maxRecDepth 20000 in
theorem uw_567 : Cond.instanceMethod yX10_isVoid ∈ uw := List.mem_filter.mpr ⟨List.mem_of_getElem? (i := 567) (by decide +kernel), by decide +kernel⟩
set_option maxRecDepth 20000 in
theorem uw_568 : Cond.selects RX10 yX10_isVoid yX10_isVoid ∈ uw := List.mem_filter.mpr ⟨List.mem_of_getElem? (i := 568) (by decide +kernel), by decide +kernel⟩
set_option maxRecDepth 20000 in
theorem uw_669 : Cond.methodLink RL 41 yX10_holder ∈ uw := List.mem_filter.mpr ⟨List.mem_of_getElem? (i := 669) (by decide +kernel), by decide +kernel⟩
set_option maxRecDepth 20000 in
theorem uw_670 : Cond.instanceMethod yX10_holder ∈ uw := List.mem_filter.mpr ⟨List.mem_of_getElem? (i := 670) (by decide +kernel), by decide +kernel⟩
set_option maxRecDepth 20000 in
theorem uw_671 : Cond.selects RX10 yX10_holder yX10_holder ∈ uw := List.mem_filter.mpr ⟨List.mem_of_getElem? (i := 671) (by decide +kernel), by decide +kernel⟩
set_option maxRecDepth 20000 in
theorem uw_675 : Cond.methodLink RL 45 yX10_rank ∈ uw := List.mem_filter.mpr ⟨List.mem_of_getElem? (i := 675) (by decide +kernel), by decide +kernel⟩
set_option maxRecDepth 20000 in
theorem uw_676 : Cond.instanceMethod yX10_rank ∈ uw := List.mem_filter.mpr ⟨List.mem_of_getElem? (i := 676) (by decide +kernel), by decide +kernel⟩
set_option maxRecDepth 20000 in
theorem uw_677 : Cond.selects RX10 yX10_rank yX10_rank ∈ uw := List.mem_filter.mpr ⟨List.mem_of_getElem? (i := 677) (by decide +kernel), by decide +kernel⟩
set_option maxRecDepth 20000 in
theorem uw_683 : Cond.methodLink RL 49 yX10_ship ∈ uw := List.mem_filter.mpr ⟨List.mem_of_getElem? (i := 683) (by decide +kernel), by decide +kernel⟩
set_option maxRecDepth 20000 in
theorem uw_684 : Cond.instanceMethod yX10_ship ∈ uw := List.mem_filter.mpr ⟨List.mem_of_getElem? (i := 684) (by decide +kernel), by decide +kernel⟩
set_option maxRecDepth 20000 in
theorem uw_685 : Cond.selects RX10 yX10_ship yX10_ship ∈ uw := List.mem_filter.mpr ⟨List.mem_of_getElem? (i := 685) (by decide +kernel), by decide +kernel⟩
set_option maxRecDepth 20000 in
theorem uw_699 : Cond.methodLink RL 53 yX10_room ∈ uw := List.mem_filter.mpr ⟨List.mem_of_getElem? (i := 699) (by decide +kernel), by decide +kernel⟩
set_option maxRecDepth 20000 in
theorem uw_700 : Cond.instanceMethod yX10_room ∈ uw := List.mem_filter.mpr ⟨List.mem_of_getElem? (i := 700) (by decide +kernel), by decide +kernel⟩
set_option maxRecDepth 20000 in
theorem uw_701 : Cond.selects RX10 yX10_room yX10_room ∈ uw := List.mem_filter.mpr ⟨List.mem_of_getElem? (i := 701) (by decide +kernel), by decide +kernel⟩
set_option maxRecDepth 20000 in
theorem uw_715 : Cond.methodLink RL 57 yX10_land ∈ uw := List.mem_filter.mpr ⟨List.mem_of_getElem? (i := 715) (by decide +kernel), by decide +kernel⟩
set_option maxRecDepth 20000 in
theorem uw_716 : Cond.instanceMethod yX10_land ∈ uw := List.mem_filter.mpr ⟨List.mem_of_getElem? (i := 716) (by decide +kernel), by decide +kernel⟩
set_option maxRecDepth 20000 in
theorem uw_717 : Cond.selects RX10 yX10_land yX10_land ∈ uw := List.mem_filter.mpr ⟨List.mem_of_getElem? (i := 717) (by decide +kernel), by decide +kernel⟩
set_option maxRecDepth 20000 in
theorem uw_739 : Cond.methodLink RL 62 yX10_lot ∈ uw := List.mem_filter.mpr ⟨List.mem_of_getElem? (i := 739) (by decide +kernel), by decide +kernel⟩
set_option maxRecDepth 20000 in
theorem uw_740 : Cond.instanceMethod yX10_lot ∈ uw := List.mem_filter.mpr ⟨List.mem_of_getElem? (i := 740) (by decide +kernel), by decide +kernel⟩
set_option maxRecDepth 20000 in
theorem uw_741 : Cond.selects RX10 yX10_lot yX10_lot ∈ uw := List.mem_filter.mpr ⟨List.mem_of_getElem? (i := 741) (by decide +kernel), by decide +kernel⟩
set_option maxRecDepth 20000 in
theorem uw_752 : Cond.methodLink RL 66 yX10_premium ∈ uw := List.mem_filter.mpr ⟨List.mem_of_getElem? (i := 752) (by decide +kernel), by decide +kernel⟩
set_option maxRecDepth 20000 in
theorem uw_753 : Cond.instanceMethod yX10_premium ∈ uw := List.mem_filter.mpr ⟨List.mem_of_getElem? (i := 753) (by decide +kernel), by decide +kernel⟩
set_option maxRecDepth 20000 in
theorem uw_754 : Cond.selects RX10 yX10_premium yX10_premium ∈ uw := List.mem_filter.mpr ⟨List.mem_of_getElem? (i := 754) (by decide +kernel), by decide +kernel⟩
set_option maxRecDepth 20000 in
theorem uw_769 : Cond.methodLink RL 70 yX10_swear ∈ uw := List.mem_filter.mpr ⟨List.mem_of_getElem? (i := 769) (by decide +kernel), by decide +kernel⟩
set_option maxRecDepth 20000 in
theorem uw_770 : Cond.instanceMethod yX10_swear ∈ uw := List.mem_filter.mpr ⟨List.mem_of_getElem? (i := 770) (by decide +kernel), by decide +kernel⟩
set_option maxRecDepth 20000 in
theorem uw_771 : Cond.selects RX10 yX10_swear yX10_swear ∈ uw := List.mem_filter.mpr ⟨List.mem_of_getElem? (i := 771) (by decide +kernel), by decide +kernel⟩
set_option maxRecDepth 20000 in
theorem uw_782 : Cond.methodLink RL 75 yX10_show ∈ uw := List.mem_filter.mpr ⟨List.mem_of_getElem? (i := 782) (by decide +kernel), by decide +kernel⟩
set_option maxRecDepth 20000 in
theorem uw_783 : Cond.instanceMethod yX10_show ∈ uw := List.mem_filter.mpr ⟨List.mem_of_getElem? (i := 783) (by decide +kernel), by decide +kernel⟩
set_option maxRecDepth 20000 in
theorem uw_784 : Cond.selects RX10 yX10_show yX10_show ∈ uw := List.mem_filter.mpr ⟨List.mem_of_getElem? (i := 784) (by decide +kernel), by decide +kernel⟩
set_option maxRecDepth 20000 in
theorem uw_803 : Cond.methodLink RL 79 yX10_frauds ∈ uw := List.mem_filter.mpr ⟨List.mem_of_getElem? (i := 803) (by decide +kernel), by decide +kernel⟩
set_option maxRecDepth 20000 in
theorem uw_804 : Cond.instanceMethod yX10_frauds ∈ uw := List.mem_filter.mpr ⟨List.mem_of_getElem? (i := 804) (by decide +kernel), by decide +kernel⟩
set_option maxRecDepth 20000 in
theorem uw_805 : Cond.selects RX10 yX10_frauds yX10_frauds ∈ uw := List.mem_filter.mpr ⟨List.mem_of_getElem? (i := 805) (by decide +kernel), by decide +kernel⟩
set_option maxRecDepth 20000 in
theorem uw_811 : Cond.methodLink RL 83 yX10_part ∈ uw := List.mem_filter.mpr ⟨List.mem_of_getElem? (i := 811) (by decide +kernel), by decide +kernel⟩
set_option maxRecDepth 20000 in
theorem uw_812 : Cond.instanceMethod yX10_part ∈ uw := List.mem_filter.mpr ⟨List.mem_of_getElem? (i := 812) (by decide +kernel), by decide +kernel⟩
set_option maxRecDepth 20000 in
theorem uw_813 : Cond.selects RX10 yX10_part yX10_part ∈ uw := List.mem_filter.mpr ⟨List.mem_of_getElem? (i := 813) (by decide +kernel), by decide +kernel⟩
set_option maxRecDepth 20000 in
theorem uw_917 : Cond.methodLink RL 88 yX10_month ∈ uw := List.mem_filter.mpr ⟨List.mem_of_getElem? (i := 917) (by decide +kernel), by decide +kernel⟩
set_option maxRecDepth 20000 in
theorem uw_918 : Cond.instanceMethod yX10_month ∈ uw := List.mem_filter.mpr ⟨List.mem_of_getElem? (i := 918) (by decide +kernel), by decide +kernel⟩
set_option maxRecDepth 20000 in
theorem uw_919 : Cond.selects RX10 yX10_month yX10_month ∈ uw := List.mem_filter.mpr ⟨List.mem_of_getElem? (i := 919) (by decide +kernel), by decide +kernel⟩
set_option maxRecDepth 20000 in
theorem uw_929 : Cond.methodLink RL 92 yX10_given ∈ uw := List.mem_filter.mpr ⟨List.mem_of_getElem? (i := 929) (by decide +kernel), by decide +kernel⟩
set_option maxRecDepth 20000 in
theorem uw_930 : Cond.instanceMethod yX10_given ∈ uw := List.mem_filter.mpr ⟨List.mem_of_getElem? (i := 930) (by decide +kernel), by decide +kernel⟩
set_option maxRecDepth 20000 in
theorem uw_931 : Cond.selects RX10 yX10_given yX10_given ∈ uw := List.mem_filter.mpr ⟨List.mem_of_getElem? (i := 931) (by decide +kernel), by decide +kernel⟩
set_option maxRecDepth 20000 in
theorem uw_937 : Cond.methodLink RL 96 yX10_from ∈ uw := List.mem_filter.mpr ⟨List.mem_of_getElem? (i := 937) (by decide +kernel), by decide +kernel⟩
set_option maxRecDepth 20000 in
theorem uw_938 : Cond.instanceMethod yX10_from ∈ uw := List.mem_filter.mpr ⟨List.mem_of_getElem? (i := 938) (by decide +kernel), by decide +kernel⟩
set_option maxRecDepth 20000 in
theorem uw_939 : Cond.selects RX10 yX10_from yX10_from ∈ uw := List.mem_filter.mpr ⟨List.mem_of_getElem? (i := 939) (by decide +kernel), by decide +kernel⟩
set_option maxRecDepth 20000 in
theorem uw_945 : Cond.methodLink RL 100 yX10_back ∈ uw := List.mem_filter.mpr ⟨List.mem_of_getElem? (i := 945) (by decide +kernel), by decide +kernel⟩
set_option maxRecDepth 20000 in
theorem uw_946 : Cond.instanceMethod yX10_back ∈ uw := List.mem_filter.mpr ⟨List.mem_of_getElem? (i := 946) (by decide +kernel), by decide +kernel⟩
set_option maxRecDepth 20000 in
theorem uw_947 : Cond.selects RX10 yX10_back yX10_back ∈ uw := List.mem_filter.mpr ⟨List.mem_of_getElem? (i := 947) (by decide +kernel), by decide +kernel⟩
set_option maxRecDepth 20000 in
theorem uw_957 : Cond.methodLink RL 104 yX10_count ∈ uw := List.mem_filter.mpr ⟨List.mem_of_getElem? (i := 957) (by decide +kernel), by decide +kernel⟩
set_option maxRecDepth 20000 in
theorem uw_958 : Cond.instanceMethod yX10_count ∈ uw := List.mem_filter.mpr ⟨List.mem_of_getElem? (i := 958) (by decide +kernel), by decide +kernel⟩
set_option maxRecDepth 20000 in
theorem uw_959 : Cond.selects RX10 yX10_count yX10_count ∈ uw := List.mem_filter.mpr ⟨List.mem_of_getElem? (i := 959) (by decide +kernel), by decide +kernel⟩
set_option maxRecDepth 20000 in
theorem uw_1134 : Cond.methodLink RL 17 yX11_feed ∈ uw := List.mem_filter.mpr ⟨List.mem_of_getElem? (i := 1134) (by decide +kernel), by decide +kernel⟩
set_option maxRecDepth 20000 in
theorem uw_1135 : Cond.instanceMethod yX11_feed ∈ uw := List.mem_filter.mpr ⟨List.mem_of_getElem? (i := 1135) (by decide +kernel), by decide +kernel⟩
set_option maxRecDepth 20000 in
theorem uw_1136 : Cond.selects RX11 yX11_feed yX11_feed ∈ uw := List.mem_filter.mpr ⟨List.mem_of_getElem? (i := 1136) (by decide +kernel), by decide +kernel⟩
set_option maxRecDepth 20000 in
theorem uw_1142 : Cond.methodLink RL 22 yX11_end ∈ uw := List.mem_filter.mpr ⟨List.mem_of_getElem? (i := 1142) (by decide +kernel), by decide +kernel⟩
set_option maxRecDepth 20000 in
theorem uw_1143 : Cond.instanceMethod yX11_end ∈ uw := List.mem_filter.mpr ⟨List.mem_of_getElem? (i := 1143) (by decide +kernel), by decide +kernel⟩
set_option maxRecDepth 20000 in
theorem uw_1144 : Cond.selects RX11 yX11_end yX11_end ∈ uw := List.mem_filter.mpr ⟨List.mem_of_getElem? (i := 1144) (by decide +kernel), by decide +kernel⟩
set_option maxRecDepth 20000 in
theorem uw_1146 : Cond.methodLink RL 26 yX11_law ∈ uw := List.mem_filter.mpr ⟨List.mem_of_getElem? (i := 1146) (by decide +kernel), by decide +kernel⟩
set_option maxRecDepth 20000 in
theorem uw_1147 : Cond.instanceMethod yX11_law ∈ uw := List.mem_filter.mpr ⟨List.mem_of_getElem? (i := 1147) (by decide +kernel), by decide +kernel⟩
set_option maxRecDepth 20000 in
theorem uw_1148 : Cond.selects RX11 yX11_law yX11_law ∈ uw := List.mem_filter.mpr ⟨List.mem_of_getElem? (i := 1148) (by decide +kernel), by decide +kernel⟩
set_option maxRecDepth 20000 in
theorem uw_1188 : Cond.methodLink RL 31 yX11_holds ∈ uw := List.mem_filter.mpr ⟨List.mem_of_getElem? (i := 1188) (by decide +kernel), by decide +kernel⟩
set_option maxRecDepth 20000 in
theorem uw_1189 : Cond.instanceMethod yX11_holds ∈ uw := List.mem_filter.mpr ⟨List.mem_of_getElem? (i := 1189) (by decide +kernel), by decide +kernel⟩
set_option maxRecDepth 20000 in
theorem uw_1190 : Cond.selects RX11 yX11_holds yX11_holds ∈ uw := List.mem_filter.mpr ⟨List.mem_of_getElem? (i := 1190) (by decide +kernel), by decide +kernel⟩
set_option maxRecDepth 20000 in
theorem uw_1203 : Cond.methodLink RL 35 yX11_enter ∈ uw := List.mem_filter.mpr ⟨List.mem_of_getElem? (i := 1203) (by decide +kernel), by decide +kernel⟩
set_option maxRecDepth 20000 in
theorem uw_1204 : Cond.instanceMethod yX11_enter ∈ uw := List.mem_filter.mpr ⟨List.mem_of_getElem? (i := 1204) (by decide +kernel), by decide +kernel⟩
set_option maxRecDepth 20000 in
theorem uw_1205 : Cond.selects RX11 yX11_enter yX11_enter ∈ uw := List.mem_filter.mpr ⟨List.mem_of_getElem? (i := 1205) (by decide +kernel), by decide +kernel⟩
set_option maxRecDepth 20000 in
theorem uw_1207 : Cond.methodLink RL 40 yX11_isVoid ∈ uw := List.mem_filter.mpr ⟨List.mem_of_getElem? (i := 1207) (by decide +kernel), by decide +kernel⟩
set_option maxRecDepth 20000 in
theorem uw_1208 : Cond.instanceMethod yX11_isVoid ∈ uw := List.mem_filter.mpr ⟨List.mem_of_getElem? (i := 1208) (by decide +kernel), by decide +kernel⟩
set_option maxRecDepth 20000 in
theorem uw_1209 : Cond.selects RX11 yX11_isVoid yX11_isVoid ∈ uw := List.mem_filter.mpr ⟨List.mem_of_getElem? (i := 1209) (by decide +kernel), by decide +kernel⟩
set_option maxRecDepth 20000 in
theorem uw_1227 : Cond.methodLink RL 44 yX11_holder ∈ uw := List.mem_filter.mpr ⟨List.mem_of_getElem? (i := 1227) (by decide +kernel), by decide +kernel⟩
set_option maxRecDepth 20000 in
theorem uw_1231 : Cond.methodLink RL 48 yX11_rank ∈ uw := List.mem_filter.mpr ⟨List.mem_of_getElem? (i := 1231) (by decide +kernel), by decide +kernel⟩
set_option maxRecDepth 20000 in
theorem uw_1232 : Cond.instanceMethod yX11_rank ∈ uw := List.mem_filter.mpr ⟨List.mem_of_getElem? (i := 1232) (by decide +kernel), by decide +kernel⟩
set_option maxRecDepth 20000 in
theorem uw_1233 : Cond.selects RX11 yX11_rank yX11_rank ∈ uw := List.mem_filter.mpr ⟨List.mem_of_getElem? (i := 1233) (by decide +kernel), by decide +kernel⟩
set_option maxRecDepth 20000 in
theorem uw_1236 : Cond.methodLink RL 52 yX11_ship ∈ uw := List.mem_filter.mpr ⟨List.mem_of_getElem? (i := 1236) (by decide +kernel), by decide +kernel⟩
set_option maxRecDepth 20000 in
theorem uw_1237 : Cond.instanceMethod yX11_ship ∈ uw := List.mem_filter.mpr ⟨List.mem_of_getElem? (i := 1237) (by decide +kernel), by decide +kernel⟩
set_option maxRecDepth 20000 in
theorem uw_1238 : Cond.selects RX11 yX11_ship yX11_ship ∈ uw := List.mem_filter.mpr ⟨List.mem_of_getElem? (i := 1238) (by decide +kernel), by decide +kernel⟩
set_option maxRecDepth 20000 in
theorem uw_1240 : Cond.methodLink RL 56 yX11_room ∈ uw := List.mem_filter.mpr ⟨List.mem_of_getElem? (i := 1240) (by decide +kernel), by decide +kernel⟩
set_option maxRecDepth 20000 in
theorem uw_1241 : Cond.instanceMethod yX11_room ∈ uw := List.mem_filter.mpr ⟨List.mem_of_getElem? (i := 1241) (by decide +kernel), by decide +kernel⟩
set_option maxRecDepth 20000 in
theorem uw_1242 : Cond.selects RX11 yX11_room yX11_room ∈ uw := List.mem_filter.mpr ⟨List.mem_of_getElem? (i := 1242) (by decide +kernel), by decide +kernel⟩
set_option maxRecDepth 20000 in
theorem uw_1248 : Cond.methodLink RL 61 yX11_land ∈ uw := List.mem_filter.mpr ⟨List.mem_of_getElem? (i := 1248) (by decide +kernel), by decide +kernel⟩
set_option maxRecDepth 20000 in
theorem uw_1249 : Cond.instanceMethod yX11_land ∈ uw := List.mem_filter.mpr ⟨List.mem_of_getElem? (i := 1249) (by decide +kernel), by decide +kernel⟩
set_option maxRecDepth 20000 in
theorem uw_1250 : Cond.selects RX11 yX11_land yX11_land ∈ uw := List.mem_filter.mpr ⟨List.mem_of_getElem? (i := 1250) (by decide +kernel), by decide +kernel⟩
set_option maxRecDepth 20000 in
theorem uw_1252 : Cond.methodLink RL 65 yX11_lot ∈ uw := List.mem_filter.mpr ⟨List.mem_of_getElem? (i := 1252) (by decide +kernel), by decide +kernel⟩
set_option maxRecDepth 20000 in
theorem uw_1253 : Cond.instanceMethod yX11_lot ∈ uw := List.mem_filter.mpr ⟨List.mem_of_getElem? (i := 1253) (by decide +kernel), by decide +kernel⟩
set_option maxRecDepth 20000 in
theorem uw_1254 : Cond.selects RX11 yX11_lot yX11_lot ∈ uw := List.mem_filter.mpr ⟨List.mem_of_getElem? (i := 1254) (by decide +kernel), by decide +kernel⟩
set_option maxRecDepth 20000 in
theorem uw_1256 : Cond.methodLink RL 69 yX11_premium ∈ uw := List.mem_filter.mpr ⟨List.mem_of_getElem? (i := 1256) (by decide +kernel), by decide +kernel⟩
set_option maxRecDepth 20000 in
theorem uw_1257 : Cond.instanceMethod yX11_premium ∈ uw := List.mem_filter.mpr ⟨List.mem_of_getElem? (i := 1257) (by decide +kernel), by decide +kernel⟩
set_option maxRecDepth 20000 in
theorem uw_1258 : Cond.selects RX11 yX11_premium yX11_premium ∈ uw := List.mem_filter.mpr ⟨List.mem_of_getElem? (i := 1258) (by decide +kernel), by decide +kernel⟩
set_option maxRecDepth 20000 in
theorem uw_1260 : Cond.methodLink RL 74 yX11_swear ∈ uw := List.mem_filter.mpr ⟨List.mem_of_getElem? (i := 1260) (by decide +kernel), by decide +kernel⟩
set_option maxRecDepth 20000 in
theorem uw_1261 : Cond.instanceMethod yX11_swear ∈ uw := List.mem_filter.mpr ⟨List.mem_of_getElem? (i := 1261) (by decide +kernel), by decide +kernel⟩
set_option maxRecDepth 20000 in
theorem uw_1262 : Cond.selects RX11 yX11_swear yX11_swear ∈ uw := List.mem_filter.mpr ⟨List.mem_of_getElem? (i := 1262) (by decide +kernel), by decide +kernel⟩
set_option maxRecDepth 20000 in
theorem uw_1264 : Cond.methodLink RL 78 yX11_show ∈ uw := List.mem_filter.mpr ⟨List.mem_of_getElem? (i := 1264) (by decide +kernel), by decide +kernel⟩
set_option maxRecDepth 20000 in
theorem uw_1265 : Cond.instanceMethod yX11_show ∈ uw := List.mem_filter.mpr ⟨List.mem_of_getElem? (i := 1265) (by decide +kernel), by decide +kernel⟩
set_option maxRecDepth 20000 in
theorem uw_1266 : Cond.selects RX11 yX11_show yX11_show ∈ uw := List.mem_filter.mpr ⟨List.mem_of_getElem? (i := 1266) (by decide +kernel), by decide +kernel⟩
set_option maxRecDepth 20000 in
theorem uw_1268 : Cond.methodLink RL 82 yX11_frauds ∈ uw := List.mem_filter.mpr ⟨List.mem_of_getElem? (i := 1268) (by decide +kernel), by decide +kernel⟩
set_option maxRecDepth 20000 in
theorem uw_1269 : Cond.instanceMethod yX11_frauds ∈ uw := List.mem_filter.mpr ⟨List.mem_of_getElem? (i := 1269) (by decide +kernel), by decide +kernel⟩
set_option maxRecDepth 20000 in
theorem uw_1270 : Cond.selects RX11 yX11_frauds yX11_frauds ∈ uw := List.mem_filter.mpr ⟨List.mem_of_getElem? (i := 1270) (by decide +kernel), by decide +kernel⟩
set_option maxRecDepth 20000 in
theorem uw_1272 : Cond.methodLink RL 87 yX11_part ∈ uw := List.mem_filter.mpr ⟨List.mem_of_getElem? (i := 1272) (by decide +kernel), by decide +kernel⟩
set_option maxRecDepth 20000 in
theorem uw_1273 : Cond.instanceMethod yX11_part ∈ uw := List.mem_filter.mpr ⟨List.mem_of_getElem? (i := 1273) (by decide +kernel), by decide +kernel⟩
set_option maxRecDepth 20000 in
theorem uw_1274 : Cond.selects RX11 yX11_part yX11_part ∈ uw := List.mem_filter.mpr ⟨List.mem_of_getElem? (i := 1274) (by decide +kernel), by decide +kernel⟩
set_option maxRecDepth 20000 in
theorem uw_1292 : Cond.methodLink RL 91 yX11_month ∈ uw := List.mem_filter.mpr ⟨List.mem_of_getElem? (i := 1292) (by decide +kernel), by decide +kernel⟩
set_option maxRecDepth 20000 in
theorem uw_1293 : Cond.instanceMethod yX11_month ∈ uw := List.mem_filter.mpr ⟨List.mem_of_getElem? (i := 1293) (by decide +kernel), by decide +kernel⟩
set_option maxRecDepth 20000 in
theorem uw_1294 : Cond.selects RX11 yX11_month yX11_month ∈ uw := List.mem_filter.mpr ⟨List.mem_of_getElem? (i := 1294) (by decide +kernel), by decide +kernel⟩
set_option maxRecDepth 20000 in
theorem uw_1296 : Cond.methodLink RL 95 yX11_given ∈ uw := List.mem_filter.mpr ⟨List.mem_of_getElem? (i := 1296) (by decide +kernel), by decide +kernel⟩
set_option maxRecDepth 20000 in
theorem uw_1297 : Cond.instanceMethod yX11_given ∈ uw := List.mem_filter.mpr ⟨List.mem_of_getElem? (i := 1297) (by decide +kernel), by decide +kernel⟩
set_option maxRecDepth 20000 in
theorem uw_1298 : Cond.selects RX11 yX11_given yX11_given ∈ uw := List.mem_filter.mpr ⟨List.mem_of_getElem? (i := 1298) (by decide +kernel), by decide +kernel⟩
set_option maxRecDepth 20000 in
theorem uw_1300 : Cond.methodLink RL 99 yX11_from ∈ uw := List.mem_filter.mpr ⟨List.mem_of_getElem? (i := 1300) (by decide +kernel), by decide +kernel⟩
set_option maxRecDepth 20000 in
theorem uw_1301 : Cond.instanceMethod yX11_from ∈ uw := List.mem_filter.mpr ⟨List.mem_of_getElem? (i := 1301) (by decide +kernel), by decide +kernel⟩
set_option maxRecDepth 20000 in
theorem uw_1302 : Cond.selects RX11 yX11_from yX11_from ∈ uw := List.mem_filter.mpr ⟨List.mem_of_getElem? (i := 1302) (by decide +kernel), by decide +kernel⟩
set_option maxRecDepth 20000 in
theorem uw_1304 : Cond.methodLink RL 103 yX11_back ∈ uw := List.mem_filter.mpr ⟨List.mem_of_getElem? (i := 1304) (by decide +kernel), by decide +kernel⟩
set_option maxRecDepth 20000 in
theorem uw_1305 : Cond.instanceMethod yX11_back ∈ uw := List.mem_filter.mpr ⟨List.mem_of_getElem? (i := 1305) (by decide +kernel), by decide +kernel⟩
set_option maxRecDepth 20000 in
theorem uw_1306 : Cond.selects RX11 yX11_back yX11_back ∈ uw := List.mem_filter.mpr ⟨List.mem_of_getElem? (i := 1306) (by decide +kernel), by decide +kernel⟩
set_option maxRecDepth 20000 in
theorem uw_1308 : Cond.methodLink RL 107 yX11_count ∈ uw := List.mem_filter.mpr ⟨List.mem_of_getElem? (i := 1308) (by decide +kernel), by decide +kernel⟩
set_option maxRecDepth 20000 in
theorem uw_1309 : Cond.instanceMethod yX11_count ∈ uw := List.mem_filter.mpr ⟨List.mem_of_getElem? (i := 1309) (by decide +kernel), by decide +kernel⟩
set_option maxRecDepth 20000 in
theorem uw_1310 : Cond.selects RX11 yX11_count yX11_count ∈ uw := List.mem_filter.mpr ⟨List.mem_of_getElem? (i := 1310) (by decide +kernel), by decide +kernel⟩
section LW
variable {p : Program} {l : Launch} {e : Env} {s : State} {m : MethodId} {below : List Frame} {meth : Method} {c : Code} {b L : Nat} {xs : Nat → Int32} {D : va_G} {cy : Nat → ClassId} {adS : Nat → Nat} {rel : Nat → ab_S → Prop}
theorem lw_call (hx : p.tables.exec = Jvm.exec) (hb : c.code = code) (hml : c.maxLocals = 4) (hown : s.vm.findClass R_law = some m.cls) (hts : ∀ w ∈ lw_tbl, w.before #[Value.ref b] s = true) (hK : va_K D vwCl (ab_tys cy) s) (hXs : gd_X adS (fun q => s.heap.size ≤ q) s) {M n idx ci k pc : Nat} {Cn : String} {T : u_T} {NF : Nat} (hM : ab_Iok gd_I uw M) (hd : decode code pc = .ok (.invokevirtual idx, 3)) (hcl : vwCl[ci]? = some (Cn, T, NF)) (hC0 : (i_y gd_I M).cls = Cn) (hlink : Cond.methodLink R_law idx (i_y gd_I M) ∈ uw) (hins : Cond.instanceMethod (i_y gd_I M) ∈ uw) (hsel : Cond.selects Cn (i_y gd_I M) (i_y gd_I M) ∈ uw) (hpar : (parseMethodDescriptor (i_y gd_I M).desc).map (fun d => d.parameters.length) = some n) (hnl : n + 1 ≤ i_n gd_I M) (hfr : i_f gd_I M + 1 ≤ 12) (hlo : 8 + (i_n gd_I M + 11) + i_l gd_I M ≤ 434) (hret : ∃ ty, i_r gd_I M = some ty) {o : Nat × List (Option Nat)} (hlk : gd_lay k = .inl o) (hci : o.1 = ci)
    {as : List Int32} (has : as.length = n) {rest : List Value} (hrest : (rest.map fun v => v.category).sum ≤ 8) {μ : ab_S} {ad : Nat → Nat} {ls : Array Slot} {H : Heap} {locs : List Loc} {cells slots : Nat} {Q : State → Prop} {Q' : ab_Q} {bb : ab_B}
    (hrun : gd_run M 0 (ab_init gd_I M (.inr k :: as.map .inl)) [] μ bb Q') (had : ∀ k, gd_N ≤ k → ad k = adS k) (hP : va_P D vwCl (ab_W gd_lay gd_N cy ad μ) H) (hD : va_D (fun q => s.heap.size ≤ q) (ab_W gd_lay gd_N cy ad μ)) (hS : va_S (fun q => s.heap.size ≤ q) s.heap H locs) (hl : ls.size = 4) (hc : cells + bb.1 ≤ 600000) (hs : slots + bb.2 ≤ 7302249)
    (kk : ∀ (v : Int32) (μ1 : ab_S) (ad1 : Nat → Nat) (H1 : Heap) (locs1 : List Loc), Q' (some v) μ1 → (∀ k, gd_mv k = false → ad1 k = ad k) → va_P D vwCl (ab_W gd_lay gd_N cy ad1 μ1) H1 → va_D (fun q => s.heap.size ≤ q) (ab_W gd_lay gd_N cy ad1 μ1) → va_S (fun q => s.heap.size ≤ q) s.heap H1 locs1 → W p l e room_1 s m #[Value.ref b] below meth c H1 locs1 (cells + bb.1) (slots + bb.2) Q (F0 m (pc + 3) ls (.int v :: rest))) :
    W p l e room_1 s m #[Value.ref b] below meth c H locs cells slots Q (F0 m pc ls ((as.map Value.int).reverse ++ .ref (ad k) :: rest)) := by
  obtain ⟨ty, hty⟩ := hret
  have hA : ∀ q : Nat, s.heap.size ≤ q → (fun q : Nat => s.heap.size ≤ q) q := fun _ h => h
  have hmet := gd_sound (l := l) (D := D) (cy := cy) (adS := adS) hrun (by rw [List.length_cons, List.length_map, has]; exact hnl) ad H.size had
  have he := ab_W_at (lay := gd_lay) (cy := cy) (ad := ad) (μ := μ) (ab_ltN gd_layok hlk)
  rw [ab_E, hlk] at he
  dsimp only at he
  rw [hci] at he
  have hrc := va_recv hK hP hcl he
  have hF := ab_free hD hS hA
  have em : (as.map Sum.inl).map (ab_cv ad) = as.map Value.int := by
    rw [List.map_map]
    rfl
  have hcb : CallB room_1 s #[Value.ref b] R_law idx (i_y gd_I M) (i_c gd_I M) (i_n gd_I M) (i_r gd_I M) (i_w gd_I M) (ab_rm gd_I M bb) bb.1 bb.2 n := callB_of n hts (ab_good uw_good uw_tbl hM.2.2.2.1 hM.1) hM.1 rfl rfl (hts _ (uw_tbl _ hM.2.2.2.2)) (hts _ (uw_tbl _ hlink)) ⟨hM.2.2.1.1, hM.2.2.1.2, hpar⟩ ⟨hfr, hlo⟩
  have hr2 := va_runV (C := Cn) (b := ad k) (meth := meth) (rest := rest) (As := (as.map Sum.inl).map (ab_cv ad)) (cells := cells) (slots := slots) (g := F0 m pc ls ((as.map Value.int).reverse ++ .ref (ad k) :: rest)) (locs := locs) (below := below) (e := e) (R := room_1) (n := n) ⟨hx, hb, hml, hown, hts⟩ hmet ⟨hcb, hts _ (uw_tbl _ hins), hts _ (uw_tbl _ hsel)⟩ ⟨ab_blind gx_ok, hrc, fun U hU hW => ab_pre gx_ok hXs hA hK hP hD hS hU hW⟩ rfl (by rw [List.length_map, List.length_map]; exact has) hl (by rw [em]) (lv_room hrest) hd ⟨hc, hs⟩
  rw [hty] at hr2
  refine va_calli (a := (Value.ref (ad k) :: (as.map Sum.inl).map (ab_cv ad)).toArray) hr2 hS (fun q _ h => hF q h) hF (fun r u t H1 locs1 ht hvm hw hB _ _ hS1 => ?_)
  obtain ⟨g1, g2, g3, g4⟩ := hB
  rw [ht] at g2
  exact kk r u.1 u.2 H1 locs1 hw g1 g2 (g4.weaken (fun _ q _ h => hF q.1 h)) hS1
end LW
