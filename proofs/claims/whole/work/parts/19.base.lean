theorem u_rd (μ : ab_S) (c j : Nat) (x : Int32) (d : Nat) : (ab_up μ c j x).1 d = if d = c then upd (μ.1 c) j x else μ.1 d := rfl
theorem u_2 (μ : ab_S) (c j : Nat) (x : Int32) : (ab_up μ c j x).2 = μ.2 := rfl
theorem u_at (f : Nat → Int32) (k : Nat) (x : Int32) (j : Nat) : upd f k x j = if j = k then x else f j := rfl
theorem b_res (x : Int32) (st : List ab_V) : ab_res (some x) st = .inl x :: st := rfl
theorem b_resN (st : List ab_V) : ab_res none st = st := rfl
theorem b_nm0 : ab_nm gd_mv [] = true := rfl
theorem b_nm1 (ls : ab_L) : ab_nm gd_mv (none :: ls) = ab_nm gd_mv ls := rfl
theorem b_nm2 (x : Int32) (ls : ab_L) : ab_nm gd_mv (some (.inl x) :: ls) = ab_nm gd_mv ls := rfl
theorem b_ns0 : ab_nmS gd_mv [] = true := rfl
theorem b_ns1 (x : Int32) (st : List ab_V) : ab_nmS gd_mv (.inl x :: st) = ab_nmS gd_mv st := rfl
theorem b01_0 : ((0 : Int32) = 0 ∨ (0 : Int32) = 1) = True := by simp
theorem b01_1 : ((1 : Int32) = 0 ∨ (1 : Int32) = 1) = True := by simp
theorem i10 : ((1 : Int32) = 0) = False := by decide
theorem b_l0 : Nat.ble ([] : List ab_V).length 8 = true := rfl
theorem b_l1 (a : ab_V) : Nat.ble [a].length 8 = true := rfl
theorem b_l2 (a b : ab_V) : Nat.ble [a, b].length 8 = true := rfl
theorem b_l3 (a b c : ab_V) : Nat.ble [a, b, c].length 8 = true := rfl
theorem b_l4 (a b c d : ab_V) : Nat.ble [a, b, c, d].length 8 = true := rfl
theorem b_l5 (a b c d e : ab_V) : Nat.ble [a, b, c, d, e].length 8 = true := rfl
theorem b_l6 (a b c d e f : ab_V) : Nat.ble [a, b, c, d, e, f].length 8 = true := rfl
theorem b_nm3_0 (ls : ab_L) : ab_nm gd_mv (some (.inr 0) :: ls) = ab_nm gd_mv ls := rfl
theorem b_nm3_1 (ls : ab_L) : ab_nm gd_mv (some (.inr 1) :: ls) = ab_nm gd_mv ls := rfl
theorem b_nm3_2 (ls : ab_L) : ab_nm gd_mv (some (.inr 2) :: ls) = ab_nm gd_mv ls := rfl
theorem b_nm3_3 (ls : ab_L) : ab_nm gd_mv (some (.inr 3) :: ls) = ab_nm gd_mv ls := rfl
theorem b_nm3_4 (ls : ab_L) : ab_nm gd_mv (some (.inr 4) :: ls) = ab_nm gd_mv ls := rfl
theorem b_nm3_5 (ls : ab_L) : ab_nm gd_mv (some (.inr 5) :: ls) = ab_nm gd_mv ls := rfl
theorem b_nm3_6 (ls : ab_L) : ab_nm gd_mv (some (.inr 6) :: ls) = ab_nm gd_mv ls := rfl
theorem b_nm3_7 (ls : ab_L) : ab_nm gd_mv (some (.inr 7) :: ls) = ab_nm gd_mv ls := rfl
theorem b_nm3_8 (ls : ab_L) : ab_nm gd_mv (some (.inr 8) :: ls) = ab_nm gd_mv ls := rfl
theorem b_nm3_9 (ls : ab_L) : ab_nm gd_mv (some (.inr 9) :: ls) = ab_nm gd_mv ls := rfl
theorem b_nm3_10 (ls : ab_L) : ab_nm gd_mv (some (.inr 10) :: ls) = ab_nm gd_mv ls := rfl
theorem b_nm3_11 (ls : ab_L) : ab_nm gd_mv (some (.inr 11) :: ls) = ab_nm gd_mv ls := rfl
theorem b_nm3_100 (ls : ab_L) : ab_nm gd_mv (some (.inr 100) :: ls) = ab_nm gd_mv ls := rfl
theorem b_nm3_101 (ls : ab_L) : ab_nm gd_mv (some (.inr 101) :: ls) = ab_nm gd_mv ls := rfl
theorem b_nm3_102 (ls : ab_L) : ab_nm gd_mv (some (.inr 102) :: ls) = ab_nm gd_mv ls := rfl
theorem b_nm3_200 (ls : ab_L) : ab_nm gd_mv (some (.inr 200) :: ls) = ab_nm gd_mv ls := rfl
theorem b_nm3_201 (ls : ab_L) : ab_nm gd_mv (some (.inr 201) :: ls) = ab_nm gd_mv ls := rfl
theorem b_nm3_202 (ls : ab_L) : ab_nm gd_mv (some (.inr 202) :: ls) = ab_nm gd_mv ls := rfl
theorem b_nm3_203 (ls : ab_L) : ab_nm gd_mv (some (.inr 203) :: ls) = ab_nm gd_mv ls := rfl
theorem b_nm3_204 (ls : ab_L) : ab_nm gd_mv (some (.inr 204) :: ls) = ab_nm gd_mv ls := rfl
theorem b_nm3_205 (ls : ab_L) : ab_nm gd_mv (some (.inr 205) :: ls) = ab_nm gd_mv ls := rfl
theorem b_nm3_206 (ls : ab_L) : ab_nm gd_mv (some (.inr 206) :: ls) = ab_nm gd_mv ls := rfl
theorem b_nm3_207 (ls : ab_L) : ab_nm gd_mv (some (.inr 207) :: ls) = ab_nm gd_mv ls := rfl
theorem b_nm3_208 (ls : ab_L) : ab_nm gd_mv (some (.inr 208) :: ls) = ab_nm gd_mv ls := rfl
theorem b_ns2_0 (st : List ab_V) : ab_nmS gd_mv (.inr 0 :: st) = ab_nmS gd_mv st := rfl
theorem b_ns2_1 (st : List ab_V) : ab_nmS gd_mv (.inr 1 :: st) = ab_nmS gd_mv st := rfl
theorem b_ns2_2 (st : List ab_V) : ab_nmS gd_mv (.inr 2 :: st) = ab_nmS gd_mv st := rfl
theorem b_ns2_3 (st : List ab_V) : ab_nmS gd_mv (.inr 3 :: st) = ab_nmS gd_mv st := rfl
theorem b_ns2_4 (st : List ab_V) : ab_nmS gd_mv (.inr 4 :: st) = ab_nmS gd_mv st := rfl
theorem b_ns2_5 (st : List ab_V) : ab_nmS gd_mv (.inr 5 :: st) = ab_nmS gd_mv st := rfl
theorem b_ns2_6 (st : List ab_V) : ab_nmS gd_mv (.inr 6 :: st) = ab_nmS gd_mv st := rfl
theorem b_ns2_7 (st : List ab_V) : ab_nmS gd_mv (.inr 7 :: st) = ab_nmS gd_mv st := rfl
theorem b_ns2_8 (st : List ab_V) : ab_nmS gd_mv (.inr 8 :: st) = ab_nmS gd_mv st := rfl
theorem b_ns2_9 (st : List ab_V) : ab_nmS gd_mv (.inr 9 :: st) = ab_nmS gd_mv st := rfl
theorem b_ns2_10 (st : List ab_V) : ab_nmS gd_mv (.inr 10 :: st) = ab_nmS gd_mv st := rfl
theorem b_ns2_11 (st : List ab_V) : ab_nmS gd_mv (.inr 11 :: st) = ab_nmS gd_mv st := rfl
