-- the relation between the class's cells and the reference's, part by part
def pu_sum (f : Nat → Int) : Nat → Int
  | 0 => 0
  | n + 1 => pu_sum f n + f n
def pu_cnt (f : Nat → Bool) : Nat → Nat
  | 0 => 0
  | n + 1 => pu_cnt f n + (if f n then 1 else 0)
def R_tape (len : Int32) (by_ : Nat → Int32) (len' : Int32) (tp : Nat → Int32) : Prop := ∃ n : Nat, n ≤ 200 ∧ len = nI n ∧ len' = nI n ∧ ∀ j, j < n → ∃ v : Nat, v < 256 ∧ by_ j = nI v ∧ tp j = (nI v).toInt8.toInt32
def R_laws (T : Nat) (sz : Int32) (val mon kn : Nat → Int32) (sz' : Int32) (fr kn' nb : Nat → Int32) : Prop := ∃ n : Nat, n ≤ 8 ∧ sz = nI n ∧ sz' = nI n ∧ ∀ j, j < n → mon j = fr j ∧ kn j = kn' j ∧ 0 ≤ (mon j).toInt ∧ (mon j).toInt ≤ 119 ∧ 0 ≤ (kn j).toInt ∧ (kn j).toInt ≤ T ∧ ∀ w, w < 10 → val (10 * j + w) = nb (12 * j + w) ∧ (gd_t101.getD w 0).toInt ≤ (val (10 * j + w)).toInt ∧ (val (10 * j + w)).toInt ≤ (gd_t102.getD w 0).toInt
def R_ent (kd pl ci rk two three : Int32) : Prop :=
  (kd = 0 ∧ 0 ≤ pl.toInt ∧ pl.toInt < 30 ∧ ci = two ∧ 0 ≤ ci.toInt ∧ ci.toInt < 100 ∧ rk = three ∧ 0 ≤ rk.toInt ∧ rk.toInt < 4) ∨ (kd = 1 ∧ ci = pl ∧ 0 ≤ pl.toInt ∧ pl.toInt < 100) ∨ (kd = 2 ∧ 0 ≤ pl.toInt ∧ pl.toInt < 30 ∧ ci = two ∧ 0 ≤ ci.toInt ∧ ci.toInt < 100) ∨ (kd = 3 ∧ 0 ≤ pl.toInt ∧ pl.toInt < 30)
def or_lt (mo : Nat → Int32) (a c : Nat) : Prop := (mo a).toInt < (mo c).toInt ∨ ((mo a).toInt = (mo c).toInt ∧ a < c)
def R_ord (n : Nat) (mo od : Nat → Int32) : Prop := ∃ o : Nat → Nat, (∀ i, i < n → o i < n ∧ od i = nI (o i)) ∧ (∀ e, e < n → ∃ i, i < n ∧ o i = e) ∧ ∀ i k, i < k → k < n → or_lt mo (o i) (o k)
def R_roll (T : Nat) (sz : Int32) (kd mo pl ci rk kn od : Nat → Int32) (sz' : Int32) (kd' mo' one two three kn' : Nat → Int32) : Prop := ∃ n : Nat, n ≤ 150 ∧ sz = nI n ∧ sz' = nI n ∧ (∀ j, j < n → kd j = kd' j ∧ mo j = mo' j ∧ kn j = kn' j ∧ pl j = one j ∧ 0 ≤ (mo j).toInt ∧ (mo j).toInt ≤ (kn j).toInt ∧ (kn j).toInt ≤ T ∧ (kn j).toInt ≤ 119 ∧ R_ent (kd j) (pl j) (ci j) (rk j) (two j) (three j)) ∧ R_ord n mo od
def R_fleet (sz : Int32) (con mon : Nat → Int32) (sz' : Int32) (con' mon' : Nat → Int32) : Prop := ∃ n : Nat, n ≤ 30 ∧ sz = nI n ∧ sz' = nI n ∧ ∀ j, j < n → con j = con' j ∧ mon j = mon' j ∧ 1 ≤ (con j).toInt ∧ (con j).toInt ≤ 3000 ∧ 0 ≤ (mon j).toInt ∧ (mon j).toInt ≤ 119
def R_stores (T : Nat) (sz : Int32) (rooms lying sh gr mo la re th da : Nat → Int32) (sz' : Int32) (room' sh' gr' mo' la' re' th' da' : Nat → Int32) : Prop := ∃ n : Nat, n ≤ 100 ∧ sz = nI n ∧ sz' = nI n ∧ (∀ g : Nat, g < 4 → rooms g = room' g ∧ (rooms g).toInt ≤ 5000 ∧ (lying g).toInt = pu_sum (fun j => if (gr j).toInt = g then (re j).toInt else 0) n ∧ (lying g).toInt ≤ (rooms g).toInt) ∧ ∀ j, j < n → sh j = sh' j ∧ gr j = gr' j ∧ mo j = mo' j ∧ la j = la' j ∧ re j = re' j ∧ th j = th' j ∧ da j = da' j ∧ 0 ≤ (gr j).toInt ∧ (gr j).toInt ≤ 3 ∧ 0 ≤ (mo j).toInt ∧ (mo j).toInt ≤ T ∧ (mo j).toInt ≤ 119 ∧ 1 ≤ (la j).toInt ∧ (la j).toInt ≤ 3000 ∧ 0 ≤ (re j).toInt ∧ (re j).toInt ≤ (la j).toInt ∧ (da j = 0 ∨ da j = 1)
def R_tok (sw shn fr sw' shn' fr' : Nat → Int32) : Prop := (∀ p, p < 30 → sw p = sw' p ∧ (sw p = 0 ∨ sw p = 1) ∧ (shn p = 0 ∨ shn p = 1) ∧ (shn' (2 * p) = 0 ∨ shn' (2 * p) = 1) ∧ (shn' (2 * p + 1) = 0 ∨ shn' (2 * p + 1) = 1) ∧ (shn p = 1 ↔ shn' (2 * p) = 1 ∨ shn' (2 * p + 1) = 1)) ∧ ∀ g, g < 4 → fr g = fr' g
def R_led (T L : Nat) (lsz : Int32) (re : Nat → Int32) (sz : Int32) (facts ends pl ci lo me : Nat → Int32) (sz' : Int32) (mn gv gt tf tl tp tm : Nat → Int32) : Prop := ∃ (ng : Nat) (e : Nat → Nat), sz = nI ng ∧ sz' = nI ng ∧ ng ≤ L ∧ (∀ nl : Nat, lsz = nI nl → nl ≤ 100 → ng ≤ 30 * T + pu_cnt (fun j => decide (re j = 0)) nl) ∧ e 0 = 0 ∧ e T = ng ∧ (∀ m, m ≤ T → tf m = nI (e m)) ∧ ∀ m, m < T → e m ≤ e (m + 1) ∧ ends m = nI (e (m + 1)) ∧ (∀ w, w < 6 → facts (6 * m + w) = mn (6 * m + w)) ∧ (∀ k, e m ≤ k → k < e (m + 1) → pl k = tp k ∧ lo k = tl k ∧ me k = tm k ∧ 0 ≤ (pl k).toInt ∧ (pl k).toInt < 30 ∧ 1 ≤ (me k).toInt ∧ (me k).toInt ≤ 3000 ∧ ci k = gt (30 * m + (pl k).toInt.toNat) ∧ 0 ≤ (lo k).toInt) ∧ ∀ p, p < 30 → (gv (30 * m + p)).toInt = pu_sum (fun i => if (pl (e m + i)).toInt = p then (me (e m + i)).toInt else 0) (e (m + 1) - e m) ∧ 0 ≤ (gv (30 * m + p)).toInt ∧ (gv (30 * m + p)).toInt ≤ 50
def gd_rel (T : Nat) (μ : ab_S) : Prop := T ≤ 120 ∧ μ.1 0 10 = nI T ∧ μ.1 11 0 = nI T ∧ ∃ L : Nat, (∃ i, i ≤ 7 ∧ L = 32 * 2 ^ i) ∧ μ.2 = gd_ln L ∧
  R_tape (μ.1 1 1) (μ.1 12) (μ.1 11 2) (μ.1 51) ∧
  R_laws T (μ.1 3 3) (μ.1 15) (μ.1 16) (μ.1 17) (μ.1 11 3) (μ.1 52) (μ.1 53) (μ.1 54) ∧
  R_roll T (μ.1 4 7) (μ.1 18) (μ.1 19) (μ.1 20) (μ.1 21) (μ.1 22) (μ.1 23) (μ.1 24) (μ.1 11 7) (μ.1 55) (μ.1 56) (μ.1 57) (μ.1 58) (μ.1 59) (μ.1 60) ∧
  R_fleet (μ.1 6 2) (μ.1 30) (μ.1 31) (μ.1 11 14) (μ.1 61) (μ.1 62) ∧
  R_stores T (μ.1 7 9) (μ.1 32) (μ.1 33) (μ.1 34) (μ.1 35) (μ.1 36) (μ.1 37) (μ.1 38) (μ.1 39) (μ.1 40) (μ.1 11 18) (μ.1 63) (μ.1 64) (μ.1 65) (μ.1 66) (μ.1 67) (μ.1 68) (μ.1 69) (μ.1 70) ∧
  R_tok (μ.1 41) (μ.1 42) (μ.1 43) (μ.1 71) (μ.1 72) (μ.1 73) ∧
  R_led T L (μ.1 7 9) (μ.1 38) (μ.1 9 6) (μ.1 44) (μ.1 45) (μ.1 46) (μ.1 47) (μ.1 48) (μ.1 49) (μ.1 11 32) (μ.1 74) (μ.1 75) (μ.1 76) (μ.1 77) (μ.1 78) (μ.1 79) (μ.1 80)
