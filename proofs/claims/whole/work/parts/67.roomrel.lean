/-! the reference's room is the class's -/
def apM (o : Ob) (a b j : Nat) : Int64 := (oA o 23 (25 * b + j) - oA o 23 (25 * a + j)).toInt64
def tdM (o : Ob) (a b j : Nat) : Int32 := if oA o 24 (25 * a + j) = 0 ∨ oA o 24 (25 * b + j) = 0 then 0 else 1
def tmM (o : Ob) (a b j : Nat) : Int64 := if tdM o a b j = 0 ∨ tdM o a b (j + 1) = 0 ∨ tdM o a b (j + 5) = 0 ∨ tdM o a b (j + 6) = 0 then 0 else 2 * apM o a b j + apM o a b (j + 1) + apM o a b (j + 5) + 2 * apM o a b (j + 6)
def sixM (o : Ob) (a b : Nat) : Nat → Int64
  | 0 => 0
  | y + 1 => ac (fun x => tmM o a b (5 * y + x)) (sixM o a b y) 4
/-- heights told lie within 100 metres -/
def xSv (σ : Xs) : Prop := ∀ k, k < xSc σ → ∀ j, j < 25 → -100000 ≤ (oA (xS σ k) 0 j).toInt ∧ (oA (xS σ k) 0 j).toInt ≤ 100000
def bdd (x : Int64) (K : Int) : Prop := -K ≤ x.toInt ∧ x.toInt ≤ K
theorem bm {x : Int} (h : -9223372036854775808 ≤ x) (h2 : x < 9223372036854775808) : x.bmod (2 ^ 64) = x := Int.bmod_eq_of_le (by omega) (by omega)
theorem bdd_add {x y : Int64} {K L : Int} (hx : bdd x K) (hy : bdd y L) (h : K + L < 9223372036854775808) : bdd (x + y) (K + L) ∧ (x + y).toInt = x.toInt + y.toInt := by
  have e : (x + y).toInt = x.toInt + y.toInt := by
    rw [Int64.toInt_add]
    exact bm (by have := hx.1; have := hy.1; omega) (by have := hx.2; have := hy.2; omega)
  exact ⟨⟨by rw [e]; have := hx.1; have := hy.1; omega, by rw [e]; have := hx.2; have := hy.2; omega⟩, e⟩
theorem bdd_sub {x y : Int64} {K L : Int} (hx : bdd x K) (hy : bdd y L) (h : K + L < 9223372036854775808) : bdd (x - y) (K + L) ∧ (x - y).toInt = x.toInt - y.toInt := by
  have e : (x - y).toInt = x.toInt - y.toInt := by
    rw [Int64.toInt_sub]
    exact bm (by have := hx.1; have := hy.2; omega) (by have := hx.2; have := hy.1; omega)
  exact ⟨⟨by rw [e]; have := hx.1; have := hy.2; omega, by rw [e]; have := hx.2; have := hy.1; omega⟩, e⟩
theorem bdd_mul {x y : Int64} {K L : Int} (hx : bdd x K) (hy : 0 ≤ y.toInt ∧ y.toInt ≤ L) (hK : 0 ≤ K) (h : K * L < 9223372036854775808) : bdd (x * y) (K * L) := by
  have h1 : x.toInt * y.toInt ≤ K * L := by
    rcases Int.le_total 0 x.toInt with q | q
    · exact Int.mul_le_mul hx.2 hy.2 hy.1 hK
    · have := Int.mul_nonneg hK (Int.le_trans hy.1 hy.2)
      have h4 : 0 ≤ (-x.toInt) * y.toInt := Int.mul_nonneg (by omega) hy.1
      rw [Int.neg_mul] at h4
      omega
  have h2 : -(K * L) ≤ x.toInt * y.toInt := by
    rcases Int.le_total 0 x.toInt with q | q
    · have := Int.mul_nonneg q hy.1
      have := Int.mul_nonneg hK (Int.le_trans hy.1 hy.2)
      omega
    · have h3 : (-x.toInt) * y.toInt ≤ K * L := Int.mul_le_mul (by have := hx.1; omega) hy.2 hy.1 hK
      rw [Int.neg_mul] at h3
      omega
  have e : (x * y).toInt = x.toInt * y.toInt := by
    rw [Int64.toInt_mul]
    exact bm (by omega) (by omega)
  exact ⟨by rw [e]; exact h2, by rw [e]; exact h1⟩
theorem bdd.le {x : Int64} {K L : Int} (h : bdd x K) (hl : K ≤ L) : bdd x L := ⟨by have := h.1; omega, by have := h.2; omega⟩
theorem absN_lt {n : Int64} (hn : -9223372036854775808 < n.toInt) : n.toInt.natAbs < 2 ^ 63 := by
  have := n.toInt_lt
  omega
theorem absN_p {n : Int64} (c : 0 ≤ n) : n = lN n.toInt.natAbs := by
  obtain ⟨k, hk, rfl⟩ := pk_lOf (Int64.not_lt.mpr c)
  rw [pk_lT hk]; rfl
theorem absN_n {n : Int64} (hn : -9223372036854775808 < n.toInt) (c : ¬ 0 ≤ n) : -n = lN n.toInt.natAbs := by
  apply Int64.toInt_inj.mp
  have h1 := n.toInt_lt
  have h2 : n.toInt < 0 := by
    have := Int64.lt_iff_toInt_lt.mp (Int64.not_le.mp c)
    simpa using this
  rw [pk_lT (absN_lt hn), Int64.toInt_neg, bm (by omega) (by omega)]
  omega
theorem gc_nz {n : Nat} : ¬ lN (Nat.gcd n 6) = 0 := by
  intro h
  have h1 : Nat.gcd n 6 ≤ 6 := Nat.gcd_le_right _ (by omega)
  have h2 : 0 < Nat.gcd n 6 := Nat.gcd_pos_of_pos_right _ (by omega)
  have := (pk_lEQ (by omega) (by omega)).mp (show lN (Nat.gcd n 6) = lN 0 from h)
  omega
theorem rem0 {n d : Int64} {k : Nat} (h : bdd n 1000000000000) (hd : d.toInt = (k : Int)) (hk : 2 ≤ k ∧ k ≤ 6) : n - n / d * d = 0 ↔ n.toInt.natAbs % k = 0 := by
  have e0 : (n.toInt.tdiv k).natAbs ≤ n.toInt.natAbs := Int.natAbs_tdiv_le_natAbs _ _
  have e1 : (n / d).toInt = n.toInt.tdiv k := by
    rw [Int64.toInt_div, hd]
    exact bm (by have := h.1; have := h.2; omega) (by have := h.1; have := h.2; omega)
  have e2 : (n / d * d).toInt = n.toInt.tdiv k * k := by
    rw [Int64.toInt_mul, e1, hd]
    rcases (show k = 2 ∨ k = 3 ∨ k = 4 ∨ k = 5 ∨ k = 6 by omega) with rfl | rfl | rfl | rfl | rfl <;> exact bm (by have := h.1; have := h.2; omega) (by have := h.1; have := h.2; omega)
  have e3 : (n - n / d * d).toInt = n.toInt.tmod k := by
    rw [Int64.toInt_sub, e2, Int.tmod_def, Int.mul_comm (k : Int)]
    rcases (show k = 2 ∨ k = 3 ∨ k = 4 ∨ k = 5 ∨ k = 6 by omega) with rfl | rfl | rfl | rfl | rfl <;> exact bm (by have := h.1; have := h.2; omega) (by have := h.1; have := h.2; omega)
  rw [← Int64.toInt_inj, e3, show (0 : Int64).toInt = 0 from rfl, ← Int.dvd_iff_tmod_eq_zero, Int.ofNat_dvd_left, Nat.dvd_iff_mod_eq_zero]
theorem sh_gcd {n : Int64} (h : bdd n 1000000000000) : lN (Nat.gcd n.toInt.natAbs 6) = shF n := by
  have h2 := rem0 (d := 2) (k := 2) h rfl (by omega)
  have h3 := rem0 (d := 3) (k := 3) h rfl (by omega)
  have e1 : Nat.gcd n.toInt.natAbs 6 = Nat.gcd (n.toInt.natAbs % 6) 6 := by rw [Nat.gcd_comm, Nat.gcd_rec]
  rw [e1]
  unfold shF
  rcases (show n.toInt.natAbs % 6 = 0 ∨ n.toInt.natAbs % 6 = 1 ∨ n.toInt.natAbs % 6 = 2 ∨ n.toInt.natAbs % 6 = 3 ∨ n.toInt.natAbs % 6 = 4 ∨ n.toInt.natAbs % 6 = 5 by omega) with q | q | q | q | q | q <;> rw [q]
  · rw [if_pos (h2.mpr (by omega)), if_pos (h3.mpr (by omega))]; rfl
  · rw [if_neg (fun z => absurd (h2.mp z) (by omega)), if_neg (fun z => absurd (h3.mp z) (by omega))]; rfl
  · rw [if_pos (h2.mpr (by omega)), if_neg (fun z => absurd (h3.mp z) (by omega))]; rfl
  · rw [if_neg (fun z => absurd (h2.mp z) (by omega)), if_pos (h3.mpr (by omega))]; rfl
  · rw [if_pos (h2.mpr (by omega)), if_neg (fun z => absurd (h3.mp z) (by omega))]; rfl
  · rw [if_neg (fun z => absurd (h2.mp z) (by omega)), if_neg (fun z => absurd (h3.mp z) (by omega))]; rfl
section RR
variable {σ : Xs} {o : Ob} {a b : Nat}
theorem td_eq (hQ : Srel σ o) (ha : a < xSc σ) (hb : b < xSc σ) {x y : Nat} (hx : x < 5) (hy : y < 5) : tdM o a b (5 * y + x) = ibF (xS σ a) (xS σ b) (x * 5 + y) := by
  unfold tdM ibF
  rw [(hQ.2.1 a ha x hx y hy).2, (hQ.2.1 b hb x hx y hy).2]
theorem ri_bd (hSv : xSv σ) (ha : a < xSc σ) (hb : b < xSc σ) {j : Nat} (hj : j < 25) : bdd (riF (xS σ a) (xS σ b) j) 200000 ∧ (riF (xS σ a) (xS σ b) j).toInt = (oA (xS σ b) 0 j).toInt - (oA (xS σ a) 0 j).toInt := by
  have h1 : bdd (oA (xS σ a) 0 j).toInt64 100000 := by unfold bdd; rw [i2l_toInt]; exact hSv a ha j hj
  have h2 : bdd (oA (xS σ b) 0 j).toInt64 100000 := by unfold bdd; rw [i2l_toInt]; exact hSv b hb j hj
  have := bdd_sub h2 h1 (by omega)
  rw [i2l_toInt, i2l_toInt] at this
  exact this
theorem ap_eq (hQ : Srel σ o) (hSv : xSv σ) (ha : a < xSc σ) (hb : b < xSc σ) {x y : Nat} (hx : x < 5) (hy : y < 5) : apM o a b (5 * y + x) = riF (xS σ a) (xS σ b) (x * 5 + y) := by
  apply Int64.toInt_inj.mp
  rw [(ri_bd hSv ha hb (show x * 5 + y < 25 by omega)).2]
  unfold apM
  rw [(hQ.2.1 a ha x hx y hy).1, (hQ.2.1 b hb x hx y hy).1, i2l_toInt, Int32.toInt_sub]
  have h1 := hSv a ha (x * 5 + y) (by omega)
  have h2 := hSv b hb (x * 5 + y) (by omega)
  exact Int.bmod_eq_of_le (by omega) (by omega)
theorem tm_eq (hQ : Srel σ o) (hSv : xSv σ) (ha : a < xSc σ) (hb : b < xSc σ) {x y : Nat} (hx : x < 4) (hy : y < 4) : tmM o a b (5 * y + x) = sqF (xS σ a) (xS σ b) (x * 5 + y) := by
  unfold tmM sqF
  rw [show 5 * y + x + 1 = 5 * y + (x + 1) by omega, show 5 * y + x + 5 = 5 * (y + 1) + x by omega, show 5 * y + x + 6 = 5 * (y + 1) + (x + 1) by omega, show x * 5 + y + 5 = (x + 1) * 5 + y by omega, show x * 5 + y + 1 = x * 5 + (y + 1) by omega, show x * 5 + y + 6 = (x + 1) * 5 + (y + 1) by omega]
  rw [td_eq hQ ha hb (show x < 5 by omega) (show y < 5 by omega), td_eq hQ ha hb (show x + 1 < 5 by omega) (show y < 5 by omega), td_eq hQ ha hb (show x < 5 by omega) (show y + 1 < 5 by omega), td_eq hQ ha hb (show x + 1 < 5 by omega) (show y + 1 < 5 by omega)]
  rw [ap_eq hQ hSv ha hb (show x < 5 by omega) (show y < 5 by omega), ap_eq hQ hSv ha hb (show x + 1 < 5 by omega) (show y < 5 by omega), ap_eq hQ hSv ha hb (show x < 5 by omega) (show y + 1 < 5 by omega), ap_eq hQ hSv ha hb (show x + 1 < 5 by omega) (show y + 1 < 5 by omega)]
  congr 1
  rw [Int64.mul_add]
  ac_rfl
theorem six_eq (hQ : Srel σ o) (hSv : xSv σ) (ha : a < xSc σ) (hb : b < xSc σ) : sixM o a b 4 = sixF (xS σ a) (xS σ b) 4 := by
  simp only [sixM, sixF, ac]
  rw [tm_eq hQ hSv ha hb (x := 0) (y := 0) (by omega) (by omega), tm_eq hQ hSv ha hb (x := 1) (y := 0) (by omega) (by omega), tm_eq hQ hSv ha hb (x := 2) (y := 0) (by omega) (by omega), tm_eq hQ hSv ha hb (x := 3) (y := 0) (by omega) (by omega)]
  rw [tm_eq hQ hSv ha hb (x := 0) (y := 1) (by omega) (by omega), tm_eq hQ hSv ha hb (x := 1) (y := 1) (by omega) (by omega), tm_eq hQ hSv ha hb (x := 2) (y := 1) (by omega) (by omega), tm_eq hQ hSv ha hb (x := 3) (y := 1) (by omega) (by omega)]
  rw [tm_eq hQ hSv ha hb (x := 0) (y := 2) (by omega) (by omega), tm_eq hQ hSv ha hb (x := 1) (y := 2) (by omega) (by omega), tm_eq hQ hSv ha hb (x := 2) (y := 2) (by omega) (by omega), tm_eq hQ hSv ha hb (x := 3) (y := 2) (by omega) (by omega)]
  rw [tm_eq hQ hSv ha hb (x := 0) (y := 3) (by omega) (by omega), tm_eq hQ hSv ha hb (x := 1) (y := 3) (by omega) (by omega), tm_eq hQ hSv ha hb (x := 2) (y := 3) (by omega) (by omega), tm_eq hQ hSv ha hb (x := 3) (y := 3) (by omega) (by omega)]
  ac_rfl
theorem two_bd {x : Int64} {K : Int} (h : bdd x K) (hK : K < 1000000000) : bdd (2 * x) (K + K) := by
  rw [show (2 : Int64) = 1 + 1 from rfl, Int64.add_mul, Int64.one_mul]
  exact (bdd_add h h (by omega)).1
theorem sq_bd (hSv : xSv σ) (ha : a < xSc σ) (hb : b < xSc σ) {x y : Nat} (hx : x < 4) (hy : y < 4) : bdd (sqF (xS σ a) (xS σ b) (x * 5 + y)) 1200000 := by
  unfold sqF
  split
  · exact ⟨by decide, by decide⟩
  · have h1 := (ri_bd hSv ha hb (show x * 5 + y < 25 by omega)).1
    have h2 := (ri_bd hSv ha hb (show x * 5 + y + 6 < 25 by omega)).1
    have h3 := (ri_bd hSv ha hb (show x * 5 + y + 5 < 25 by omega)).1
    have h4 := (ri_bd hSv ha hb (show x * 5 + y + 1 < 25 by omega)).1
    exact (bdd_add (bdd_add (two_bd (bdd_add h1 h2 (by omega)).1 (by omega)) h3 (by omega)).1 h4 (by omega)).1.le (by omega)
theorem ac_bd {g : Nat → Int64} {z : Int64} {K : Int} (hz : bdd z K) (hK : K < 1000000000) (hK0 : 0 ≤ K) {n : Nat} (hn : n ≤ 4) (hg : ∀ i, i < 4 → bdd (g i) 1200000) : bdd (ac g z n) (K + 1200000 * n) := by
  induction n with
  | zero => exact hz.le (by omega)
  | succ n ih => exact (bdd_add (ih (by omega)) (hg n (by omega)) (by omega)).1.le (by omega)
theorem six_bd (hSv : xSv σ) (ha : a < xSc σ) (hb : b < xSc σ) {n : Nat} (hn : n ≤ 4) : bdd (sixF (xS σ a) (xS σ b) n) (4800000 * n) := by
  induction n with
  | zero => exact (show bdd (0 : Int64) 0 from ⟨by decide, by decide⟩)
  | succ n ih => exact (ac_bd (ih (by omega)) (by omega) (by omega) (Nat.le_refl 4) (fun y hy => sq_bd hSv ha hb (by omega) hy)).le (by omega)
theorem ov_bd (hR : xR σ) (hQ : Rl σ o) (hSv : xSv σ) (ha : a < xSc σ) (hb : b < xSc σ) : bdd (sixM o a b 4 * (oI o 1).toInt64 * (oI o 1).toInt64) 1000000000000 := by
  obtain ⟨w, hw1, hw2, hw⟩ := hR.2.2.2.2
  have e : 0 ≤ (oI o 1).toInt64.toInt ∧ (oI o 1).toInt64.toInt ≤ 100 := by
    rw [hQ.2.2.2.1, hw, i2l_toInt, nI_toInt (by omega)]
    omega
  rw [six_eq hQ.2.2.2.2.2.1 hSv ha hb]
  exact (bdd_mul (bdd_mul (six_bd hSv ha hb (Nat.le_refl 4)) e (by omega) (by omega)) e (by omega) (by omega)).le (by omega)
theorem ov_gt (hR : xR σ) (hQ : Rl σ o) (hSv : xSv σ) (ha : a < xSc σ) (hb : b < xSc σ) : -9223372036854775808 < (sixM o a b 4 * (oI o 1).toInt64 * (oI o 1).toInt64).toInt := by
  have := (ov_bd hR hQ hSv ha hb).1
  omega
theorem rm_n (hR : xR σ) (hQ : Rl σ o) (hSv : xSv σ) (ha : a < xSc σ) (hb : b < xSc σ) {part : Int32} (h : ¬ part = 0) : (6 : Int64) / lN (Nat.gcd (sixM o a b 4 * (oI o 1).toInt64 * (oI o 1).toInt64).toInt.natAbs 6) = rmF σ a b part := by
  rw [sh_gcd (ov_bd hR hQ hSv ha hb), six_eq hQ.2.2.2.2.2.1 hSv ha hb, hQ.2.2.2.1]
  unfold rmF
  rw [if_neg h]
theorem rm_y (hR : xR σ) (hQ : Rl σ o) (hSv : xSv σ) (ha : a < xSc σ) (hb : b < xSc σ) {part : Int32} (h : part = 0) : (sixM o a b 4 * (oI o 1).toInt64 * (oI o 1).toInt64) / lN (Nat.gcd (sixM o a b 4 * (oI o 1).toInt64 * (oI o 1).toInt64).toInt.natAbs 6) = rmF σ a b part := by
  rw [sh_gcd (ov_bd hR hQ hSv ha hb), six_eq hQ.2.2.2.2.2.1 hSv ha hb, hQ.2.2.2.1]
  unfold rmF
  rw [if_pos h]
end RR
