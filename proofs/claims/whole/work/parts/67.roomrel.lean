/-! the reference's room is the class's -/
def apM (o : Ob) (a b j : Nat) : Int64 := (oA o 23 (25 * b + j) - oA o 23 (25 * a + j)).toInt64
def tdM (o : Ob) (a b j : Nat) : Int32 := if oA o 24 (25 * a + j) = 0 ∨ oA o 24 (25 * b + j) = 0 then 0 else 1
def tmM (o : Ob) (a b j : Nat) : Int64 := if tdM o a b j = 0 ∨ tdM o a b (j + 1) = 0 ∨ tdM o a b (j + 5) = 0 ∨ tdM o a b (j + 6) = 0 then 0 else 2 * apM o a b j + apM o a b (j + 1) + apM o a b (j + 5) + 2 * apM o a b (j + 6)
def sixM (o : Ob) (a b : Nat) : Nat → Int64
  | 0 => 0
  | y + 1 => ac (fun x => tmM o a b (5 * y + x)) (sixM o a b y) 4
/-- heights told lie within 100 metres -/
def xSv (σ : Xs) : Prop := ∀ k, k < xSc σ → ∀ j, j < 25 → -100000 ≤ (oA (xS σ k) 0 j).toInt ∧ (oA (xS σ k) 0 j).toInt ≤ 100000
def bdd (x : Int64) (K : Int) : Prop := -K ≤ x.toInt ∧ x.toInt ≤ K
theorem bm {x : Int} (h : -9223372036854775808 ≤ x) (h2 : x < 9223372036854775808) : x.bmod (2 ^ 64) = x := Int.bmod_eq_of_le (by omega) (by omega)
theorem bdd_add {x y : Int64} {K L : Int} (hx : bdd x K) (hy : bdd y L) (h : K + L < 9223372036854775808) : bdd (x + y) (K + L) ∧ (x + y).toInt = x.toInt + y.toInt := by
  have e : (x + y).toInt = x.toInt + y.toInt := by
    rw [Int64.toInt_add]
    exact bm (by have := hx.1; have := hy.1; omega) (by have := hx.2; have := hy.2; omega)
  exact ⟨⟨by rw [e]; have := hx.1; have := hy.1; omega, by rw [e]; have := hx.2; have := hy.2; omega⟩, e⟩
theorem bdd_sub {x y : Int64} {K L : Int} (hx : bdd x K) (hy : bdd y L) (h : K + L < 9223372036854775808) : bdd (x - y) (K + L) ∧ (x - y).toInt = x.toInt - y.toInt := by
  have e : (x - y).toInt = x.toInt - y.toInt := by
    rw [Int64.toInt_sub]
    exact bm (by have := hx.1; have := hy.2; omega) (by have := hx.2; have := hy.1; omega)
  exact ⟨⟨by rw [e]; have := hx.1; have := hy.2; omega, by rw [e]; have := hx.2; have := hy.1; omega⟩, e⟩
theorem bdd_mul {x y : Int64} {K L : Int} (hx : bdd x K) (hy : 0 ≤ y.toInt ∧ y.toInt ≤ L) (hK : 0 ≤ K) (h : K * L < 9223372036854775808) : bdd (x * y) (K * L) := by
  have h1 : x.toInt * y.toInt ≤ K * L := by
    rcases Int.le_total 0 x.toInt with q | q
    · exact Int.mul_le_mul hx.2 hy.2 hy.1 hK
    · have := Int.mul_nonneg hK (Int.le_trans hy.1 hy.2)
      have h4 : 0 ≤ (-x.toInt) * y.toInt := Int.mul_nonneg (by omega) hy.1
      rw [Int.neg_mul] at h4
      omega
  have h2 : -(K * L) ≤ x.toInt * y.toInt := by
    rcases Int.le_total 0 x.toInt with q | q
    · have := Int.mul_nonneg q hy.1
      have := Int.mul_nonneg hK (Int.le_trans hy.1 hy.2)
      omega
    · have h3 : (-x.toInt) * y.toInt ≤ K * L := Int.mul_le_mul (by have := hx.1; omega) hy.2 hy.1 hK
      rw [Int.neg_mul] at h3
      omega
  have e : (x * y).toInt = x.toInt * y.toInt := by
    rw [Int64.toInt_mul]
    exact bm (by omega) (by omega)
  exact ⟨by rw [e]; exact h2, by rw [e]; exact h1⟩
