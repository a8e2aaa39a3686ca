/-! WHICH OBJECTS STAND IN A WORLD -/
abbrev hasO (D : va_G) (ad : Nat → Nat) (β ci : Nat) (sh : List (Nat × Nat)) (o : Ob) (f : Nat → Option va_E) : Prop := obP D ad β ci sh o f = f
section HS
variable {D : va_G} {ad : Nat → Nat} {β ci κ ci' : Nat} {sh sh' : List (Nat × Nat)} {o o' : Ob} {f g : Nat → Option va_E}
theorem obP_out {r : Nat} (h : r < β ∨ β + sh.length < r) : obP D ad β ci sh o f r = f r := by
  unfold obP
  by_cases h1 : r = β
  · omega
  · rw [if_neg h1]
    by_cases h2 : β < r
    · rw [if_pos h2, List.getElem?_eq_none_iff.mpr (by omega)]
      rfl
    · rw [if_neg h2]
theorem obP_pt {r : Nat} (h : f r = g r) : obP D ad β ci sh o f r = obP D ad β ci sh o g r := by
  unfold obP
  rw [h]
theorem obP_obP : obP D ad β ci sh o' (obP D ad β ci sh o f) = obP D ad β ci sh o' f := by
  funext r
  unfold obP
  by_cases h1 : r = β
  · rw [if_pos h1, if_pos h1]
  · rw [if_neg h1, if_neg h1, if_neg h1]
    by_cases h2 : β < r
    · rw [if_pos h2, if_pos h2, if_pos h2]
      cases hs : sh[r - β - 1]? with
      | none => rfl
      | some s =>
        simp only [Option.bind_some]
        obtain ⟨a, b⟩ := s
        match a with
        | 2 => rfl
        | 3 => rfl
        | 4 => rfl
        | 0 => rfl
        | 1 => rfl
        | a + 5 => rfl
    · rw [if_neg h2, if_neg h2, if_neg h2]
theorem obP_id : hasO D ad β ci sh o (obP D ad β ci sh o f) := obP_obP
theorem hasO_o (h : hasO D ad β ci sh o f) : f β = some (.inr (ci, obO ad β sh o)) := by
  rw [← h]
  exact obP_o
theorem hasO_over (h : hasO D ad κ ci' sh' o' f) (hd : κ + sh'.length < β ∨ β + sh.length < κ) : hasO D ad κ ci' sh' o' (obP D ad β ci sh o f) := by
  funext r
  by_cases hr : r < κ ∨ κ + sh'.length < r
  · exact obP_out hr
  · have e1 : obP D ad β ci sh o f r = f r := obP_out (by omega)
    rw [obP_pt e1, e1]
    exact congrFun h r
/-- two overlays of objects apart change places -/
theorem obP_comm (hd : κ + sh'.length < β ∨ β + sh.length < κ) : obP D ad κ ci' sh' o' (obP D ad β ci sh o f) = obP D ad β ci sh o (obP D ad κ ci' sh' o' f) := by
  funext r
  by_cases hr : r < κ ∨ κ + sh'.length < r
  · rw [obP_out hr]
    exact obP_pt (obP_out hr).symm
  · have e1 : obP D ad β ci sh o f r = f r := obP_out (by omega)
    rw [obP_pt e1]
    exact (obP_out (by omega)).symm
end HS
-- numbers
theorem nI_m1_neg {n : Nat} (hn : n < 2 ^ 31) : nI n - 1 < 0 ↔ n = 0 := by
  constructor
  · intro h
    cases n with
    | zero => rfl
    | succ n => rw [nI_pred] at h; exact absurd h (nI_pos (by omega))
  · intro h
    subst h
    decide
theorem nI_pm {n : Nat} : nI (n + 1) - 1 + Int32.ofInt (-1) = nI n - 1 := by
  rw [nI_pred]
  show nI n + (-1) = nI n - 1
  exact (Int32.sub_eq_add_neg _ _).symm
theorem updL_self {g : Nat → Int64} {k : Nat} : vp_updL g k (g k) = g := by
  funext j
  unfold vp_updL
  split
  · next h => rw [h]
  · rfl
theorem upd_self {g : Nat → Int32} {k : Nat} {x : Int32} (h : g k = x) : upd g k x = g := by
  funext j
  by_cases hj : j = k
  · subst hj; rw [pk_us, h]
  · rw [pk_un hj]
theorem updL_updL {g : Nat → Int64} {k : Nat} {x y : Int64} : vp_updL (vp_updL g k x) k y = vp_updL g k y := by
  funext j
  by_cases hj : j = k
  · subst hj; rw [pk_uLs, pk_uLs]
  · rw [pk_uLn hj, pk_uLn hj, pk_uLn hj]
theorem upd_upd {g : Nat → Int32} {k : Nat} {x y : Int32} : upd (upd g k x) k y = upd g k y := by
  funext j
  by_cases hj : j = k
  · subst hj; rw [pk_us, pk_us]
  · rw [pk_un hj, pk_un hj, pk_un hj]
theorem sB_self {o : Ob} {k : Nat} : sB o k (oB o k) = o := by
  refine Ob.ext (fun _ => rfl) (fun _ => rfl) (fun _ => rfl) (fun j => ?_)
  rw [oB_B]; split
  · next h => rw [h]
  · rfl
theorem sA_self {o : Ob} {k : Nat} : sA o k (oA o k) = o := by
  refine Ob.ext (fun _ => rfl) (fun _ => rfl) (fun j => ?_) (fun _ => rfl)
  rw [oA_A]; split
  · next h => rw [h]
  · rfl
theorem sI_self {o : Ob} {k : Nat} : sI o k (oI o k) = o := by
  refine Ob.ext (fun j => ?_) (fun _ => rfl) (fun _ => rfl) (fun _ => rfl)
  rw [oI_I]; split
  · next h => rw [h]
  · rfl
/-- a number in a range, as the class asks it -/
def wi (n a b : Int64) : Int32 := if a ≤ n ∧ n ≤ b then 1 else 0
theorem wi_0 {n a b : Int64} : wi n a b = 0 ↔ ¬ (a ≤ n ∧ n ≤ b) := by
  unfold wi
  split <;> simp_all
theorem wi_1 {n a b : Int64} : ¬ wi n a b = 0 ↔ (a ≤ n ∧ n ≤ b) := by
  unfold wi
  split <;> simp_all
