/-! OBJECTS. An object's state: its ints, longs, int (and boolean) arrays, long arrays, by the number of the field. A shape: 0 int, 1 long, (2, n) int array, (3, n) long array, (4, n) boolean array, (5, r) a reference to the role r. -/
abbrev Ob : Type := (Nat → Int32) × (Nat → Int64) × (Nat → Nat → Int32) × (Nat → Nat → Int64)
def oI (o : Ob) : Nat → Int32 := o.1
def oJ (o : Ob) : Nat → Int64 := o.2.1
def oA (o : Ob) : Nat → Nat → Int32 := o.2.2.1
def oB (o : Ob) : Nat → Nat → Int64 := o.2.2.2
def sI (o : Ob) (k : Nat) (v : Int32) : Ob := (va_up o.1 k v, o.2.1, o.2.2.1, o.2.2.2)
def sJ (o : Ob) (k : Nat) (v : Int64) : Ob := (o.1, va_up o.2.1 k v, o.2.2.1, o.2.2.2)
def sA (o : Ob) (k : Nat) (g : Nat → Int32) : Ob := (o.1, o.2.1, va_up o.2.2.1 k g, o.2.2.2)
def sB (o : Ob) (k : Nat) (g : Nat → Int64) : Ob := (o.1, o.2.1, o.2.2.1, va_up o.2.2.2 k g)
theorem oI_I (o : Ob) (k j : Nat) (v : Int32) : oI (sI o k v) j = if j = k then v else oI o j := rfl
theorem oI_J (o : Ob) (k j : Nat) (v : Int64) : oI (sJ o k v) j = oI o j := rfl
theorem oI_A (o : Ob) (k j : Nat) (v : Nat → Int32) : oI (sA o k v) j = oI o j := rfl
theorem oI_B (o : Ob) (k j : Nat) (v : Nat → Int64) : oI (sB o k v) j = oI o j := rfl
theorem oJ_I (o : Ob) (k j : Nat) (v : Int32) : oJ (sI o k v) j = oJ o j := rfl
theorem oJ_J (o : Ob) (k j : Nat) (v : Int64) : oJ (sJ o k v) j = if j = k then v else oJ o j := rfl
theorem oJ_A (o : Ob) (k j : Nat) (v : Nat → Int32) : oJ (sA o k v) j = oJ o j := rfl
theorem oJ_B (o : Ob) (k j : Nat) (v : Nat → Int64) : oJ (sB o k v) j = oJ o j := rfl
theorem oA_I (o : Ob) (k j : Nat) (v : Int32) : oA (sI o k v) j = oA o j := rfl
theorem oA_J (o : Ob) (k j : Nat) (v : Int64) : oA (sJ o k v) j = oA o j := rfl
theorem oA_A (o : Ob) (k j : Nat) (v : Nat → Int32) : oA (sA o k v) j = if j = k then v else oA o j := rfl
theorem oA_B (o : Ob) (k j : Nat) (v : Nat → Int64) : oA (sB o k v) j = oA o j := rfl
theorem oB_I (o : Ob) (k j : Nat) (v : Int32) : oB (sI o k v) j = oB o j := rfl
theorem oB_J (o : Ob) (k j : Nat) (v : Int64) : oB (sJ o k v) j = oB o j := rfl
theorem oB_A (o : Ob) (k j : Nat) (v : Nat → Int32) : oB (sA o k v) j = oB o j := rfl
theorem oB_B (o : Ob) (k j : Nat) (v : Nat → Int64) : oB (sB o k v) j = if j = k then v else oB o j := rfl
theorem Ob.ext {a b : Ob} (h1 : ∀ k, oI a k = oI b k) (h2 : ∀ k, oJ a k = oJ b k) (h3 : ∀ k, oA a k = oA b k) (h4 : ∀ k, oB a k = oB b k) : a = b := by
  obtain ⟨a1, a2, a3, a4⟩ := a
  obtain ⟨b1, b2, b3, b4⟩ := b
  have e1 : a1 = b1 := funext h1
  have e2 : a2 = b2 := funext h2
  have e3 : a3 = b3 := funext h3
  have e4 : a4 = b4 := funext h4
  rw [e1, e2, e3, e4]
def obV (ad : Nat → Nat) (β : Nat) (o : Ob) (k : Nat) (s : Nat × Nat) : Value := match s.1 with
  | 0 => .int (oI o k)
  | 1 => .long (oJ o k)
  | 5 => .ref (ad s.2)
  | _ => .ref (ad (β + 1 + k))
def obO (ad : Nat → Nat) (β : Nat) (sh : List (Nat × Nat)) (o : Ob) : List Value := sh.zipIdx.map (fun q => obV ad β o q.2 q.1)
def obC (D : va_G) (o : Ob) (k : Nat) (s : Nat × Nat) : Option va_E := match s.1 with
  | 2 => some (aI D s.2 (oA o k))
  | 3 => some (aL D s.2 (oB o k))
  | 4 => some (aZ D s.2 (oA o k))
  | _ => none
/-- an object of class ci at the role β, its arrays at β + 1 + field, over the rest f0 -/
def obP (D : va_G) (ad : Nat → Nat) (β ci : Nat) (sh : List (Nat × Nat)) (o : Ob) (f0 : Nat → Option va_E) : Nat → Option va_E := fun r =>
  if r = β then some (.inr (ci, obO ad β sh o)) else if β < r then (match (sh[r - β - 1]?).bind (obC D o (r - β - 1)) with
    | some e => some e
    | none => f0 r) else f0 r
section OB
variable {D : va_G} {ad : Nat → Nat} {β ci k z : Nat} {sh : List (Nat × Nat)} {o : Ob} {f0 : Nat → Option va_E}
theorem obO_get {s : Nat × Nat} (h : sh[k]? = some s) : (obO ad β sh o)[k]? = some (obV ad β o k s) := by
  simp [obO, h]
theorem obO_len : (obO ad β sh o).length = sh.length := by simp [obO]
theorem obO_set {o' : Ob} {v : Value} {s : Nat × Nat} (h : sh[k]? = some s) (hv : obV ad β o' k s = v) (hn : ∀ (j : Nat) (s : Nat × Nat), j ≠ k → obV ad β o' j s = obV ad β o j s) : (obO ad β sh o).set k v = obO ad β sh o' := by
  have hl : k < sh.length := (List.getElem?_eq_some_iff.mp h).1
  apply List.ext_getElem?
  intro j
  by_cases hj : j = k
  · subst hj
    rw [List.getElem?_set_self (by rw [obO_len]; exact hl), obO_get h, hv]
  · rw [List.getElem?_set_ne (Ne.symm hj)]
    cases hs : sh[j]? with
    | none =>
      have : sh.length ≤ j := List.getElem?_eq_none_iff.mp hs
      rw [List.getElem?_eq_none_iff.mpr (by rw [obO_len]; exact this), List.getElem?_eq_none_iff.mpr (by rw [obO_len]; exact this)]
    | some s' => rw [obO_get hs, obO_get hs, hn j s' hj]
theorem obP_o : obP D ad β ci sh o f0 β = some (.inr (ci, obO ad β sh o)) := if_pos rfl
theorem obP_at {s : Nat × Nat} {e : va_E} (h : sh[k]? = some s) (he : obC D o k s = some e) : obP D ad β ci sh o f0 (β + 1 + k) = some e := by
  unfold obP
  rw [if_neg (by omega), if_pos (by omega), show β + 1 + k - β - 1 = k by omega, h, Option.bind_some, he]
theorem obP_A (h : sh[k]? = some (2, z)) : obP D ad β ci sh o f0 (β + 1 + k) = some (aI D z (oA o k)) := obP_at h rfl
theorem obP_B (h : sh[k]? = some (3, z)) : obP D ad β ci sh o f0 (β + 1 + k) = some (aL D z (oB o k)) := obP_at h rfl
theorem obP_Z (h : sh[k]? = some (4, z)) : obP D ad β ci sh o f0 (β + 1 + k) = some (aZ D z (oA o k)) := obP_at h rfl
theorem obP_setO {o' : Ob} {v : Value} {s : Nat × Nat} (h : sh[k]? = some s) (hv : obV ad β o' k s = v) (hn : ∀ (j : Nat) (s : Nat × Nat), j ≠ k → obV ad β o' j s = obV ad β o j s) (hc : ∀ (j : Nat) (s : Nat × Nat), obC D o' j s = obC D o j s) : va_up (obP D ad β ci sh o f0) β (some (.inr (ci, (obO ad β sh o).set k v))) = obP D ad β ci sh o' f0 := by
  funext r
  by_cases hr : r = β
  · subst hr
    rw [va_up_self, obP_o, obO_set h hv hn]
  · rw [va_up_ne _ _ hr]
    unfold obP
    rw [if_neg hr, if_neg hr]
    have : obC D o' (r - β - 1) = obC D o (r - β - 1) := funext (hc _)
    rw [this]
theorem obP_setI {v v' : Int32} (h : sh[k]? = some (0, z)) (e : v = v') : va_up (obP D ad β ci sh o f0) β (some (.inr (ci, (obO ad β sh o).set k (.int v)))) = obP D ad β ci sh (sI o k v') f0 := by
  subst e
  refine obP_setO h (by simp [obV, va_up, oI, oJ, sI, sJ]) (fun j s hj => ?_) (fun j s => rfl)
  simp only [obV, va_up, if_neg hj, oI, oJ, sI, sJ]
theorem obP_setJ {v v' : Int64} (h : sh[k]? = some (1, z)) (e : v = v') : va_up (obP D ad β ci sh o f0) β (some (.inr (ci, (obO ad β sh o).set k (.long v)))) = obP D ad β ci sh (sJ o k v') f0 := by
  subst e
  refine obP_setO h (by simp [obV, va_up, oI, oJ, sI, sJ]) (fun j s hj => ?_) (fun j s => rfl)
  simp only [obV, va_up, if_neg hj, oI, oJ, sI, sJ]
theorem obP_setC {o' : Ob} {s : Nat × Nat} {e : va_E} (h : sh[k]? = some s) (he : obC D o' k s = some e) (hn : ∀ (j : Nat) (s : Nat × Nat), j ≠ k → obC D o' j s = obC D o j s) (hv : ∀ (j : Nat) (s : Nat × Nat), obV ad β o' j s = obV ad β o j s) : va_up (obP D ad β ci sh o f0) (β + 1 + k) (some e) = obP D ad β ci sh o' f0 := by
  funext r
  by_cases hr : r = β + 1 + k
  · subst hr
    rw [va_up_self, obP_at h he]
  · rw [va_up_ne _ _ hr]
    unfold obP
    by_cases h1 : r = β
    · rw [if_pos h1, if_pos h1]
      have : obO ad β sh o' = obO ad β sh o := by
        unfold obO
        congr 1
        funext q
        exact hv _ _
      rw [this]
    · rw [if_neg h1, if_neg h1]
      by_cases h2 : β < r
      · rw [if_pos h2, if_pos h2]
        have : obC D o' (r - β - 1) = obC D o (r - β - 1) := funext (fun s => hn _ s (by omega))
        rw [this]
      · rw [if_neg h2, if_neg h2]
theorem obP_setA {g g' : Nat → Int32} (h : sh[k]? = some (2, z)) (e : g = g') : va_up (obP D ad β ci sh o f0) (β + 1 + k) (some (aI D z g)) = obP D ad β ci sh (sA o k g') f0 := by
  subst e
  refine obP_setC h (by simp [obC, va_up, oA, oB, sA, sB]) (fun j s hj => ?_) (fun j s => rfl)
  simp only [obC, va_up, if_neg hj, oA, oB, sA, sB]
theorem obP_setZ {g g' : Nat → Int32} (h : sh[k]? = some (4, z)) (e : g = g') : va_up (obP D ad β ci sh o f0) (β + 1 + k) (some (aZ D z g)) = obP D ad β ci sh (sA o k g') f0 := by
  subst e
  refine obP_setC h (by simp [obC, va_up, oA, oB, sA, sB]) (fun j s hj => ?_) (fun j s => rfl)
  simp only [obC, va_up, if_neg hj, oA, oB, sA, sB]
theorem obP_setB {g g' : Nat → Int64} (h : sh[k]? = some (3, z)) (e : g = g') : va_up (obP D ad β ci sh o f0) (β + 1 + k) (some (aL D z g)) = obP D ad β ci sh (sB o k g') f0 := by
  subst e
  refine obP_setC h (by simp [obC, va_up, oA, oB, sA, sB]) (fun j s hj => ?_) (fun j s => rfl)
  simp only [obC, va_up, if_neg hj, oA, oB, sA, sB]
end OB
/-- the facts of a class -/
def CK (ci : Nat) (C : String) (T : u_T) (N : Nat) (ty : Nat → FieldType) : Prop := classes[ci]? = some (C, T, N) ∧ (∀ w ∈ u_ws C T N, w ∈ T0) ∧ (∀ k, k < N → parseFieldDescriptor (T k).2.2.1 = some (ty k)) ∧ ∀ a, a < N → ∀ b, b < N → a ≠ b → (T a).2.1 ≠ (T b).2.1
theorem ck_Col : CK 0 R_Col T_Col 6 v_Col := ⟨rfl, u_Col, v_Col_ok, n_Col⟩
theorem ck_Kin : CK 1 R_Kin T_Kin 5 v_Kin := ⟨rfl, u_Kin, v_Kin_ok, n_Kin⟩
theorem ck_Pha : CK 2 R_Pha T_Pha 3 v_Pha := ⟨rfl, u_Pha, v_Pha_ok, n_Pha⟩
theorem ck_Sur : CK 3 R_Sur T_Sur 2 v_Sur := ⟨rfl, u_Sur, v_Sur_ok, n_Sur⟩
theorem ck_Tol : CK 4 R_Tol T_Tol 6 v_Tol := ⟨rfl, u_Tol, v_Tol_ok, n_Tol⟩
theorem ck_Cel : CK 5 R_Cel T_Cel 11 v_Cel := ⟨rfl, u_Cel, v_Cel_ok, n_Cel⟩
theorem ck_Mod : CK 6 R_Mod T_Mod 29 v_Mod := ⟨rfl, u_Mod, v_Mod_ok, n_Mod⟩
abbrev shCol : List (Nat × Nat) := [(2, 10), (2, 10), (3, 10), (3, 10), (0, 0), (0, 0)]
abbrev shKin : List (Nat × Nat) := [(3, 4), (2, 4), (0, 0), (0, 0), (0, 0)]
abbrev shPha : List (Nat × Nat) := [(0, 0), (0, 0), (1, 0)]
abbrev shSur : List (Nat × Nat) := [(2, 25), (4, 25)]
abbrev shTol : List (Nat × Nat) := [(2, 200), (2, 200), (2, 200), (3, 200), (3, 200), (0, 0)]
abbrev shCel : List (Nat × Nat) := [(0, 0), (5, 2), (5, 3), (5, 16), (5, 5), (5, 6), (0, 0), (0, 0), (0, 0), (0, 0), (1, 0)]
abbrev shMod : List (Nat × Nat) := [(0, 0), (0, 0), (2, 4), (2, 4), (0, 0), (2, 200), (2, 200), (2, 200), (3, 200), (3, 200), (2, 8), (2, 80), (3, 80), (3, 80), (2, 80), (2, 8), (2, 4), (3, 16), (2, 16), (0, 0), (0, 0), (1, 0), (0, 0), (2, 100), (4, 100), (0, 0), (2, 4), (2, 4), (3, 4)]
