/-! OBJECTS THAT ARE BEING MADE: the fields below j are done, the others as they come -/
def zO : Ob := (fun _ => 0, fun _ => 0, fun _ _ => 0, fun _ _ => 0)
def dfV (s : Nat × Nat) : Value := match s.1 with
  | 0 => .int 0
  | 1 => .long 0
  | _ => .null
def ptO (ad : Nat → Nat) (β : Nat) (sh : List (Nat × Nat)) (j : Nat) : List Value := sh.zipIdx.map (fun q => if q.2 < j then obV ad β zO q.2 q.1 else dfV q.1)
def obT (D : va_G) (ad : Nat → Nat) (β ci : Nat) (sh : List (Nat × Nat)) (j : Nat) (f : Nat → Option va_E) : Nat → Option va_E := fun r =>
  if r = β then some (.inr (ci, ptO ad β sh j)) else if β < r ∧ r < β + 1 + j then obP D ad β ci sh zO f r else f r
section CT
variable {D : va_G} {ad ad' : Nat → Nat} {β ci j z : Nat} {sh : List (Nat × Nat)} {f : Nat → Option va_E}
theorem ptO_get {k : Nat} {s : Nat × Nat} (h : sh[k]? = some s) : (ptO ad β sh j)[k]? = some (if k < j then obV ad β zO k s else dfV s) := by
  simp [ptO, h]
theorem ptO_len : (ptO ad β sh j).length = sh.length := by simp [ptO]
theorem obT_o : obT D ad β ci sh j f β = some (.inr (ci, ptO ad β sh j)) := if_pos rfl
theorem obV_ad {k : Nat} {o : Ob} {s : Nat × Nat} (h : ad' (β + 1 + k) = ad (β + 1 + k)) (h5 : s.1 = 5 → ad' s.2 = ad s.2) : obV ad' β o k s = obV ad β o k s := by
  obtain ⟨a, b⟩ := s
  unfold obV
  match a with
  | 0 => rfl
  | 1 => rfl
  | 5 => exact congrArg Value.ref (h5 rfl)
  | 2 => exact congrArg Value.ref h
  | 3 => exact congrArg Value.ref h
  | 4 => exact congrArg Value.ref h
  | a + 6 => exact congrArg Value.ref h
/-- the step over an array -/
theorem obT_arr {s : Nat × Nat} {e : va_E} (hs : sh[j]? = some s) (he : obC D zO j s = some e) (hv : obV ad' β zO j s = .ref (ad' (β + 1 + j))) (h5 : ∀ s ∈ sh, s.1 ≠ 5) (ha : ∀ x, x ≠ β + 1 + j → ad' x = ad x) : va_up (va_up (obT D ad β ci sh j f) (β + 1 + j) (some e)) β (some (.inr (ci, (ptO ad β sh j).set j (.ref (ad' (β + 1 + j)))))) = obT D ad' β ci sh (j + 1) f := by
  have hl : j < sh.length := (List.getElem?_eq_some_iff.mp hs).1
  funext r
  by_cases hr : r = β
  · subst hr
    rw [va_up_self, obT_o]
    congr 3
    apply List.ext_getElem?
    intro k
    by_cases hk : k = j
    · subst hk
      rw [List.getElem?_set_self (by rw [ptO_len]; exact hl), ptO_get hs, if_pos (by omega), hv]
    · rw [List.getElem?_set_ne (Ne.symm hk)]
      cases hsk : sh[k]? with
      | none =>
        have : sh.length ≤ k := List.getElem?_eq_none_iff.mp hsk
        rw [List.getElem?_eq_none_iff.mpr (by rw [ptO_len]; exact this), List.getElem?_eq_none_iff.mpr (by rw [ptO_len]; exact this)]
      | some t =>
        rw [ptO_get hsk, ptO_get hsk]
        by_cases h1 : k < j
        · rw [if_pos h1, if_pos (by omega), obV_ad (ha _ (by omega)) (fun q => absurd q (h5 t (List.mem_of_getElem? hsk)))]
        · rw [if_neg h1, if_neg (by omega)]
  · rw [va_up_ne _ _ hr]
    by_cases h1 : r = β + 1 + j
    · subst h1
      rw [va_up_self]
      unfold obT
      rw [if_neg (by omega), if_pos (by omega)]
      exact (obP_at hs he).symm
    · rw [va_up_ne _ _ h1]
      unfold obT
      rw [if_neg hr, if_neg hr]
      by_cases h2 : β < r ∧ r < β + 1 + j
      · rw [if_pos h2, if_pos (by omega)]
        unfold obP
        rw [if_neg hr, if_neg hr]
      · rw [if_neg h2, if_neg (by omega)]
theorem obT_num {s : Nat × Nat} (hs : sh[j]? = some s) (hv : s.1 = 0 ∨ s.1 = 1) : obT D ad β ci sh j f = obT D ad β ci sh (j + 1) f := by
  funext r
  unfold obT
  by_cases hr : r = β
  · rw [if_pos hr, if_pos hr]
    congr 3
    apply List.ext_getElem?
    intro k
    cases hsk : sh[k]? with
    | none =>
      have : sh.length ≤ k := List.getElem?_eq_none_iff.mp hsk
      rw [List.getElem?_eq_none_iff.mpr (by rw [ptO_len]; exact this), List.getElem?_eq_none_iff.mpr (by rw [ptO_len]; exact this)]
    | some t =>
      rw [ptO_get hsk, ptO_get hsk]
      by_cases h1 : k < j
      · rw [if_pos h1, if_pos (by omega)]
      · rw [if_neg h1]
        by_cases h2 : k = j
        · subst h2
          rw [if_pos (by omega)]
          rw [hs] at hsk
          cases hsk
          obtain ⟨a, b⟩ := s
          rcases hv with h | h
          · cases h; rfl
          · cases h; rfl
        · rw [if_neg (by omega)]
  · rw [if_neg hr, if_neg hr]
    by_cases h1 : r = β + 1 + j
    · subst h1
      rw [if_neg (by omega), if_pos (by omega)]
      unfold obP
      rw [if_neg (by omega), if_pos (by omega), show β + 1 + j - β - 1 = j by omega, hs]
      obtain ⟨a, b⟩ := s
      rcases hv with h | h
      · cases h; rfl
      · cases h; rfl
    · by_cases h2 : β < r ∧ r < β + 1 + j
      · rw [if_pos h2, if_pos (by omega)]
      · rw [if_neg h2, if_neg (by omega)]
theorem obT_end : obT D ad β ci sh sh.length f = obP D ad β ci sh zO f := by
  funext r
  unfold obT
  by_cases hr : r = β
  · subst hr
    rw [if_pos rfl, obP_o]
    congr 3
    apply List.ext_getElem?
    intro k
    cases hsk : sh[k]? with
    | none =>
      have : sh.length ≤ k := List.getElem?_eq_none_iff.mp hsk
      rw [List.getElem?_eq_none_iff.mpr (by rw [ptO_len]; exact this), List.getElem?_eq_none_iff.mpr (by rw [obO_len]; exact this)]
    | some t =>
      rw [ptO_get hsk, obO_get hsk, if_pos (List.getElem?_eq_some_iff.mp hsk).1]
  · rw [if_neg hr]
    by_cases h2 : β < r ∧ r < β + 1 + sh.length
    · rw [if_pos h2]
    · rw [if_neg h2, obP_out (by omega)]
end CT
section CW
variable {p : Program} {l : Launch} {e : Env} {R : Room} {s : State} {m : MethodId} {args : Array Value} {below : List Frame} {meth : Method} {c : Code} {H : Heap} {locs : List Loc} {cells slots : Nat} {Q : State → Prop}
variable {cc : ByteArray} {pc nL : Nat} {ls : Array Slot} {rest st0 : List Value} {D : va_G} {L0 : Nat} {ad : Nat → Nat} {f : Nat → Option va_E} {own : String}
variable {β ci j z N index : Nat} {sh : List (Nat × Nat)} {C : String} {T : u_T} {ty : Nat → FieldType}
/-- a field of an object at an address that is said -/
theorem hw_pfFa {k : Nat} (K : CK ci C T N ty) (F : fx p m c cc nL s args own D) (h : hw D L0 ad f H) (hS : va_S (fun q => L0 ≤ q) s.heap H locs) (hl : Cond.fieldLink own index (T k).1 (T k).2.1 (T k).2.2.1 ∈ T0) (hk : k < N) (hfin : (T k).2.2.2 = true) (hini : meth.name = "<init>") (hdecl : (T k).1 = own) {r a : Nat} (ha : ad r = a) {fs : List Value} (he : f r = some (.inr (ci, fs))) {v : Value} (hn : narrow (ty k) v = v) (hfit : fits (ty k) v = true) (hlen : k < fs.length) (hdg : decode cc pc = .ok (.putfield index, 3))
    (kk : ∀ (H1 : Heap) (locs1 : List Loc), hw D L0 ad (va_up f r (some (.inr (ci, fs.set k v)))) H1 → va_S (fun q => L0 ≤ q) s.heap H1 locs1 → W p l e R s m args below meth c H1 locs1 cells slots Q (F0 m (pc + 3) ls rest)) : W p l e R s m args below meth c H locs cells slots Q (F0 m pc ls (v :: .ref a :: rest)) := by
  subst ha
  exact hw_pfF F h hS K.2.1 ty K.2.2.1 K.2.2.2 K.1 hl rfl hk hfin hini hdecl he hn hfit hlen hdg kk
/-- an array of numbers for a final field: newarray, putfield -/
theorem ct_a {atype : ArrayType} {t : FieldType} {n : Int32} {w : Nat} {a0 : vp_A} {cB : ClassId} (K : CK ci C T N ty) (F : fx p m c cc nL s args own D) (hL : L0 ≤ s.heap.size) (h : hw D L0 ad (obT D ad β ci sh j f) H) (hS : va_S (fun q => L0 ≤ q) s.heap H locs) (hs : sh[j]? = some (w, z)) (hw2 : 2 ≤ w ∧ w < 5) (h5 : ∀ s ∈ sh, s.1 ≠ 5) (hf : f (β + 1 + j) = none) (he : obC D zO j (w, z) = some (.inl (cB, a0)))
    (harr : Cond.arrayClass t ∈ T0) (hty : newarray.typeOf atype = t) {t0 : Nat} (ht0 : (tysOf D)[t0]? = some (cB, t)) (hv0 : ∀ cA : ClassId, vp_cell cA a0 = arrV cA z (fun _ => defaultValue t)) (hn : ¬ n < 0) (hN : n.toNatClampNeg = z) (hbytes : z * componentBytes t ≤ 536870912) (hcells : cells + 1 ≤ R.cells) (hslots : slots + z ≤ R.slots) (hd1 : decode cc pc = .ok (.newarray atype, 2))
    (hl : Cond.fieldLink own index (T j).1 (T j).2.1 (T j).2.2.1 ∈ T0) (hk : j < N) (hfin : (T j).2.2.2 = true) (hini : meth.name = "<init>") (hdecl : (T j).1 = own) (htyj : ty j = .array t) {a : Nat} (ha : ad β = a) (hd2 : decode cc (pc + 2) = .ok (.putfield index, 3))
    (kk : ∀ (ad' : Nat → Nat) (H1 : Heap) (locs1 : List Loc), (∀ x, x ≠ β + 1 + j → ad' x = ad x) → hw D L0 ad' (obT D ad' β ci sh (j + 1) f) H1 → va_S (fun q => L0 ≤ q) s.heap H1 locs1 → W p l e R s m args below meth c H1 locs1 (cells + 1) (slots + z) Q (F0 m (pc + 5) ls rest)) : W p l e R s m args below meth c H locs cells slots Q (F0 m pc ls (.int n :: .ref a :: rest)) := by
  have hnone : obT D ad β ci sh j f (β + 1 + j) = none := by
    unfold obT
    rw [if_neg (by omega), if_neg (by omega)]
    exact hf
  refine hw_newa F h hS hL harr hty ht0 hv0 (β + 1 + j) hnone hn hN hbytes hcells hslots hd1 (fun ad' H1 hx h1 hS1 => ?_)
  refine hw_pfFa (v := .ref (ad' (β + 1 + j))) K F h1 hS1 hl hk hfin hini hdecl ((hx β (by omega)).trans ha) ((va_up_ne _ _ (by omega)).trans obT_o) (by rw [htyj]; rfl) (by rw [htyj]; rfl) (by rw [ptO_len]; exact (List.getElem?_eq_some_iff.mp hs).1) hd2 (fun H2 locs2 h2 hS2 => ?_)
  have hv : obV ad' β zO j (w, z) = .ref (ad' (β + 1 + j)) := by
    rcases (show w = 2 ∨ w = 3 ∨ w = 4 by omega) with rfl | rfl | rfl <;> rfl
  exact kk ad' H2 locs2 hx (h2.to (obT_arr hs he hv h5 hx)) hS2
theorem oInit {a idx : Nat} {lv : List (Nat × Value)} (F : fx p m c cc nL s args own D) (hl : lv_has ls nL lv) (h1 : Cond.methodLink own idx objectInit ∈ T0) (h2 : Cond.instanceMethod objectInit ∈ T0) (h3 : Cond.code objectInit ⟨#[0xb1]⟩ 1 none ∈ T0) (hd : decode cc pc = .ok (.invokespecial idx, 3)) (hfr : 1 ≤ R.frames) (hlo : (rest.map fun v => v.category).sum + 12 ≤ R.locals)
    (kk : W p l e R s m args below meth c H locs cells slots Q (F0 m (pc + 3) ls rest)) : W p l e R s m args below meth c H locs cells slots Q (F0 m pc ls (.ref a :: rest)) :=
  W.objInit F.1.1 F.1.2.1 F.1.2.2.2.1 (F.1.2.2.2.2 _ h1) (F.1.2.2.2.2 _ h2) (F.1.2.2.2.2 _ h3) rfl (hl.1.trans F.1.2.2.1.symm) rfl hd hfr (by show 2 * 0 + _ + 12 ≤ _; omega) kk
theorem hw_vretA {B : (Nat → Nat) → (Nat → Option va_E) → Prop} (F : fx p m c cc nL s args own D) (hr : meth.sig.returnType = none) (hlocks : meth.locks = false) (h : hw D L0 ad f H) (hS : va_S (fun q => L0 ≤ q) s.heap H locs) (hdg : decode cc pc = .ok (.return_, 1)) (hB : B ad f) : W p l e R s m args below meth c H locs cells slots (MQ below (da D L0 none B) args s cells slots (fun q => L0 ≤ q)) (F0 m pc ls []) :=
  W.vret F.1.1 F.1.2.1 hr (fun t ht _ => ⟨⟨ad, f, rfl, hB, by rw [ht]; exact h⟩, hS.F ht⟩) hS.2.2 hdg hlocks
theorem hw_iretA {v v' : Int32} {B : (Nat → Nat) → (Nat → Option va_E) → Prop} (F : fx p m c cc nL s args own D) (hr : meth.sig.returnType = some .int) (hlocks : meth.locks = false) (h : hw D L0 ad f H) (hS : va_S (fun q => L0 ≤ q) s.heap H locs) (hdg : decode cc pc = .ok (.ireturn, 1)) (hB : B ad f) (ev : v = v') : W p l e R s m args below meth c H locs cells slots (MQ below (da D L0 (some (.int v')) B) args s cells slots (fun q => L0 ≤ q)) (F0 m pc ls [.int v]) := by
  subst ev
  exact W.iret F.1.1 F.1.2.1 hr (fun t ht _ => ⟨⟨ad, f, rfl, hB, by rw [ht]; exact h⟩, hS.F ht⟩) hS.2.2 hdg hlocks
end CW
