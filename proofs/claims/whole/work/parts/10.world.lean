/-! THE WORLD BY ROLES. A role is a number; ad gives its address, f what stands there (none: nothing). -/
def hw_l (ad : Nat → Nat) (rs : List Nat) (f : Nat → Option va_E) : va_W := rs.map (fun r => (ad r, (f r).getD (.inr (0, []))))
theorem hw_l_get {ad : Nat → Nat} {rs : List Nat} {f : Nat → Option va_E} {r : Nat} {e : va_E} (h : r ∈ rs) (he : f r = some e) : ∃ k : Nat, rs[k]? = some r ∧ (hw_l ad rs f)[k]? = some (ad r, e) := by
  obtain ⟨k, hk⟩ := List.getElem?_of_mem h
  exact ⟨k, hk, by simp only [hw_l, List.getElem?_map, hk, Option.map_some, he, Option.getD_some]⟩
theorem hw_l_set {A : Nat → Prop} {ad : Nat → Nat} {rs : List Nat} {f : Nat → Option va_E} {r k : Nat} {e0 e : va_E} (hD : va_D A (hw_l ad rs f)) (h : r ∈ rs) (he : f r = some e0) (hk : (hw_l ad rs f)[k]? = some (ad r, e0)) : (hw_l ad rs f).set k (ad r, e) = hw_l ad rs (va_up f r (some e)) := by
  have hl := (List.getElem?_eq_some_iff.mp hk).1
  obtain ⟨i, hi⟩ := List.getElem?_of_mem h
  have hi2 : (hw_l ad rs f)[i]? = some (ad r, e0) := by simp only [hw_l, List.getElem?_map, hi, Option.map_some, he, Option.getD_some]
  have hik : i = k := hD.1 i k _ _ hi2 hk rfl
  subst hik
  apply List.ext_getElem?
  intro j
  by_cases hj : j = i
  · subst hj
    rw [List.getElem?_set_self hl]
    simp [hw_l, List.getElem?_map, hi, va_up]
  · rw [List.getElem?_set_ne (Ne.symm hj)]
    simp only [hw_l, List.getElem?_map]
    cases hb : rs[j]? with
    | none => rfl
    | some b =>
      have hbr : b ≠ r := by
        intro q
        subst q
        have h2 : (hw_l ad rs f)[j]? = some (ad b, e0) := by simp only [hw_l, List.getElem?_map, hb, Option.map_some, he, Option.getD_some]
        exact hj (hD.1 j i _ _ h2 hk rfl)
      simp [va_up, hbr]
/-- the heap holds what f says, at addresses from L0 on, each role at its own -/
def hw (D : va_G) (L0 : Nat) (ad : Nat → Nat) (f : Nat → Option va_E) (H : Heap) : Prop :=
  (∀ r e, f r = some e → va_at D classes (ad r, e) H ∧ L0 ≤ ad r) ∧ (∀ r r' e e', f r = some e → f r' = some e' → ad r = ad r' → r = r') ∧ ∃ N : Nat, ∀ r, N ≤ r → f r = none
theorem hw.toL {D : va_G} {L0 : Nat} {ad : Nat → Nat} {f : Nat → Option va_E} {H : Heap} (h : hw D L0 ad f H) : ∃ rs : List Nat, (∀ r, r ∈ rs ↔ f r ≠ none) ∧ va_P D classes (hw_l ad rs f) H ∧ va_D (fun q => L0 ≤ q) (hw_l ad rs f) := by
  obtain ⟨h1, h2, N, h3⟩ := h
  have hmem : ∀ r, r ∈ (List.range N).filter (fun r => (f r).isSome) ↔ f r ≠ none := by
    intro r
    rw [List.mem_filter, List.mem_range, Option.isSome_iff_ne_none]
    constructor
    · exact fun q => q.2
    · intro q
      refine ⟨?_, q⟩
      rcases Nat.lt_or_ge r N with z | z
      · exact z
      · exact absurd (h3 r z) q
  have hnd : ((List.range N).filter (fun r => (f r).isSome)).Nodup := List.Pairwise.filter _ List.nodup_range
  generalize (List.range N).filter (fun r => (f r).isSome) = rs at hmem hnd
  have key : ∀ (k : Nat) (q : Nat × va_E), (hw_l ad rs f)[k]? = some q → ∃ r e, rs[k]? = some r ∧ f r = some e ∧ q = (ad r, e) := by
    intro k q hk
    simp only [hw_l, List.getElem?_map] at hk
    cases hb : rs[k]? with
    | none => rw [hb] at hk; cases hk
    | some b =>
      rw [hb] at hk
      cases hf : f b with
      | none => exact absurd hf ((hmem b).mp (List.mem_of_getElem? hb))
      | some e =>
        rw [Option.map_some, hf, Option.getD_some] at hk
        exact ⟨b, e, rfl, hf, (Option.some.inj hk).symm⟩
  refine ⟨rs, hmem, fun k q hk => ?_, fun i j x y hx hy hxy => ?_, fun k q hk => ?_⟩
  · obtain ⟨r, e, -, he, rfl⟩ := key k q hk
    exact (h1 r e he).1
  · obtain ⟨r, e, a1, he, rfl⟩ := key i x hx
    obtain ⟨r', e', a2, he', rfl⟩ := key j y hy
    have hrr : r = r' := h2 r r' e e' he he' hxy
    subst hrr
    exact (List.getElem?_inj (List.getElem?_eq_some_iff.mp a1).1 hnd).mp (a1.trans a2.symm)
  · obtain ⟨r, e, -, he, rfl⟩ := key k q hk
    exact (h1 r e he).2
theorem hw.ofL {D : va_G} {L0 : Nat} {ad : Nat → Nat} {f : Nat → Option va_E} {H : Heap} {rs : List Nat} (hm : ∀ r, r ∈ rs ↔ f r ≠ none) (hP : va_P D classes (hw_l ad rs f) H) (hD : va_D (fun q => L0 ≤ q) (hw_l ad rs f)) : hw D L0 ad f H := by
  have hin : ∀ r e, f r = some e → r ∈ rs := fun r e he => (hm r).mpr (by rw [he]; exact fun q => by cases q)
  refine ⟨fun r e he => ?_, fun r r' e e' he he' ha => ?_, rs.foldr Nat.max 0 + 1, fun r hr => ?_⟩
  · obtain ⟨k, -, hk⟩ := hw_l_get (ad := ad) (hin r e he) he
    exact ⟨hP k _ hk, hD.2 k _ hk⟩
  · obtain ⟨k, a1, hk⟩ := hw_l_get (ad := ad) (hin r e he) he
    obtain ⟨k', a2, hk'⟩ := hw_l_get (ad := ad) (hin r' e' he') he'
    have := hD.1 k k' _ _ hk hk' ha
    subst this
    exact Option.some.inj (a1.symm.trans a2)
  · cases hf : f r with
    | none => rfl
    | some e =>
      have hmx : ∀ (l : List Nat) (x : Nat), x ∈ l → x ≤ l.foldr Nat.max 0 := by
        intro l
        induction l with
        | nil => intro x hx; cases hx
        | cons a l ih =>
          intro x hx
          rcases List.mem_cons.mp hx with rfl | hx
          · exact Nat.le_max_left _ _
          · exact Nat.le_trans (ih x hx) (Nat.le_max_right _ _)
      have := hmx rs r (hin r e hf)
      omega
theorem hw.in {D : va_G} {L0 : Nat} {ad : Nat → Nat} {f : Nat → Option va_E} {H : Heap} (h : hw D L0 ad f H) {r r2 : Nat} {e e2 : va_E} (he : f r = some e) (he2 : f r2 = some e2) : ∃ (ws : va_W) (k k2 : Nat), va_P D classes ws H ∧ va_D (fun q => L0 ≤ q) ws ∧ ws[k]? = some (ad r, e) ∧ ws[k2]? = some (ad r2, e2) ∧ ∀ (e' : va_E) (H1 : Heap), va_P D classes (ws.set k (ad r, e')) H1 → va_D (fun q => L0 ≤ q) (ws.set k (ad r, e')) → hw D L0 ad (va_up f r (some e')) H1 := by
  obtain ⟨rs, hrs, hP, hD⟩ := h.toL
  have hr : r ∈ rs := (hrs r).mpr (by rw [he]; exact fun q => by cases q)
  have hr2 : r2 ∈ rs := (hrs r2).mpr (by rw [he2]; exact fun q => by cases q)
  obtain ⟨k, -, hk⟩ := hw_l_get (ad := ad) hr he
  obtain ⟨k2, -, hk2⟩ := hw_l_get (ad := ad) hr2 he2
  refine ⟨_, k, k2, hP, hD, hk, hk2, fun e' H1 h1 h2 => hw.ofL (rs := rs) (fun x => ?_) ?_ ?_⟩
  · rw [hrs x]
    by_cases hx : x = r
    · subst hx
      rw [va_up_self, he]
      simp
    · rw [va_up_ne _ _ hx]
  · rw [← hw_l_set hD hr he hk]; exact h1
  · rw [← hw_l_set hD hr he hk]; exact h2
/-- a new cell at a role that stood empty -/
theorem hw.new {D : va_G} {L0 : Nat} {ad : Nat → Nat} {f : Nat → Option va_E} {H : Heap} (h : hw D L0 ad f H) : ∃ ws : va_W, va_P D classes ws H ∧ va_D (fun q => L0 ≤ q) ws ∧ ∀ (r q : Nat) (e : va_E) (H1 : Heap), f r = none → va_P D classes (ws ++ [(q, e)]) H1 → va_D (fun q => L0 ≤ q) (ws ++ [(q, e)]) → hw D L0 (va_up ad r q) (va_up f r (some e)) H1 := by
  obtain ⟨rs, hrs, hP, hD⟩ := h.toL
  refine ⟨_, hP, hD, fun r q e H1 hn h1 h2 => ?_⟩
  have e1 : hw_l (va_up ad r q) (rs ++ [r]) (va_up f r (some e)) = hw_l ad rs f ++ [(q, e)] := by
    simp only [hw_l, List.map_append, List.map_cons, List.map_nil, va_up_self, Option.getD_some]
    congr 1
    apply List.map_congr_left
    intro x hx
    have : x ≠ r := fun z => (hrs x).mp hx (by rw [z]; exact hn)
    rw [va_up_ne _ _ this, va_up_ne _ _ this]
  refine hw.ofL (rs := rs ++ [r]) (fun x => ?_) (by rw [e1]; exact h1) (by rw [e1]; exact h2)
  rw [List.mem_append, List.mem_singleton, hrs x]
  by_cases hx : x = r
  · subst hx
    rw [va_up_self]
    simp
  · rw [va_up_ne _ _ hx]
    simp [hx]
/-- a world under another name for its roles' addresses -/
theorem hw.ad {D : va_G} {L0 : Nat} {ad ad' : Nat → Nat} {f : Nat → Option va_E} {H : Heap} (h : hw D L0 ad f H) (ha : ∀ r, f r ≠ none → ad' r = ad r) : hw D L0 ad' f H := by
  obtain ⟨h1, h2, h3⟩ := h
  have hn : ∀ {r : Nat} {e : va_E}, f r = some e → ad' r = ad r := fun {r e} he => ha r (by rw [he]; exact fun q => by cases q)
  refine ⟨fun r e he => ?_, fun r r' e e' he he' hh => h2 r r' e e' he he' ?_, h3⟩
  · rw [hn he]; exact h1 r e he
  · rw [← hn he, ← hn he']; exact hh
theorem hw.to {D : va_G} {L0 : Nat} {ad : Nat → Nat} {f f' : Nat → Option va_E} {H : Heap} (h : hw D L0 ad f H) (e : f = f') : hw D L0 ad f' H := e ▸ h
/-- forget roles -/
theorem hw.sub {D : va_G} {L0 : Nat} {ad : Nat → Nat} {f g : Nat → Option va_E} {H : Heap} (h : hw D L0 ad f H) (hg : ∀ r e, g r = some e → f r = some e) : hw D L0 ad g H := by
  obtain ⟨h1, h2, N, h3⟩ := h
  refine ⟨fun r e he => h1 r e (hg r e he), fun r r' e e' he he' => h2 r r' e e' (hg r e he) (hg r' e' he'), N, fun r hr => ?_⟩
  cases hgr : g r with
  | none => rfl
  | some e =>
    have := hg r e hgr
    rw [h3 r hr] at this
    cases this
