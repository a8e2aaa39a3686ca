/-! new surfaces and phases -/
section AD
variable {D : va_G} {ad ad' : Nat → Nat} {β ci : Nat} {sh : List (Nat × Nat)} {o : Ob} {f : Nat → Option va_E} {σ : Xs} {f0 : Nat → Option va_E}
theorem obP_ad (h : ∀ k, k < sh.length → ad' (β + 1 + k) = ad (β + 1 + k)) (h5 : ∀ s ∈ sh, s.1 = 5 → ad' s.2 = ad s.2) : obP D ad β ci sh o f = obP D ad' β ci sh o f := by
  funext r
  unfold obP
  by_cases hr : r = β
  · rw [if_pos hr, if_pos hr]
    congr 3
    apply List.ext_getElem?
    intro k
    cases hsk : sh[k]? with
    | none =>
      have : sh.length ≤ k := List.getElem?_eq_none_iff.mp hsk
      rw [List.getElem?_eq_none_iff.mpr (by rw [obO_len]; exact this), List.getElem?_eq_none_iff.mpr (by rw [obO_len]; exact this)]
    | some t =>
      rw [obO_get hsk, obO_get hsk, obV_ad (h k (List.getElem?_eq_some_iff.mp hsk).1) (fun q => h5 t (List.mem_of_getElem? hsk) q)]
  · rw [if_neg hr, if_neg hr]
theorem rfA_ad {b n : Nat} (h : ∀ i, i < n → ad' (b + 8 * i) = ad (b + 8 * i)) : rfA ad b n = rfA ad' b n := by
  funext i
  unfold rfA
  by_cases hi : i < n
  · rw [if_pos hi, if_pos hi, h i hi]
  · rw [if_neg hi, if_neg hi]
theorem celP_ad (hC : xC σ ≤ 8) (hs : xSc σ ≤ 4) (hp : xPc σ ≤ 4) (h : ∀ x, x < 128 + 8 * xSc σ ∨ (160 ≤ x ∧ x < 160 + 8 * xPc σ) → ad' x = ad x) : celP D ad σ f0 = celP D ad' σ f0 := by
  funext r
  rcases cregs r with h1 | h1 | h1 | h1 | h1 | h1 | h1
  · rw [cr0 _ h1, cr0 _ h1, rfA_ad (ad' := ad') (fun i hi => h _ (by omega)), rfA_ad (b := 32) (ad' := ad') (fun i hi => h _ (by omega)), rfA_ad (b := 128) (ad' := ad') (fun i hi => h _ (by omega)), rfA_ad (b := 160) (ad' := ad') (fun i hi => h _ (by omega)), obP_ad (ad' := ad') (fun k hk => h _ (by have : k < 11 := hk; omega)) (fun s hs => by simp only [List.mem_cons, List.not_mem_nil, or_false] at hs; rcases hs with rfl | rfl | rfl | rfl | rfl | rfl | rfl | rfl | rfl | rfl | rfl <;> intro q <;> first | exact absurd q (by decide) | exact h _ (by omega))]
  · rw [cr1 _ h1.1 h1.2, cr1 _ h1.1 h1.2, obP_ad (ad' := ad') (fun k hk => h _ (by have : k < 6 := hk; omega)) (fun s hs => by simp only [List.mem_cons, List.not_mem_nil, or_false] at hs; rcases hs with rfl | rfl | rfl | rfl | rfl | rfl <;> intro q <;> exact absurd q (by decide))]
  · rw [cr2 _ h1.1 h1.2, cr2 _ h1.1 h1.2, obP_ad (ad' := ad') (fun k hk => h _ (by have : k < 5 := hk; omega)) (fun s hs => by simp only [List.mem_cons, List.not_mem_nil, or_false] at hs; rcases hs with rfl | rfl | rfl | rfl | rfl <;> intro q <;> exact absurd q (by decide))]
  · rw [cr3 _ h1.1 h1.2, cr3 _ h1.1 h1.2, obP_ad (ad' := ad') (fun k hk => h _ (by have : k < 6 := hk; omega)) (fun s hs => by simp only [List.mem_cons, List.not_mem_nil, or_false] at hs; rcases hs with rfl | rfl | rfl | rfl | rfl | rfl <;> intro q <;> exact absurd q (by decide))]
  · rw [cr4 _ h1.1 h1.2, cr4 _ h1.1 h1.2]
    by_cases h2 : (r - 128) / 8 < xSc σ
    · rw [if_pos h2, if_pos h2, obP_ad (ad' := ad') (fun k hk => h _ (by have : k < 2 := hk; omega)) (fun s hs => by simp only [List.mem_cons, List.not_mem_nil, or_false] at hs; rcases hs with rfl | rfl <;> intro q <;> exact absurd q (by decide))]
    · rw [if_neg h2, if_neg h2]
  · rw [cr5 _ h1.1 h1.2, cr5 _ h1.1 h1.2]
    by_cases h2 : (r - 160) / 8 < xPc σ
    · rw [if_pos h2, if_pos h2, obP_ad (ad' := ad') (fun k hk => h _ (by have : k < 3 := hk; omega)) (fun s hs => by simp only [List.mem_cons, List.not_mem_nil, or_false] at hs; rcases hs with rfl | rfl | rfl <;> intro q <;> exact absurd q (by decide))]
    · rw [if_neg h2, if_neg h2]
  · rw [cr6 _ h1, cr6 _ h1]
def xnS (σ : Xs) : Xs := ((xC σ, xSc σ + 1, xPc σ), xE σ, xT σ, xK σ, xL σ, va_up (xS σ) (xSc σ) zO, xP σ)
def xnP (σ : Xs) (o : Ob) : Xs := ((xC σ, xSc σ, xPc σ + 1), xE σ, xT σ, xK σ, xL σ, xS σ, va_up (xP σ) (xPc σ) o)
theorem rfA_up {b n : Nat} : va_up (rfA ad b n) n (some (ad (b + 8 * n))) = rfA ad b (n + 1) := by
  funext i
  unfold rfA
  by_cases hi : i = n
  · subst hi; rw [va_up_self, if_pos (by omega)]
  · rw [va_up_ne _ _ hi]
    by_cases h1 : i < n
    · rw [if_pos h1, if_pos (by omega)]
    · rw [if_neg h1, if_neg (by omega)]
theorem cel_nS (hs : xSc σ < 4) : va_up (obP D ad (128 + 8 * xSc σ) 3 shSur zO (celP D ad σ f0)) 5 (some (aO D 2 4 (rfA ad 128 (xSc σ + 1)))) = celP D ad (xnS σ) f0 := by
  funext r
  by_cases h5 : r = 5
  · subst h5; rw [va_up_self]; rfl
  · rw [va_up_ne _ _ h5]
    by_cases hb : 128 + 8 * xSc σ ≤ r ∧ r < 136 + 8 * xSc σ
    · have hq : (r - 128) / 8 = xSc σ := by omega
      have e1 : celP D ad σ f0 r = nov r := by rw [cr4 σ (by omega) (by omega), hq, if_neg (by omega)]; rfl
      have e2 : celP D ad (xnS σ) f0 r = obP D ad (128 + 8 * xSc σ) 3 shSur zO nov r := by
        rw [cr4 (xnS σ) (by omega) (by omega), hq, if_pos (by show xSc σ < xSc σ + 1; omega), show xS (xnS σ) (xSc σ) = zO from va_up_self _ _ _]
      rw [obP_pt e1, e2]
    · rw [obP_out (by show r < 128 + 8 * xSc σ ∨ 128 + 8 * xSc σ + 2 < r; omega)]
      rcases cregs r with h | h | h | h | h | h | h
      · rw [cr0 _ h, cr0 _ h, if_neg h5]
        rcases (show r = 0 ∨ r = 1 ∨ r = 2 ∨ r = 3 ∨ r = 4 ∨ r = 6 ∨ r = 7 ∨ r = 8 ∨ r = 9 ∨ r = 10 ∨ r = 11 ∨ r = 12 ∨ r = 13 ∨ r = 14 ∨ r = 15 by omega) with rfl | rfl | rfl | rfl | rfl | rfl | rfl | rfl | rfl | rfl | rfl | rfl | rfl | rfl | rfl <;> rfl
      · rw [cr1 _ h.1 h.2, cr1 _ h.1 h.2]; rfl
      · rw [cr2 _ h.1 h.2, cr2 _ h.1 h.2]; rfl
      · rw [cr3 _ h.1 h.2, cr3 _ h.1 h.2]; rfl
      · rw [cr4 _ h.1 h.2, cr4 _ h.1 h.2, show xS (xnS σ) ((r - 128) / 8) = xS σ ((r - 128) / 8) from va_up_ne _ _ (by omega)]
        by_cases h2 : (r - 128) / 8 < xSc σ
        · rw [if_pos h2, if_pos (by show _ < xSc σ + 1; omega)]
        · rw [if_neg h2, if_neg (by show ¬ _ < xSc σ + 1; omega)]
      · rw [cr5 _ h.1 h.2, cr5 _ h.1 h.2]; rfl
      · rw [cr6 _ h, cr6 _ h]
theorem cel_nP (hs : xPc σ < 4) : va_up (obP D ad (160 + 8 * xPc σ) 2 shPha o (celP D ad σ f0)) 6 (some (aO D 3 4 (rfA ad 160 (xPc σ + 1)))) = celP D ad (xnP σ o) f0 := by
  funext r
  by_cases h5 : r = 6
  · subst h5; rw [va_up_self]; rfl
  · rw [va_up_ne _ _ h5]
    by_cases hb : 160 + 8 * xPc σ ≤ r ∧ r < 168 + 8 * xPc σ
    · have hq : (r - 160) / 8 = xPc σ := by omega
      have e1 : celP D ad σ f0 r = nov r := by rw [cr5 σ (by omega) (by omega), hq, if_neg (by omega)]; rfl
      have e2 : celP D ad (xnP σ o) f0 r = obP D ad (160 + 8 * xPc σ) 2 shPha o nov r := by
        rw [cr5 (xnP σ o) (by omega) (by omega), hq, if_pos (by show xPc σ < xPc σ + 1; omega), show xP (xnP σ o) (xPc σ) = o from va_up_self _ _ _]
      rw [obP_pt e1, e2]
    · rw [obP_out (by show r < 160 + 8 * xPc σ ∨ 160 + 8 * xPc σ + 3 < r; omega)]
      rcases cregs r with h | h | h | h | h | h | h
      · rw [cr0 _ h, cr0 _ h]
        rcases (show r = 0 ∨ r = 1 ∨ r = 2 ∨ r = 3 ∨ r = 4 ∨ r = 5 ∨ r = 7 ∨ r = 8 ∨ r = 9 ∨ r = 10 ∨ r = 11 ∨ r = 12 ∨ r = 13 ∨ r = 14 ∨ r = 15 by omega) with rfl | rfl | rfl | rfl | rfl | rfl | rfl | rfl | rfl | rfl | rfl | rfl | rfl | rfl | rfl <;> rfl
      · rw [cr1 _ h.1 h.2, cr1 _ h.1 h.2]; rfl
      · rw [cr2 _ h.1 h.2, cr2 _ h.1 h.2]; rfl
      · rw [cr3 _ h.1 h.2, cr3 _ h.1 h.2]; rfl
      · rw [cr4 _ h.1 h.2, cr4 _ h.1 h.2]; rfl
      · rw [cr5 _ h.1 h.2, cr5 _ h.1 h.2, show xP (xnP σ o) ((r - 160) / 8) = xP σ ((r - 160) / 8) from va_up_ne _ _ (by omega)]
        by_cases h2 : (r - 160) / 8 < xPc σ
        · rw [if_pos h2, if_pos (by show _ < xPc σ + 1; omega)]
        · rw [if_neg h2, if_neg (by show ¬ _ < xPc σ + 1; omega)]
      · rw [cr6 _ h, cr6 _ h]
end AD
section AW
variable {p : Program} {l : Launch} {e : Env} {R : Room} {s : State} {m : MethodId} {args : Array Value} {below : List Frame} {meth : Method} {c : Code} {H : Heap} {locs : List Loc} {cells slots : Nat} {Q : State → Prop}
variable {cc : ByteArray} {pc nL : Nat} {ls : Array Slot} {rest st0 : List Value} {D : va_G} {L0 : Nat} {ad : Nat → Nat} {own : String} {f : Nat → Option va_E}
theorem hw_aastA (F : fx p m c cc nL s args own D) (h : hw D L0 ad f H) (hS : va_S (fun q => L0 ≤ q) s.heap H locs) {r r2 n j ci a a2 : Nat} (ha : ad r = a) (ha2 : ad r2 = a2) {q : vw_C} {vs : List Value} {g : Nat → Option Nat} (he : f r = some (aO D j n g)) (he2 : f r2 = some (.inr (ci, vs))) (hc : classes[ci]? = some q) (hj : arrObj[j]? = some q.1) {i : Int32} (hin : vp_in i n) (hdg : decode cc pc = .ok (.aastore, 1))
    (kk : ∀ (H1 : Heap) (locs1 : List Loc), hw D L0 ad (va_up f r (some (aO D j n (va_up g i.toNatClampNeg (some (ad r2)))))) H1 → va_S (fun q => L0 ≤ q) s.heap H1 locs1 → W p l e R s m args below meth c H1 locs1 cells slots Q (F0 m (pc + 1) ls rest)) : W p l e R s m args below meth c H locs cells slots Q (F0 m pc ls (.ref a2 :: .int i :: .ref a :: rest)) := by
  subst ha; subst ha2
  exact hw_aast F h hS he he2 hc hj hin hdg kk
/-- numbers read and written at an address that is said -/
theorem gIa {β ci k z N index a : Nat} {sh : List (Nat × Nat)} {o : Ob} {f0 : Nat → Option va_E} {C : String} {T : u_T} {ty : Nat → FieldType} (ha : ad β = a) (K : CK ci C T N ty) (F : fx p m c cc nL s args own D) (h : hw D L0 ad (obP D ad β ci sh o f0) H) (hl : Cond.fieldLink own index (T k).1 (T k).2.1 (T k).2.2.1 ∈ T0) (hk : k < N) (hs : sh[k]? = some (0, z)) (hdg : decode cc pc = .ok (.getfield index, 3))
    (kk : W p l e R s m args below meth c H locs cells slots Q (F0 m (pc + 3) ls (.int (oI o k) :: rest))) : W p l e R s m args below meth c H locs cells slots Q (F0 m pc ls (.ref a :: rest)) := by
  subst ha
  exact gI K F h hl hk hs hdg kk
end AW
