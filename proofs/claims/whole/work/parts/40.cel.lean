/-! THE CLASS'S WORLD. (columns, surfaces, phases), its object (role 0), what was told (16), kinds (32 + 8 k), columns (64 + 8 i), surfaces (128 + 8 k), phases (160 + 8 k); arrays of references at 2, 3, 5, 6 -/
abbrev Xs : Type := (Nat × Nat × Nat) × Ob × Ob × (Nat → Ob) × (Nat → Ob) × (Nat → Ob) × (Nat → Ob)
def xC (σ : Xs) : Nat := σ.1.1
def xSc (σ : Xs) : Nat := σ.1.2.1
def xPc (σ : Xs) : Nat := σ.1.2.2
def xE (σ : Xs) : Ob := σ.2.1
def xT (σ : Xs) : Ob := σ.2.2.1
def xK (σ : Xs) : Nat → Ob := σ.2.2.2.1
def xL (σ : Xs) : Nat → Ob := σ.2.2.2.2.1
def xS (σ : Xs) : Nat → Ob := σ.2.2.2.2.2.1
def xP (σ : Xs) : Nat → Ob := σ.2.2.2.2.2.2
def xsE (σ : Xs) (o : Ob) : Xs := (σ.1, o, σ.2.2)
def xsT (σ : Xs) (o : Ob) : Xs := (σ.1, σ.2.1, o, σ.2.2.2)
def xsKs (σ : Xs) (g : Nat → Ob) : Xs := (σ.1, σ.2.1, σ.2.2.1, g, σ.2.2.2.2)
def xsLs (σ : Xs) (g : Nat → Ob) : Xs := (σ.1, σ.2.1, σ.2.2.1, σ.2.2.2.1, g, σ.2.2.2.2.2)
def xsSs (σ : Xs) (g : Nat → Ob) : Xs := (σ.1, σ.2.1, σ.2.2.1, σ.2.2.2.1, σ.2.2.2.2.1, g, σ.2.2.2.2.2.2)
def xsPs (σ : Xs) (g : Nat → Ob) : Xs := (σ.1, σ.2.1, σ.2.2.1, σ.2.2.2.1, σ.2.2.2.2.1, σ.2.2.2.2.2.1, g)
def xsK (σ : Xs) (k : Nat) (o : Ob) : Xs := xsKs σ (va_up (xK σ) k o)
def xsL (σ : Xs) (k : Nat) (o : Ob) : Xs := xsLs σ (va_up (xL σ) k o)
def xsS (σ : Xs) (k : Nat) (o : Ob) : Xs := xsSs σ (va_up (xS σ) k o)
def xsP (σ : Xs) (k : Nat) (o : Ob) : Xs := xsPs σ (va_up (xP σ) k o)
theorem up_self {α : Type} {g : Nat → α} {k : Nat} : va_up g k (g k) = g := by
  funext j
  unfold va_up
  split
  · next h => rw [h]
  · rfl
theorem xsE_self {σ : Xs} : xsE σ (xE σ) = σ := rfl
theorem xsT_self {σ : Xs} : xsT σ (xT σ) = σ := rfl
theorem xsK_self {σ : Xs} {k : Nat} : xsK σ k (xK σ k) = σ := by unfold xsK; rw [up_self]; rfl
theorem xsL_self {σ : Xs} {k : Nat} : xsL σ k (xL σ k) = σ := by unfold xsL; rw [up_self]; rfl
theorem xsS_self {σ : Xs} {k : Nat} : xsS σ k (xS σ k) = σ := by unfold xsS; rw [up_self]; rfl
theorem xsP_self {σ : Xs} {k : Nat} : xsP σ k (xP σ k) = σ := by unfold xsP; rw [up_self]; rfl
def rfA (ad : Nat → Nat) (b n : Nat) : Nat → Option Nat := fun i => if i < n then some (ad (b + 8 * i)) else none
def nov : Nat → Option va_E := fun _ => none
def celP (D : va_G) (ad : Nat → Nat) (σ : Xs) (f0 : Nat → Option va_E) : Nat → Option va_E := fun r =>
  if r < 16 then (if r = 2 then some (aO D 0 (xC σ) (rfA ad 64 (xC σ))) else if r = 3 then some (aO D 1 4 (rfA ad 32 4)) else if r = 5 then some (aO D 2 4 (rfA ad 128 (xSc σ))) else if r = 6 then some (aO D 3 4 (rfA ad 160 (xPc σ))) else obP D ad 0 5 shCel (xE σ) nov r)
  else if r < 32 then obP D ad 16 4 shTol (xT σ) nov r
  else if r < 64 then obP D ad (32 + 8 * ((r - 32) / 8)) 1 shKin (xK σ ((r - 32) / 8)) nov r
  else if r < 128 then (if (r - 64) / 8 < xC σ then obP D ad (64 + 8 * ((r - 64) / 8)) 0 shCol (xL σ ((r - 64) / 8)) nov r else none)
  else if r < 160 then (if (r - 128) / 8 < xSc σ then obP D ad (128 + 8 * ((r - 128) / 8)) 3 shSur (xS σ ((r - 128) / 8)) nov r else none)
  else if r < 192 then (if (r - 160) / 8 < xPc σ then obP D ad (160 + 8 * ((r - 160) / 8)) 2 shPha (xP σ ((r - 160) / 8)) nov r else none)
  else f0 r
section CE
variable {D : va_G} {ad : Nat → Nat} {σ : Xs} {f0 : Nat → Option va_E} {k : Nat} {o : Ob}
theorem celP_2 : celP D ad σ f0 2 = some (aO D 0 (xC σ) (rfA ad 64 (xC σ))) := rfl
theorem celP_3 : celP D ad σ f0 3 = some (aO D 1 4 (rfA ad 32 4)) := rfl
theorem celP_5 : celP D ad σ f0 5 = some (aO D 2 4 (rfA ad 128 (xSc σ))) := rfl
theorem celP_6 : celP D ad σ f0 6 = some (aO D 3 4 (rfA ad 160 (xPc σ))) := rfl
theorem obP_blk {β ci : Nat} {sh : List (Nat × Nat)} {o o' : Ob} {f : Nat → Option va_E} {r : Nat} (h : f r = obP D ad β ci sh o nov r) : obP D ad β ci sh o' f r = obP D ad β ci sh o' nov r := by
  rw [obP_pt h, obP_obP]
variable {r : Nat}
theorem cr0 (σ : Xs) (h : r < 16) : celP D ad σ f0 r = (if r = 2 then some (aO D 0 (xC σ) (rfA ad 64 (xC σ))) else if r = 3 then some (aO D 1 4 (rfA ad 32 4)) else if r = 5 then some (aO D 2 4 (rfA ad 128 (xSc σ))) else if r = 6 then some (aO D 3 4 (rfA ad 160 (xPc σ))) else obP D ad 0 5 shCel (xE σ) nov r) := if_pos h
theorem cr1 (σ : Xs) (h : 16 ≤ r) (h2 : r < 32) : celP D ad σ f0 r = obP D ad 16 4 shTol (xT σ) nov r := by
  unfold celP; rw [if_neg (by omega), if_pos h2]
theorem cr2 (σ : Xs) (h : 32 ≤ r) (h2 : r < 64) : celP D ad σ f0 r = obP D ad (32 + 8 * ((r - 32) / 8)) 1 shKin (xK σ ((r - 32) / 8)) nov r := by
  unfold celP; rw [if_neg (by omega), if_neg (by omega), if_pos h2]
theorem cr3 (σ : Xs) (h : 64 ≤ r) (h2 : r < 128) : celP D ad σ f0 r = (if (r - 64) / 8 < xC σ then obP D ad (64 + 8 * ((r - 64) / 8)) 0 shCol (xL σ ((r - 64) / 8)) nov r else none) := by
  unfold celP; rw [if_neg (by omega), if_neg (by omega), if_neg (by omega), if_pos h2]
theorem cr4 (σ : Xs) (h : 128 ≤ r) (h2 : r < 160) : celP D ad σ f0 r = (if (r - 128) / 8 < xSc σ then obP D ad (128 + 8 * ((r - 128) / 8)) 3 shSur (xS σ ((r - 128) / 8)) nov r else none) := by
  unfold celP; rw [if_neg (by omega), if_neg (by omega), if_neg (by omega), if_neg (by omega), if_pos h2]
theorem cr5 (σ : Xs) (h : 160 ≤ r) (h2 : r < 192) : celP D ad σ f0 r = (if (r - 160) / 8 < xPc σ then obP D ad (160 + 8 * ((r - 160) / 8)) 2 shPha (xP σ ((r - 160) / 8)) nov r else none) := by
  unfold celP; rw [if_neg (by omega), if_neg (by omega), if_neg (by omega), if_neg (by omega), if_neg (by omega), if_pos h2]
theorem cr6 (σ : Xs) (h : 192 ≤ r) : celP D ad σ f0 r = f0 r := by
  unfold celP; rw [if_neg (by omega), if_neg (by omega), if_neg (by omega), if_neg (by omega), if_neg (by omega), if_neg (by omega)]
theorem cregs (r : Nat) : r < 16 ∨ (16 ≤ r ∧ r < 32) ∨ (32 ≤ r ∧ r < 64) ∨ (64 ≤ r ∧ r < 128) ∨ (128 ≤ r ∧ r < 160) ∨ (160 ≤ r ∧ r < 192) ∨ 192 ≤ r := by omega
theorem cel_E : obP D ad 0 5 shCel o (celP D ad σ f0) = celP D ad (xsE σ o) f0 := by
  funext r
  by_cases h : r < 16
  · have e1 : ∀ σ : Xs, celP D ad σ f0 r = (if r = 2 then some (aO D 0 (xC σ) (rfA ad 64 (xC σ))) else if r = 3 then some (aO D 1 4 (rfA ad 32 4)) else if r = 5 then some (aO D 2 4 (rfA ad 128 (xSc σ))) else if r = 6 then some (aO D 3 4 (rfA ad 160 (xPc σ))) else obP D ad 0 5 shCel (xE σ) nov r) := fun σ => if_pos h
    by_cases h0 : r = 0
    · subst h0; rfl
    · have e2 : obP D ad 0 5 shCel o (celP D ad σ f0) r = celP D ad σ f0 r := by
        unfold obP
        rw [if_neg h0, if_pos (by omega)]
        rcases (show r = 1 ∨ r = 2 ∨ r = 3 ∨ r = 4 ∨ r = 5 ∨ r = 6 ∨ r = 7 ∨ r = 8 ∨ r = 9 ∨ r = 10 ∨ r = 11 ∨ r = 12 ∨ r = 13 ∨ r = 14 ∨ r = 15 by omega) with rfl | rfl | rfl | rfl | rfl | rfl | rfl | rfl | rfl | rfl | rfl | rfl | rfl | rfl | rfl <;> rfl
      rw [e2, e1, e1]
      rcases (show r = 1 ∨ r = 2 ∨ r = 3 ∨ r = 4 ∨ r = 5 ∨ r = 6 ∨ r = 7 ∨ r = 8 ∨ r = 9 ∨ r = 10 ∨ r = 11 ∨ r = 12 ∨ r = 13 ∨ r = 14 ∨ r = 15 by omega) with rfl | rfl | rfl | rfl | rfl | rfl | rfl | rfl | rfl | rfl | rfl | rfl | rfl | rfl | rfl <;> rfl
  · rw [obP_out (Or.inr (by show 0 + 11 < r; omega))]
    rcases cregs r with h1 | h | h | h | h | h | h
    · exact absurd h1 h
    · rw [cr1 _ h.1 h.2, cr1 _ h.1 h.2]; rfl
    · rw [cr2 _ h.1 h.2, cr2 _ h.1 h.2]; rfl
    · rw [cr3 _ h.1 h.2, cr3 _ h.1 h.2]; rfl
    · rw [cr4 _ h.1 h.2, cr4 _ h.1 h.2]; rfl
    · rw [cr5 _ h.1 h.2, cr5 _ h.1 h.2]; rfl
    · rw [cr6 _ h, cr6 _ h]
theorem cel_T : obP D ad 16 4 shTol o (celP D ad σ f0) = celP D ad (xsT σ o) f0 := by
  funext r
  rcases cregs r with h | h | h | h | h | h | h
  · rw [obP_out (Or.inl h), cr0 _ h, cr0 _ h]; rfl
  · rw [obP_blk (cr1 σ h.1 h.2), cr1 _ h.1 h.2]; rfl
  · rw [obP_out (Or.inr (by show 16 + 6 < r; omega)), cr2 _ h.1 h.2, cr2 _ h.1 h.2]; rfl
  · rw [obP_out (Or.inr (by show 16 + 6 < r; omega)), cr3 _ h.1 h.2, cr3 _ h.1 h.2]; rfl
  · rw [obP_out (Or.inr (by show 16 + 6 < r; omega)), cr4 _ h.1 h.2, cr4 _ h.1 h.2]; rfl
  · rw [obP_out (Or.inr (by show 16 + 6 < r; omega)), cr5 _ h.1 h.2, cr5 _ h.1 h.2]; rfl
  · rw [obP_out (Or.inr (by show 16 + 6 < r; omega)), cr6 _ h, cr6 _ h]
theorem cel_K (hk : k < 4) : obP D ad (32 + 8 * k) 1 shKin o (celP D ad σ f0) = celP D ad (xsK σ k o) f0 := by
  funext r
  by_cases h : 32 + 8 * k ≤ r ∧ r < 40 + 8 * k
  · have hq : (r - 32) / 8 = k := by omega
    have e1 : ∀ σ : Xs, celP D ad σ f0 r = obP D ad (32 + 8 * k) 1 shKin (xK σ k) nov r := fun σ => by rw [cr2 σ (by omega) (by omega), hq]
    rw [obP_blk (e1 σ), e1 (xsK σ k o), show xK (xsK σ k o) k = o from va_up_self _ _ _]
  · rw [obP_out (by show r < 32 + 8 * k ∨ 32 + 8 * k + 5 < r; omega)]
    rcases cregs r with h | h | h | h | h | h | h
    · rw [cr0 _ h, cr0 _ h]; rfl
    · rw [cr1 _ h.1 h.2, cr1 _ h.1 h.2]; rfl
    · rw [cr2 _ h.1 h.2, cr2 _ h.1 h.2, show xK (xsK σ k o) ((r - 32) / 8) = xK σ ((r - 32) / 8) from va_up_ne _ _ (by omega)]
    · rw [cr3 _ h.1 h.2, cr3 _ h.1 h.2]; rfl
    · rw [cr4 _ h.1 h.2, cr4 _ h.1 h.2]; rfl
    · rw [cr5 _ h.1 h.2, cr5 _ h.1 h.2]; rfl
    · rw [cr6 _ h, cr6 _ h]
theorem cel_L (hk : k < xC σ) (h8 : xC σ ≤ 8) : obP D ad (64 + 8 * k) 0 shCol o (celP D ad σ f0) = celP D ad (xsL σ k o) f0 := by
  funext r
  by_cases h : 64 + 8 * k ≤ r ∧ r < 72 + 8 * k
  · have hq : (r - 64) / 8 = k := by omega
    have e1 : ∀ σ : Xs, k < xC σ → celP D ad σ f0 r = obP D ad (64 + 8 * k) 0 shCol (xL σ k) nov r := fun σ hk => by rw [cr3 σ (by omega) (by omega), hq, if_pos hk]
    rw [obP_blk (e1 σ hk), e1 (xsL σ k o) hk, show xL (xsL σ k o) k = o from va_up_self _ _ _]
  · rw [obP_out (by show r < 64 + 8 * k ∨ 64 + 8 * k + 6 < r; omega)]
    rcases cregs r with h | h | h | h | h | h | h
    · rw [cr0 _ h, cr0 _ h]; rfl
    · rw [cr1 _ h.1 h.2, cr1 _ h.1 h.2]; rfl
    · rw [cr2 _ h.1 h.2, cr2 _ h.1 h.2]; rfl
    · rw [cr3 _ h.1 h.2, cr3 _ h.1 h.2, show xL (xsL σ k o) ((r - 64) / 8) = xL σ ((r - 64) / 8) from va_up_ne _ _ (by omega)]; rfl
    · rw [cr4 _ h.1 h.2, cr4 _ h.1 h.2]; rfl
    · rw [cr5 _ h.1 h.2, cr5 _ h.1 h.2]; rfl
    · rw [cr6 _ h, cr6 _ h]
theorem cel_S (hk : k < xSc σ) (h8 : xSc σ ≤ 4) : obP D ad (128 + 8 * k) 3 shSur o (celP D ad σ f0) = celP D ad (xsS σ k o) f0 := by
  funext r
  by_cases h : 128 + 8 * k ≤ r ∧ r < 136 + 8 * k
  · have hq : (r - 128) / 8 = k := by omega
    have e1 : ∀ σ : Xs, k < xSc σ → celP D ad σ f0 r = obP D ad (128 + 8 * k) 3 shSur (xS σ k) nov r := fun σ hk => by rw [cr4 σ (by omega) (by omega), hq, if_pos hk]
    rw [obP_blk (e1 σ hk), e1 (xsS σ k o) hk, show xS (xsS σ k o) k = o from va_up_self _ _ _]
  · rw [obP_out (by show r < 128 + 8 * k ∨ 128 + 8 * k + 2 < r; omega)]
    rcases cregs r with h | h | h | h | h | h | h
    · rw [cr0 _ h, cr0 _ h]; rfl
    · rw [cr1 _ h.1 h.2, cr1 _ h.1 h.2]; rfl
    · rw [cr2 _ h.1 h.2, cr2 _ h.1 h.2]; rfl
    · rw [cr3 _ h.1 h.2, cr3 _ h.1 h.2]; rfl
    · rw [cr4 _ h.1 h.2, cr4 _ h.1 h.2, show xS (xsS σ k o) ((r - 128) / 8) = xS σ ((r - 128) / 8) from va_up_ne _ _ (by omega)]; rfl
    · rw [cr5 _ h.1 h.2, cr5 _ h.1 h.2]; rfl
    · rw [cr6 _ h, cr6 _ h]
theorem celE : hasO D ad 0 5 shCel (xE σ) (celP D ad σ f0) := cel_E.trans (by rw [xsE_self])
theorem celT : hasO D ad 16 4 shTol (xT σ) (celP D ad σ f0) := cel_T.trans (by rw [xsT_self])
theorem celK (hk : k < 4) : hasO D ad (32 + 8 * k) 1 shKin (xK σ k) (celP D ad σ f0) := (cel_K hk).trans (by rw [xsK_self])
theorem celL (hk : k < xC σ) (h8 : xC σ ≤ 8) : hasO D ad (64 + 8 * k) 0 shCol (xL σ k) (celP D ad σ f0) := (cel_L hk h8).trans (by rw [xsL_self])
theorem celS (hk : k < xSc σ) (h8 : xSc σ ≤ 4) : hasO D ad (128 + 8 * k) 3 shSur (xS σ k) (celP D ad σ f0) := (cel_S hk h8).trans (by rw [xsS_self])
theorem celPh (hk : k < xPc σ) (h8 : xPc σ ≤ 4) : hasO D ad (160 + 8 * k) 2 shPha (xP σ k) (celP D ad σ f0) := by
  funext r
  by_cases h : 160 + 8 * k ≤ r ∧ r < 168 + 8 * k
  · have hq : (r - 160) / 8 = k := by omega
    have e1 : celP D ad σ f0 r = obP D ad (160 + 8 * k) 2 shPha (xP σ k) nov r := by rw [cr5 σ (by omega) (by omega), hq, if_pos hk]
    rw [obP_blk e1, e1]
  · exact obP_out (by show r < 160 + 8 * k ∨ 160 + 8 * k + 3 < r; omega)
end CE
