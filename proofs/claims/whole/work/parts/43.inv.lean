/-! what carrying out keeps -/
theorem act_keep {σ : Xs} {i : Nat} : xT (actX σ i) = xT σ ∧ xC (actX σ i) = xC σ ∧ xSc (actX σ i) = xSc σ ∧ xPc (actX σ i) = xPc σ ∧ xS (actX σ i) = xS σ ∧ xP (actX σ i) = xP σ ∧ (∀ j, j < 8 → oI (xE (actX σ i)) j = oI (xE σ) j) ∧ (∀ k, oI (xK (actX σ i) k) 3 = oI (xK σ k) 3 ∧ oI (xK (actX σ i) k) 4 = oI (xK σ k) 4) := by
  unfold actX
  split
  · refine ⟨rfl, rfl, rfl, rfl, rfl, rfl, fun _ _ => rfl, fun k => ?_⟩
    show oI (va_up _ _ _ k) 3 = _ ∧ oI (va_up _ _ _ k) 4 = _
    unfold va_up
    split
    · next h => rw [h]; exact ⟨rfl, rfl⟩
    · exact ⟨rfl, rfl⟩
  split
  · exact ⟨rfl, rfl, rfl, rfl, rfl, rfl, fun _ _ => rfl, fun _ => ⟨rfl, rfl⟩⟩
  split
  · exact ⟨rfl, rfl, rfl, rfl, rfl, rfl, fun _ _ => rfl, fun _ => ⟨rfl, rfl⟩⟩
  split
  · refine ⟨rfl, rfl, rfl, rfl, rfl, rfl, fun j hj => ?_, fun _ => ⟨rfl, rfl⟩⟩
    show oI (sI (xE σ) 8 _) j = _
    rw [oI_I, if_neg (by omega)]
  split
  · exact ⟨rfl, rfl, rfl, rfl, rfl, rfl, fun _ _ => rfl, fun _ => ⟨rfl, rfl⟩⟩
  split
  · refine ⟨rfl, rfl, rfl, rfl, rfl, rfl, fun j hj => ?_, fun _ => ⟨rfl, rfl⟩⟩
    show oI (sI (sJ (xE σ) 10 _) 9 _) j = _
    rw [oI_I, if_neg (by omega), oI_J]
  · exact ⟨rfl, rfl, rfl, rfl, rfl, rfl, fun _ _ => rfl, fun _ => ⟨rfl, rfl⟩⟩
theorem act_B {σ : Xs} {i : Nat} (h : xB σ) : xB (actX σ i) := by
  obtain ⟨h1, h2, h3, h4, -, -, h7, -⟩ := act_keep (σ := σ) (i := i)
  unfold xB
  rw [h1, h2, h3, h4, h7 6 (by omega), h7 7 (by omega)]
  exact h
theorem cL_0 {T : Ob} {c i : Nat} (h : ¬ oA T 0 i = 1) : cL T c (i + 1) = cL T c i := by
  show _ + (if _ then _ else _) = _
  rw [if_neg (fun q => h q.1)]; rfl
theorem cR_0 {T : Ob} {c i : Nat} (h : ¬ oA T 0 i = 0) : cR T c (i + 1) = cR T c i := by
  show _ + (if _ then _ else _) = _
  rw [if_neg (fun q => h q.1)]; rfl
theorem cL_1 {T : Ob} {c c' i : Nat} (h : oA T 0 i = 1) (hp : oA T 1 i = nI c) (hc : c < 2 ^ 31) (hc' : c' < 2 ^ 31) : cL T c' (i + 1) = cL T c' i + (if c' = c then 1 else 0) := by
  show _ + (if _ then _ else _) = _
  rw [hp]
  by_cases e : c' = c
  · subst e; rw [if_pos ⟨h, rfl⟩, if_pos rfl]
  · rw [if_neg (fun q => e ((nI_eq hc' hc).mp q.2.symm)), if_neg e]
theorem cR_1 {T : Ob} {c c' i : Nat} (h : oA T 0 i = 0) (hp : oA T 1 i = nI c) (hc : c < 2 ^ 31) (hc' : c' < 2 ^ 31) : cR T c' (i + 1) = cR T c' i + (if c' = c then 1 else 0) := by
  show _ + (if _ then _ else _) = _
  rw [hp]
  by_cases e : c' = c
  · subst e; rw [if_pos ⟨h, rfl⟩, if_pos rfl]
  · rw [if_neg (fun q => e ((nI_eq hc' hc).mp q.2.symm)), if_neg e]
/-- a column of which the count, the kinds are as before, the passes as before or few more -/
theorem LI_same {σ σ' : Xs} {i : Nat} (hI : LI σ i) (hT : xT σ' = xT σ) (hC : xC σ' = xC σ) (h1 : ¬ oA (xT σ) 0 i = 1) (h0 : ¬ oA (xT σ) 0 i = 0) (hL : ∀ c, c < xC σ → oI (xL σ' c) 4 = oI (xL σ c) 4 ∧ (∀ j, oA (xL σ' c) 0 j = oA (xL σ c) 0 j) ∧ ∀ j, j < cL (xT σ) c i → ∀ q, q ≤ 20 * i → oA (xL σ c) 1 j = nI q → ∃ q', q' ≤ 20 * (i + 1) ∧ oA (xL σ' c) 1 j = nI q') (hK : ∀ k, k < 4 → oI (xK σ' k) 2 = oI (xK σ k) 2) : LI σ' (i + 1) := by
  refine ⟨fun c hc => ?_, fun k hk => ?_⟩
  · rw [hC] at hc
    rw [hT, cL_0 h1]
    obtain ⟨a1, a2, a3⟩ := hI.1 c hc
    obtain ⟨b1, b2, b3⟩ := hL c hc
    refine ⟨by rw [b1]; exact a1, a2, fun j hj => ?_⟩
    obtain ⟨⟨q, hq, e⟩, q2, hq2, e2⟩ := a3 j hj
    exact ⟨⟨q, hq, by rw [b2]; exact e⟩, b3 j hj q2 hq2 e2⟩
  · rw [hT, cR_0 h0, hK k hk]
    exact hI.2 k hk
theorem LI_act {σ : Xs} {i : Nat} (hB : xB σ) (hI : LI σ i) (hE : EvS (xT σ) (xC σ) i) : LI (actX σ i) (i + 1) := by
  have hC := hB.1
  rcases hE with ⟨hw0, k, hk, hpl, hcr⟩ | ⟨hw0, c, hc, hpl, hcl, q, hq, hnu⟩ | ⟨hw0, c, hc, hpl, hcl, t, ht, hnu⟩ | ⟨hw0, t, ht, hnu⟩ | ⟨hw0, c, hc, hpl⟩ | ⟨hw0, c, hc, hpl⟩
  · have e : actX σ i = xsK σ k (rowF (xK σ k) (rc (xK σ k)) (oB (xT σ) 3 i) (oA (xT σ) 2 i)) := by unfold actX; rw [if_pos hw0, hpl, nI_clamp (by omega)]
    rw [e]
    refine ⟨fun c hc => ?_, fun k' hk' => ?_⟩
    · obtain ⟨a1, a2, a3⟩ := hI.1 c hc
      show oI (xL σ c) 4 = nI (cL (xT σ) c (i + 1)) ∧ cL (xT σ) c (i + 1) ≤ 10 ∧ ∀ j, j < cL (xT σ) c (i + 1) → _
      rw [cL_0 (by rw [hw0]; decide)]
      refine ⟨a1, a2, fun j hj => ?_⟩
      obtain ⟨b1, q2, hq2, e2⟩ := a3 j hj
      exact ⟨b1, q2, by omega, e2⟩
    · show oI (va_up (xK σ) k _ k') 2 = nI (cR (xT σ) k' (i + 1)) ∧ cR (xT σ) k' (i + 1) ≤ 4
      rw [cR_1 hw0 hpl (by omega) (by omega)]
      obtain ⟨a1, a2⟩ := hI.2 k' hk'
      by_cases ek : k' = k
      · subst ek
        rw [va_up_self, if_pos rfl]
        refine ⟨?_, by omega⟩
        show nI (rc (xK σ k') + 1) = _
        rw [(LI_rc hI hk').1]
      · rw [va_up_ne _ _ ek, if_neg ek]
        exact ⟨a1, a2⟩
  · have e : actX σ i = xsL σ c (layF (xL σ c) (lc (xL σ c)) (oA (xT σ) 2 i) (oB (xT σ) 3 i) (oB (xT σ) 4 i)) := by unfold actX; rw [if_neg (by rw [hw0]; decide), if_pos hw0, hpl, nI_clamp (by omega)]
    rw [e]
    refine ⟨fun c' hc' => ?_, fun k' hk' => ?_⟩
    · have hc'' : c' < xC σ := hc'
      obtain ⟨a1, a2, a3⟩ := hI.1 c' hc'
      show oI (va_up (xL σ) c _ c') 4 = nI (cL (xT σ) c' (i + 1)) ∧ cL (xT σ) c' (i + 1) ≤ 10 ∧ ∀ j, j < cL (xT σ) c' (i + 1) → (∃ q, q < 4 ∧ oA (va_up (xL σ) c _ c') 0 j = nI q) ∧ ∃ q, q ≤ 20 * (i + 1) ∧ oA (va_up (xL σ) c _ c') 1 j = nI q
      rw [cL_1 hw0 hpl (by omega) (by omega)]
      by_cases ec : c' = c
      · subst ec
        rw [va_up_self, if_pos rfl]
        have hl := (LI_lc hI hc).1
        refine ⟨?_, by omega, fun j hj => ?_⟩
        · show nI (lc (xL σ c') + 1) = _
          rw [hl]
        · show (∃ q, q < 4 ∧ upd (oA (xL σ c') 0) (lc (xL σ c')) (oA (xT σ) 2 i) j = nI q) ∧ ∃ q, q ≤ 20 * (i + 1) ∧ upd (oA (xL σ c') 1) (lc (xL σ c')) 0 j = nI q
          by_cases ej : j = lc (xL σ c')
          · subst ej
            rw [pk_us, pk_us]
            exact ⟨⟨q, hq, hnu⟩, 0, by omega, rfl⟩
          · rw [pk_un ej, pk_un ej]
            obtain ⟨b1, q2, hq2, e2⟩ := a3 j (by omega)
            exact ⟨b1, q2, by omega, e2⟩
      · rw [va_up_ne _ _ ec, if_neg ec]
        refine ⟨a1, a2, fun j hj => ?_⟩
        obtain ⟨b1, q2, hq2, e2⟩ := a3 j hj
        exact ⟨b1, q2, by omega, e2⟩
    · show oI (xK σ k') 2 = nI (cR (xT σ) k' (i + 1)) ∧ cR (xT σ) k' (i + 1) ≤ 4
      rw [cR_0 (by rw [hw0]; decide)]
      exact hI.2 k' hk'
  · have e : actX σ i = xsL σ c (prO (xL σ c) (lc (xL σ c) - 1) (oA (xL σ c) 1 (lc (xL σ c) - 1)).toNatClampNeg t) := by unfold actX; rw [if_neg (by rw [hw0]; decide), if_neg (by rw [hw0]; decide), if_pos hw0, hpl, hnu, nI_clamp (by omega), nI_clamp (by omega)]
    rw [e]
    refine LI_same hI rfl rfl (by rw [hw0]; decide) (by rw [hw0]; decide) (fun c' hc' => ?_) (fun _ _ => rfl)
    show oI (va_up (xL σ) c _ c') 4 = _ ∧ (∀ j, oA (va_up (xL σ) c _ c') 0 j = _) ∧ ∀ j, _ → ∀ q, _ → _ → ∃ q', _ ∧ oA (va_up (xL σ) c _ c') 1 j = nI q'
    by_cases ec : c' = c
    · subst ec
      rw [va_up_self]
      refine ⟨rfl, fun _ => rfl, fun j hj q hq e2 => ?_⟩
      show ∃ q', _ ∧ upd (oA (xL σ c') 1) (lc (xL σ c') - 1) (nI ((oA (xL σ c') 1 (lc (xL σ c') - 1)).toNatClampNeg + t)) j = nI q'
      by_cases ej : j = lc (xL σ c') - 1
      · subst ej
        rw [pk_us, e2]
        have hl := (LI_lc hI hc).1
        by_cases hbig : q < 2 ^ 31
        · rw [nI_clamp hbig]
          exact ⟨q + t, by omega, rfl⟩
        · obtain ⟨-, q3, hq3, e3⟩ := (hI.1 c' hc).2.2 (lc (xL σ c') - 1) (by omega)
          rw [← e2, e3]
          by_cases h3 : q3 < 2 ^ 31
          · rw [nI_clamp h3]; exact ⟨q3 + t, by omega, rfl⟩
          · have h4 : (nI q3).toNatClampNeg ≤ 20 * i := by
              have := Int32.toNatClampNeg_lt (nI q3)
              omega
            exact ⟨_, by omega, rfl⟩
      · rw [pk_un ej]
        exact ⟨q, by omega, e2⟩
    · rw [va_up_ne _ _ ec]
      exact ⟨rfl, fun _ => rfl, fun j hj q hq e2 => ⟨q, by omega, e2⟩⟩
  · have e : actX σ i = pyF σ t := by unfold actX; rw [if_neg (by rw [hw0]; decide), if_neg (by rw [hw0]; decide), if_neg (by rw [hw0]; decide), if_pos hw0, hnu, nI_clamp (by omega)]
    rw [e]
    refine LI_same hI rfl rfl (by rw [hw0]; decide) (by rw [hw0]; decide) (fun c' hc' => ?_) (fun _ _ => rfl)
    have e2 : xL (pyF σ t) c' = stO (xK σ) (xL σ c') (lc (xL σ c')) t 0 := if_pos hc'
    rw [e2]
    exact ⟨rfl, fun _ => rfl, fun j hj q hq e2 => ⟨q, by omega, e2⟩⟩
  · have e : actX σ i = xsL σ c (sI (xL σ c) 5 (oI (xL σ c) 5 + oA (xT σ) 2 i)) := by unfold actX; rw [if_neg (by rw [hw0]; decide), if_neg (by rw [hw0]; decide), if_neg (by rw [hw0]; decide), if_neg (by rw [hw0]; decide), if_pos hw0, hpl, nI_clamp (by omega)]
    rw [e]
    refine LI_same hI rfl rfl (by rw [hw0]; decide) (by rw [hw0]; decide) (fun c' hc' => ?_) (fun _ _ => rfl)
    show oI (va_up (xL σ) c _ c') 4 = _ ∧ (∀ j, oA (va_up (xL σ) c _ c') 0 j = _) ∧ ∀ j, _ → ∀ q, _ → _ → ∃ q', _ ∧ oA (va_up (xL σ) c _ c') 1 j = nI q'
    by_cases ec : c' = c
    · subst ec
      rw [va_up_self]
      exact ⟨rfl, fun _ => rfl, fun j hj q hq e2 => ⟨q, by omega, e2⟩⟩
    · rw [va_up_ne _ _ ec]
      exact ⟨rfl, fun _ => rfl, fun j hj q hq e2 => ⟨q, by omega, e2⟩⟩
  · have e : actX σ i = cmF σ c (oB (xT σ) 3 i) := by unfold actX; rw [if_neg (by rw [hw0]; decide), if_neg (by rw [hw0]; decide), if_neg (by rw [hw0]; decide), if_neg (by rw [hw0]; decide), if_neg (by rw [hw0]; decide), if_pos hw0, hpl, nI_clamp (by omega)]
    rw [e]
    exact LI_same hI rfl rfl (by rw [hw0]; decide) (by rw [hw0]; decide) (fun c' hc' => ⟨rfl, fun _ => rfl, fun j hj q hq e2 => ⟨q, by omega, e2⟩⟩) (fun _ _ => rfl)
/-- all done anew, up to the event i -/
def rsX (σ : Xs) : Xs := xsKs (xsLs (xsE σ (sJ (sI (sI (xE σ) 8 0) 9 0) 10 0)) (fun c => if c < xC σ then sI (sI (xL σ c) 4 0) 5 0 else xL σ c)) (fun k => if k < 4 then sI (xK σ k) 2 0 else xK σ k)
def repX (σ : Xs) : Nat → Xs
  | 0 => rsX σ
  | i + 1 => actX (repX σ i) i
theorem rep_keep {σ : Xs} {i : Nat} : xT (repX σ i) = xT σ ∧ xC (repX σ i) = xC σ ∧ xSc (repX σ i) = xSc σ ∧ xPc (repX σ i) = xPc σ ∧ xS (repX σ i) = xS σ ∧ xP (repX σ i) = xP σ ∧ (∀ j, j < 8 → oI (xE (repX σ i)) j = oI (xE σ) j) ∧ (∀ k, oI (xK (repX σ i) k) 3 = oI (xK σ k) 3 ∧ oI (xK (repX σ i) k) 4 = oI (xK σ k) 4) := by
  induction i with
  | zero =>
    refine ⟨rfl, rfl, rfl, rfl, rfl, rfl, fun j hj => ?_, fun k => ?_⟩
    · show oI (sJ (sI (sI (xE σ) 8 0) 9 0) 10 0) j = _
      rw [oI_J, oI_I, if_neg (by omega), oI_I, if_neg (by omega)]
    · show oI (if k < 4 then sI (xK σ k) 2 0 else xK σ k) 3 = _ ∧ oI (if k < 4 then sI (xK σ k) 2 0 else xK σ k) 4 = _
      split
      · exact ⟨rfl, rfl⟩
      · exact ⟨rfl, rfl⟩
  | succ i ih =>
    obtain ⟨a1, a2, a3, a4, a5, a6, a7, a8⟩ := act_keep (σ := repX σ i) (i := i)
    obtain ⟨b1, b2, b3, b4, b5, b6, b7, b8⟩ := ih
    exact ⟨a1.trans b1, a2.trans b2, a3.trans b3, a4.trans b4, a5.trans b5, a6.trans b6, fun j hj => (a7 j hj).trans (b7 j hj), fun k => ⟨(a8 k).1.trans (b8 k).1, (a8 k).2.trans (b8 k).2⟩⟩
theorem rep_B {σ : Xs} {i : Nat} (h : xB σ) : xB (repX σ i) := by
  obtain ⟨h1, h2, h3, h4, -, -, h7, -⟩ := rep_keep (σ := σ) (i := i)
  unfold xB
  rw [h1, h2, h3, h4, h7 6 (by omega), h7 7 (by omega)]
  exact h
theorem rep_LI {σ : Xs} {n i : Nat} (hB : xB σ) (hv : vH (xT σ) (xC σ) n) (hi : i ≤ n) : LI (repX σ i) i := by
  induction i with
  | zero =>
    refine ⟨fun c hc => ?_, fun k hk => ?_⟩
    · have e : xL (repX σ 0) c = sI (sI (xL σ c) 4 0) 5 0 := if_pos hc
      rw [e]
      exact ⟨rfl, Nat.zero_le _, fun j hj => absurd hj (Nat.not_lt_zero _)⟩
    · have e : xK (repX σ 0) k = sI (xK σ k) 2 0 := if_pos hk
      rw [e]
      exact ⟨rfl, Nat.zero_le _⟩
  | succ i ih =>
    obtain ⟨h1, h2, -⟩ := rep_keep (σ := σ) (i := i)
    exact LI_act (rep_B hB) (ih (by omega)) (by rw [h1, h2]; exact hv i (by omega))
