/-! THE FIT beside the reference's; the state at rest as a whole -/
def cS (T : Ob) : Nat → Nat
  | 0 => 0
  | i + 1 => cS T i + (if oA T 0 i = 5 then 1 else 0)
/-- what is the same but for the factors and the live parts -/
def kpX (ρ ρ' : Xs) : Prop := xT ρ' = xT ρ ∧ xC ρ' = xC ρ ∧ xSc ρ' = xSc ρ ∧ xPc ρ' = xPc ρ ∧ xS ρ' = xS ρ ∧ xP ρ' = xP ρ ∧ (∀ j, j < 8 → oI (xE ρ') j = oI (xE ρ) j) ∧ ∀ k, oI (xK ρ' k) 3 = oI (xK ρ k) 3
def sF (ρ : Xs) (k : Nat) (v : Int32) : Xs := xsK ρ k (sI (xK ρ k) 4 v)
def Nr (σ : Xs) (o : Ob) : Prop := oI o 0 = nI (xC σ) ∧ (∀ i, i < tc (xT σ) → oA o 5 i = oA (xT σ) 0 i ∧ oA o 6 i = oA (xT σ) 1 i ∧ oA o 7 i = oA (xT σ) 2 i ∧ oB o 8 i = oB (xT σ) 3 i ∧ oB o 9 i = oB (xT σ) 4 i) ∧ oI o 4 = nI (tc (xT σ)) ∧ oI o 1 = oI (xE σ) 0 ∧ (∀ k, k < 4 → oA o 2 k = oI (xK σ k) 3) ∧ Srel σ o ∧ Prel σ o
def Fc (σ : Xs) (o : Ob) : Prop := ∀ k, k < 4 → oA o 3 k = oI (xK σ k) 4
def Gk (σ : Xs) : Prop := gd σ ∧ xD σ ∧ xPh σ ∧ xSv σ ∧ cS (xT σ) (tc (xT σ)) ≤ 12
def Fr (C N : Nat) (ρ : Xs) (o : Ob) : Prop := (xC ρ = C ∧ tc (xT ρ) = N) ∧ Gk ρ ∧ Nr ρ o ∧ Fc ρ o ∧ Lrel (doX ρ) o
def mFa (o : Ob) (C N k : Nat) (v : Int32) : Ob := mRep (sA o 3 (upd (oA o 3) k v)) C N
def mBt (o : Ob) (C N k : Nat) (w : Int32) : Bool × Ob :=
  if wi (oA o 3 k + w).toInt64 0 3000 = 0 then (false, o)
  else if oJ (mFa o C N k (oA o 3 k + w)) 21 < oJ o 21 then (true, mFa o C N k (oA o 3 k + w))
  else (false, mFa (mFa o C N k (oA o 3 k + w)) C N k (oA o 3 k))
def mLb (C N k : Nat) : Nat → Ob → Bool × Ob
  | 0, o => (false, o)
  | n + 1, o => if (mBt o C N k (stp (n + 1))).1 = true then (true, (mBt o C N k (stp (n + 1))).2) else mLb C N k n (mBt o C N k (stp (n + 1))).2
def mFk (C N : Nat) (o : Ob) : Nat → Bool × Ob
  | 0 => (false, o)
  | k + 1 => ((mLb C N k 2 (mFk C N o k).2).1 || (mFk C N o k).1, (mLb C N k 2 (mFk C N o k).2).2)
def mFr (C N : Nat) : Nat → Ob → Nat → Ob × Nat
  | 0, o, cn => (o, cn)
  | r + 1, o, cn => if (mFk C N o 4).1 = true then mFr C N r (mFk C N o 4).2 (cn + 1) else ((mFk C N o 4).2, cn)
section FT
variable {σ ρ ρ' : Xs} {o m : Ob} {C N k : Nat} {v fc : Int32}
theorem kpX.sy (h : kpX ρ ρ') : kpX ρ' ρ := ⟨h.1.symm, h.2.1.symm, h.2.2.1.symm, h.2.2.2.1.symm, h.2.2.2.2.1.symm, h.2.2.2.2.2.1.symm, fun j hj => (h.2.2.2.2.2.2.1 j hj).symm, fun k => (h.2.2.2.2.2.2.2 k).symm⟩
theorem kp_do : kpX ρ (doX ρ) := by
  obtain ⟨h1, h2, h3, h4, h5, h6, h7, h8⟩ := rep_keep (σ := ρ) (i := tc (xT ρ))
  exact ⟨h1, h2, h3, h4, h5, h6, h7, fun k => (h8 k).1⟩
theorem xK_sF {j : Nat} : xK (sF ρ k v) j = if j = k then sI (xK ρ k) 4 v else xK ρ j := rfl
theorem kp_sF : kpX ρ (sF ρ k v) := by
  refine ⟨rfl, rfl, rfl, rfl, rfl, rfl, fun _ _ => rfl, fun j => ?_⟩
  rw [xK_sF]
  split
  · next h => rw [h]; rfl
  · rfl
theorem sF_self : sF ρ k (oI (xK ρ k) 4) = ρ := by
  have e : sI (xK ρ k) 4 (oI (xK ρ k) 4) = xK ρ k := by
    refine Ob.ext (fun j => ?_) (fun _ => rfl) (fun _ => rfl) (fun _ => rfl)
    rw [oI_I]
    split
    · next h => rw [h]
    · rfl
  unfold sF
  rw [e, xsK_self]
theorem Gk.kp (h : Gk ρ) (k : kpX ρ ρ') : Gk ρ' := by
  obtain ⟨k1, k2, k3, k4, k5, k6, k7, k8⟩ := k
  unfold Gk gd xB xD xPh xSv at *
  rw [k1, k2, k3, k4, k5, k6, k7 6 (by omega), k7 7 (by omega), k7 0 (by omega)]
  simp only [k8]
  exact h
theorem Nr.kp (h : Nr ρ o) (k : kpX ρ ρ') : Nr ρ' o := by
  obtain ⟨k1, k2, k3, k4, k5, k6, k7, k8⟩ := k
  unfold Nr Srel Prel at *
  rw [k1, k2, k3, k4, k5, k6, k7 0 (by omega)]
  simp only [k8]
  exact h
theorem Nr.km {o' : Ob} {g : Nat → Int32} (h : Nr ρ o) (k : keepM (sA o 3 g) o') : Nr ρ o' := by
  obtain ⟨g1, g2, g3, g4, g5, g6, g7, g8, g9, g10, g11, g12, g13, g14, g15, g16, g17⟩ := k
  unfold Nr Srel Prel at *
  rw [g1, g2, g3, g4, g5, g6, g8, g9, g10, g11, g12, g13, g14, g15, g16, g17]
  exact h
theorem Nr.Hrel (h : Nr ρ o) (f : Fc ρ o) : Hrel ρ o (tc (xT ρ)) := ⟨h.1, f, h.2.1⟩
theorem Rl.split (h : Rl σ o) : Nr σ o ∧ Fc σ o := ⟨⟨h.1.1, h.1.2.2, h.2.2.1, h.2.2.2.1, h.2.2.2.2.1, h.2.2.2.2.2.1, h.2.2.2.2.2.2⟩, h.1.2.1⟩
theorem Rl.join (h : Nr σ o) (f : Fc σ o) (g : Lrel σ o) : Rl σ o := ⟨h.Hrel f, g, h.2.2.1, h.2.2.2.1, h.2.2.2.2.1, h.2.2.2.2.2.1, h.2.2.2.2.2.2⟩
theorem Lrel_tr (hC : xC ρ' = xC ρ) (h : Lrel ρ m) (h' : Lrel ρ' m) (g : Lrel ρ o) : Lrel ρ' o := by
  refine ⟨fun c hc => ?_, fun k hk => ?_, g.2.2.1.trans (h.2.2.1.symm.trans h'.2.2.1), g.2.2.2.1.trans (h.2.2.2.1.symm.trans h'.2.2.2.1), g.2.2.2.2.trans (h.2.2.2.2.symm.trans h'.2.2.2.2)⟩
  · have hc2 : c < xC ρ := by rw [← hC]; exact hc
    obtain ⟨a1, a2, a3⟩ := h.1 c hc2
    obtain ⟨b1, b2, b3⟩ := h'.1 c hc
    obtain ⟨g1, g2, g3⟩ := g.1 c hc2
    have el : lc (xL ρ' c) = lc (xL ρ c) := by unfold lc; rw [← b1, a1]
    refine ⟨g1.trans (a1.symm.trans b1), g2.trans (a2.symm.trans b2), fun l hl => ?_⟩
    obtain ⟨q1, q2, q3, q4⟩ := b3 l hl
    rw [el] at hl
    obtain ⟨p1, p2, p3, p4⟩ := a3 l hl
    obtain ⟨r1, r2, r3, r4⟩ := g3 l hl
    exact ⟨r1.trans (p1.symm.trans q1), r2.trans (p2.symm.trans q2), r3.trans (p3.symm.trans q3), r4.trans (p4.symm.trans q4)⟩
  · obtain ⟨a1, a3⟩ := h.2.1 k hk
    obtain ⟨b1, b3⟩ := h'.2.1 k hk
    obtain ⟨g1, g3⟩ := g.2.1 k hk
    have el : rc (xK ρ' k) = rc (xK ρ k) := by unfold rc; rw [← b1, a1]
    refine ⟨g1.trans (a1.symm.trans b1), fun l hl => ?_⟩
    obtain ⟨q1, q2⟩ := b3 l hl
    rw [el] at hl
    obtain ⟨p1, p2⟩ := a3 l hl
    obtain ⟨r1, r2⟩ := g3 l hl
    exact ⟨r1.trans (p1.symm.trans q1), r2.trans (p2.symm.trans q2)⟩
theorem do_sim (hG : gd ρ) (h : Hrel ρ m (tc (xT ρ))) : Lrel (doX ρ) (mRep m (xC ρ) (tc (xT ρ))) := rep_sim hG.1 hG.2 hG.1.2.2.2.2.2.2 h (Nat.le_refl _)
theorem Lrel_do (hG : gd ρ) (hG' : gd ρ') (hk : kpX ρ ρ') (h : Hrel ρ m (tc (xT ρ))) (h' : Hrel ρ' m (tc (xT ρ'))) (g : Lrel (doX ρ) o) : Lrel (doX ρ') o := by
  have h2 := do_sim hG' h'
  rw [hk.1, hk.2.1] at h2
  refine Lrel_tr ?_ (do_sim hG h) h2 g
  rw [kp_do.2.1, kp_do.2.1, hk.2.1]
theorem Fr.do (h : Fr C N ρ o) : Fr C N (doX ρ) o := by
  obtain ⟨⟨h1, h2⟩, h3, h4, h5, h6⟩ := h
  have hF : Fc (doX ρ) o := fun k hk => (h5 k hk).trans (rep_keep.2.2.2.2.2.2.2 k).2.symm
  exact ⟨⟨by rw [kp_do.2.1]; exact h1, by rw [kp_do.1]; exact h2⟩, h3.kp kp_do, h4.kp kp_do, hF, Lrel_do h3.1 (h3.kp kp_do).1 kp_do (h4.Hrel h5) ((h4.kp kp_do).Hrel hF) h6⟩
theorem Fr.le (h : Fr C N ρ o) : oJ o 21 = oJ (xE (doX ρ)) 10 := h.2.2.2.2.2.2.2.2
theorem fa_Fr (hC : xC ρ = C ∧ tc (xT ρ) = N) (hG : Gk ρ) (hN : Nr ρ o) (hF : ∀ j, j < 4 → j ≠ k → oA o 3 j = oI (xK ρ j) 4) : Fr C N (sF ρ k v) (mFa o C N k v) := by
  have hF2 : Fc (sF ρ k v) (sA o 3 (upd (oA o 3) k v)) := by
    intro j hj
    show upd (oA o 3) k v j = oI (if j = k then sI (xK ρ k) 4 v else xK ρ j) 4
    by_cases e : j = k
    · subst e; rw [pk_us, if_pos rfl]; rfl
    · rw [pk_un e, if_neg e]; exact hF j hj e
  have hH : Hrel (sF ρ k v) (sA o 3 (upd (oA o 3) k v)) (tc (xT (sF ρ k v))) := ((hN.kp kp_sF).km keepM.rf).Hrel hF2
  have hL := do_sim (hG.kp kp_sF).1 hH
  rw [show xC (sF ρ k v) = C from hC.1, show tc (xT (sF ρ k v)) = N from hC.2] at hL
  refine ⟨hC, hG.kp kp_sF, (hN.kp kp_sF).km mRep_keep, fun j hj => ?_, hL⟩
  unfold mFa
  rw [mRep_keep.2.2.2.2.2.2.1]
  exact hF2 j hj
theorem lb_rel {n : Nat} {bf : Int64} (hk : k < 4) (hF : Fr C N (sF ρ k fc) o) (hb : bf = oJ o 21) : Fr C N (lbR fc k bf n ρ).2 (mLb C N k n o).2 ∧ (lbR fc k bf n ρ).1 = oJ (mLb C N k n o).2 21 ∧ ((mLb C N k n o).1 = true → (lbR fc k bf n ρ).1 < bf) ∧ (¬ (mLb C N k n o).1 = true → (lbR fc k bf n ρ).1 = bf) := by
  induction n generalizing ρ o with
  | zero => exact ⟨hF, hb, fun h => absurd h Bool.false_ne_true, fun _ => rfl⟩
  | succ n ih =>
    have hfc : oA o 3 k = fc := (hF.2.2.2.1 k hk).trans (by rw [xK_sF, if_pos rfl]; rfl)
    have hoth : ∀ j, j < 4 → j ≠ k → oA o 3 j = oI (xK ρ j) 4 := fun j hj e => (hF.2.2.2.1 j hj).trans (by rw [xK_sF, if_neg e])
    by_cases h1 : wi (fc + stp (n + 1)).toInt64 0 3000 = 0
    · have e : mBt o C N k (stp (n + 1)) = (false, o) := by unfold mBt; rw [hfc, if_pos h1]
      have e2 : mLb C N k (n + 1) o = mLb C N k n o := by
        show (if (mBt o C N k (stp (n + 1))).1 = true then _ else mLb C N k n (mBt o C N k (stp (n + 1))).2) = _
        rw [e, if_neg Bool.false_ne_true]
      rw [lbR_o h1, e2]
      exact ih hF hb
    · have F1 : Fr C N (sF ρ k (fc + stp (n + 1))) (mFa o C N k (fc + stp (n + 1))) := fa_Fr hF.1 (hF.2.1.kp kp_sF.sy) (hF.2.2.1.kp kp_sF.sy) hoth
      by_cases h2 : oJ (xE (doX (sF ρ k (fc + stp (n + 1))))) 10 < bf
      · have e : mBt o C N k (stp (n + 1)) = (true, mFa o C N k (fc + stp (n + 1))) := by unfold mBt; rw [hfc, if_neg h1, if_pos (by rw [F1.le, ← hb]; exact h2)]
        have e2 : mLb C N k (n + 1) o = (true, mFa o C N k (fc + stp (n + 1))) := by
          show (if (mBt o C N k (stp (n + 1))).1 = true then (true, (mBt o C N k (stp (n + 1))).2) else _) = _
          rw [e, if_pos rfl]
        rw [lbR_y h1 h2, e2]
        exact ⟨F1.do, F1.le.symm, fun _ => h2, fun h => absurd rfl h⟩
      · have e : mBt o C N k (stp (n + 1)) = (false, mFa (mFa o C N k (fc + stp (n + 1))) C N k fc) := by unfold mBt; rw [hfc, if_neg h1, if_neg (by rw [F1.le, ← hb]; exact h2)]
        have e2 : mLb C N k (n + 1) o = mLb C N k n (mFa (mFa o C N k (fc + stp (n + 1))) C N k fc) := by
          show (if (mBt o C N k (stp (n + 1))).1 = true then _ else mLb C N k n (mBt o C N k (stp (n + 1))).2) = _
          rw [e, if_neg Bool.false_ne_true]
        rw [lbR_n h1 h2, e2]
        have F2 : Fr C N (doX (sF ρ k (fc + stp (n + 1)))) (mFa o C N k (fc + stp (n + 1))) := F1.do
        have F3 : Fr C N (sF (doX (sF ρ k (fc + stp (n + 1)))) k fc) (mFa (mFa o C N k (fc + stp (n + 1))) C N k fc) := fa_Fr F2.1 F2.2.1 F2.2.2.1 (fun j hj _ => F2.2.2.2.1 j hj)
        refine ih F3 ?_
        have hK : kpX (sF ρ k fc) (sF (doX (sF ρ k (fc + stp (n + 1)))) k fc) := by
          obtain ⟨a1, a2, a3, a4, a5, a6, a7, a8⟩ := kp_do (ρ := sF ρ k (fc + stp (n + 1)))
          refine ⟨a1, a2, a3, a4, a5, a6, a7, fun j => ?_⟩
          rw [(kp_sF (ρ := doX (sF ρ k (fc + stp (n + 1)))) (k := k) (v := fc)).2.2.2.2.2.2.2 j, a8 j, (kp_sF (ρ := ρ) (k := k) (v := fc + stp (n + 1))).2.2.2.2.2.2.2 j, (kp_sF (ρ := ρ) (k := k) (v := fc)).2.2.2.2.2.2.2 j]
        have hFo : Fc (sF (doX (sF ρ k (fc + stp (n + 1)))) k fc) o := by
          intro j hj
          rw [xK_sF]
          by_cases ej : j = k
          · subst ej; rw [if_pos rfl]; exact hfc
          · rw [if_neg ej, hoth j hj ej]
            have := (rep_keep (σ := sF ρ k (fc + stp (n + 1))) (i := tc (xT (sF ρ k (fc + stp (n + 1)))))).2.2.2.2.2.2.2 j
            refine Eq.trans ?_ this.2.symm
            rw [xK_sF, if_neg ej]
        have hL := Lrel_do hF.2.1.1 F3.2.1.1 hK (hF.2.2.1.Hrel hF.2.2.2.1) ((hF.2.2.1.kp hK).Hrel hFo) hF.2.2.2.2
        rw [F3.le, hb, hL.2.2.2.2]
theorem fk_rel {le : Int64} (hF : Fr C N ρ o) (hl : le = oJ o 21) {n : Nat} (hn : n ≤ 4) : Fr C N (fkX le ρ n).2 (mFk C N o n).2 ∧ (fkX le ρ n).1 = oJ (mFk C N o n).2 21 ∧ ((mFk C N o n).1 = true → (fkX le ρ n).1 < le) ∧ (¬ (mFk C N o n).1 = true → (fkX le ρ n).1 = le) := by
  induction n with
  | zero => exact ⟨hF, hl, fun h => absurd h Bool.false_ne_true, fun _ => rfl⟩
  | succ n ih =>
    obtain ⟨h1, h2, h3, h4⟩ := ih (by omega)
    have h1' : Fr C N (sF (fkX le ρ n).2 n (oI (xK (fkX le ρ n).2 n) 4)) (mFk C N o n).2 := by rw [sF_self]; exact h1
    obtain ⟨a1, a2, a3, a4⟩ := lb_rel (n := 2) (k := n) (by omega) h1' h2
    refine ⟨a1, a2, fun h => ?_, fun h => ?_⟩
    · show (lbR _ n (fkX le ρ n).1 2 (fkX le ρ n).2).1 < le
      have hb : ((mLb C N n 2 (mFk C N o n).2).1 || (mFk C N o n).1) = true := h
      rw [Bool.or_eq_true] at hb
      by_cases q : (mLb C N n 2 (mFk C N o n).2).1 = true
      · have := a3 q
        by_cases q2 : (mFk C N o n).1 = true
        · exact Int64.lt_trans this (h3 q2)
        · rw [h4 q2] at this ⊢; exact this
      · rw [a4 q]
        exact h3 (hb.resolve_left q)
    · show (lbR _ n (fkX le ρ n).1 2 (fkX le ρ n).2).1 = le
      have hb : ¬ ((mLb C N n 2 (mFk C N o n).2).1 || (mFk C N o n).1) = true := h
      rw [Bool.or_eq_true, not_or] at hb
      rw [a4 hb.1, h4 hb.2]
theorem fr_rel {le : Int64} {r cn : Nat} (hF : Fr C N ρ o) (hl : le = oJ o 21) : (frX r le ρ cn).2 = (mFr C N r o cn).2 ∧ Fr C N (frX r le ρ cn).1 (mFr C N r o cn).1 := by
  induction r generalizing ρ o le cn with
  | zero => exact ⟨rfl, hF⟩
  | succ r ih =>
    obtain ⟨h1, h2, h3, h4⟩ := fk_rel hF hl (Nat.le_refl 4)
    show (if (fkX le ρ 4).1 < le then frX r (fkX le ρ 4).1 (fkX le ρ 4).2 (cn + 1) else ((fkX le ρ 4).2, cn)).2 = (if (mFk C N o 4).1 = true then mFr C N r (mFk C N o 4).2 (cn + 1) else ((mFk C N o 4).2, cn)).2 ∧ Fr C N (if (fkX le ρ 4).1 < le then frX r (fkX le ρ 4).1 (fkX le ρ 4).2 (cn + 1) else ((fkX le ρ 4).2, cn)).1 (if (mFk C N o 4).1 = true then mFr C N r (mFk C N o 4).2 (cn + 1) else ((mFk C N o 4).2, cn)).1
    generalize fkX le ρ 4 = X at *
    generalize mFk C N o 4 = M at *
    by_cases q : M.1 = true
    · rw [if_pos q, if_pos (h3 q)]
      exact ih h1 h2
    · rw [if_neg q, if_neg (by rw [h4 q]; exact Int64.lt_irrefl)]
      exact ⟨rfl, h1⟩
theorem act_su {i : Nat} : oI (xE (actX σ i)) 9 = oI (xE σ) 9 + nI (if oA (xT σ) 0 i = 5 then 1 else 0) := by
  have z : ∀ x : Int32, x = x + nI 0 := fun x => (Int32.add_zero x).symm
  unfold actX
  by_cases c0 : oA (xT σ) 0 i = 0
  · rw [if_pos c0, if_neg (show ¬ oA (xT σ) 0 i = 5 by rw [c0]; decide)]; exact z _
  by_cases c1 : oA (xT σ) 0 i = 1
  · rw [if_neg c0, if_pos c1, if_neg (show ¬ oA (xT σ) 0 i = 5 by rw [c1]; decide)]; exact z _
  by_cases c2 : oA (xT σ) 0 i = 2
  · rw [if_neg c0, if_neg c1, if_pos c2, if_neg (show ¬ oA (xT σ) 0 i = 5 by rw [c2]; decide)]; exact z _
  by_cases c3 : oA (xT σ) 0 i = 3
  · rw [if_neg c0, if_neg c1, if_neg c2, if_pos c3, if_neg (show ¬ oA (xT σ) 0 i = 5 by rw [c3]; decide)]; exact z _
  by_cases c4 : oA (xT σ) 0 i = 4
  · rw [if_neg c0, if_neg c1, if_neg c2, if_neg c3, if_pos c4, if_neg (show ¬ oA (xT σ) 0 i = 5 by rw [c4]; decide)]; exact z _
  rw [if_neg c0, if_neg c1, if_neg c2, if_neg c3, if_neg c4]
  by_cases c5 : oA (xT σ) 0 i = 5
  · rw [if_pos c5, if_pos c5]; rfl
  · rw [if_neg c5, if_neg c5]; exact z _
theorem rep_su {i : Nat} : oI (xE (repX σ i)) 9 = nI (cS (xT σ) i) := by
  induction i with
  | zero => rfl
  | succ i ih =>
    show oI (xE (actX (repX σ i) i)) 9 = nI (cS (xT σ) i + _)
    rw [act_su, ih, rep_keep.1, nI_add]
/-- the state at rest -/
def Rs (σ : Xs) (o : Ob) : Prop := xR σ ∧ AR σ ∧ Rl σ o ∧ xPh σ ∧ xSv σ ∧ cS (xT σ) (tc (xT σ)) ≤ 12 ∧ oI (xE σ) 9 = nI (cS (xT σ) (tc (xT σ)))
theorem Rs.sv (h : Rs σ o) : ¬ 12 < oI (xE σ) 9 := by
  rw [h.2.2.2.2.2.2]
  have := h.2.2.2.2.2.1
  exact Int32.not_lt.mpr (show nI _ ≤ nI 12 from nI_le this (by omega))
theorem Rs.Fr (h : Rs σ o) : Fr (xC σ) (tc (xT σ)) σ o := by
  obtain ⟨hR, hA, hQ, hP, hS, hU, hV⟩ := h
  have hg : gd σ := ⟨hR.1, hR.2.2.1⟩
  exact ⟨⟨rfl, rfl⟩, ⟨hg, hR.2.2.2, hP, hS, hU⟩, hQ.split.1, hQ.split.2, Lrel_tr kp_do.2.1 (hA o hQ.1) (do_sim hg hQ.1) hQ.2.1⟩
theorem Fr.Rs (h : Fr C N ρ o) : Rs (doX ρ) o := by
  have h2 := h.do
  have hT : xT (doX ρ) = xT ρ := kp_do.1
  have hC : xC (doX ρ) = xC ρ := kp_do.2.1
  refine ⟨⟨h2.2.1.1.1, ?_, h2.2.1.1.2, h2.2.1.2.1⟩, ?_, Rl.join h2.2.2.1 h2.2.2.2.1 h.2.2.2.2, h2.2.1.2.2.1, h2.2.1.2.2.2.1, h2.2.1.2.2.2.2, ?_⟩
  · rw [hT]; exact rep_LI h.2.1.1.1 h.2.1.1.2 (Nat.le_refl _)
  · intro o2 hH
    rw [hT] at hH ⊢
    rw [hC]
    exact do_sim h.2.1.1 (hH.keep keepM.rf hT.symm hC.symm (fun k => (rep_keep.2.2.2.2.2.2.2 k).2.symm))
  · rw [hT]; exact rep_su
end FT
