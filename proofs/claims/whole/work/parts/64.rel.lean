/-! THE WHOLE RELATION, at rest -/
def Srel (σ : Xs) (o : Ob) : Prop := oI o 22 = nI (xSc σ) ∧ (∀ k, k < xSc σ → ∀ x, x < 5 → ∀ y, y < 5 → oA o 23 (25 * k + (5 * y + x)) = oA (xS σ k) 0 (x * 5 + y) ∧ oA o 24 (25 * k + (5 * y + x)) = oA (xS σ k) 1 (x * 5 + y)) ∧ ∀ k, xSc σ ≤ k → k < 4 → ∀ j, j < 25 → oA o 23 (25 * k + j) = 0 ∧ oA o 24 (25 * k + j) = 0
def Prel (σ : Xs) (o : Ob) : Prop := oI o 25 = nI (xPc σ) ∧ ∀ k, k < xPc σ → oA o 26 k = oI (xP σ k) 0 ∧ oA o 27 k = oI (xP σ k) 1 ∧ oB o 28 k = oJ (xP σ k) 2
def Rl (σ : Xs) (o : Ob) : Prop := Hrel σ o (tc (xT σ)) ∧ Lrel σ o ∧ oI o 4 = nI (tc (xT σ)) ∧ oI o 1 = oI (xE σ) 0 ∧ (∀ k, k < 4 → oA o 2 k = oI (xK σ k) 3) ∧ Srel σ o ∧ Prel σ o
/-- the live state is the replay's: of every state of the reference with the same events and factors -/
def AR (σ : Xs) : Prop := ∀ o2, Hrel σ o2 (tc (xT σ)) → Lrel σ (mRep o2 (xC σ) (tc (xT σ)))
section TL
variable {σ : Xs} {o : Ob} {wh pl nu : Int32} {am th : Int64}
theorem EvS_ext {T T' : Ob} {C i : Nat} (h : ∀ j, j ≤ i → oA T' 0 j = oA T 0 j ∧ oA T' 1 j = oA T 1 j ∧ oA T' 2 j = oA T 2 j) (hE : EvS T C i) : EvS T' C i := by
  have hc : ∀ c, cL T' c i = cL T c i := fun c => cL_ext (fun j hj => ⟨(h j (by omega)).1, (h j (by omega)).2.1⟩)
  have hr : ∀ c, cR T' c i = cR T c i := fun c => cR_ext (fun j hj => ⟨(h j (by omega)).1, (h j (by omega)).2.1⟩)
  obtain ⟨h0, h1, h2⟩ := h i (Nat.le_refl i)
  unfold EvS
  rw [h0, h1, h2]
  simp only [hc, hr]
  exact hE
theorem tl_gd (hR : xR σ) (hn : tc (xT σ) < 200) (hE : EvS (adF (xT σ) (tc (xT σ)) wh pl nu am th) (xC σ) (tc (xT σ))) : gd (xsT σ (adF (xT σ) (tc (xT σ)) wh pl nu am th)) := by
  refine ⟨tl_B hR.1 hn, ?_⟩
  show vH (adF (xT σ) (tc (xT σ)) wh pl nu am th) (xC σ) (tc (adF (xT σ) (tc (xT σ)) wh pl nu am th))
  rw [ad_tc hn]
  intro i hi
  by_cases h : i = tc (xT σ)
  · subst h; exact hE
  · exact EvS_ext (fun j hj => ⟨(ad_below (by omega)).1, (ad_below (by omega)).2.1, (ad_below (by omega)).2.2.1⟩) (hR.2.2.1 i (by omega))
theorem tl_Hrel (h : Hrel σ o (tc (xT σ))) : Hrel (xsT σ (adF (xT σ) (tc (xT σ)) wh pl nu am th)) (mAd o (tc (xT σ)) wh pl nu am th) (tc (xT σ) + 1) := by
  refine ⟨h.1, h.2.1, fun i hi => ?_⟩
  show upd (oA o 5) (tc (xT σ)) wh i = upd (oA (xT σ) 0) (tc (xT σ)) wh i ∧ upd (oA o 6) (tc (xT σ)) pl i = upd (oA (xT σ) 1) (tc (xT σ)) pl i ∧ upd (oA o 7) (tc (xT σ)) nu i = upd (oA (xT σ) 2) (tc (xT σ)) nu i ∧ vp_updL (oB o 8) (tc (xT σ)) am i = vp_updL (oB (xT σ) 3) (tc (xT σ)) am i ∧ vp_updL (oB o 9) (tc (xT σ)) th i = vp_updL (oB (xT σ) 4) (tc (xT σ)) th i
  by_cases e : i = tc (xT σ)
  · subst e; rw [pk_us, pk_us, pk_us, pk_us, pk_us, pk_us, pk_uLs, pk_uLs, pk_uLs, pk_uLs]; exact ⟨rfl, rfl, rfl, rfl, rfl⟩
  · rw [pk_un e, pk_un e, pk_un e, pk_un e, pk_un e, pk_un e, pk_uLn e, pk_uLn e, pk_uLn e, pk_uLn e]
    exact h.2.2 i (by omega)
def mTl (σ : Xs) (o : Ob) (wh pl nu : Int32) (am th : Int64) : Ob := mRep (mAd o (tc (xT σ)) wh pl nu am th) (xC σ) (tc (xT σ) + 1)
/-- telling keeps the class's state the replay -/
theorem tl_AR (hR : xR σ) (hA : AR σ) (hn : tc (xT σ) < 200) (hE : EvS (adF (xT σ) (tc (xT σ)) wh pl nu am th) (xC σ) (tc (xT σ))) : AR (tlX σ wh pl nu am th) := by
  intro o2 hH
  obtain ⟨k1, k2, -, -, -, -, -, k8⟩ := act_keep (σ := xsT σ (adF (xT σ) (tc (xT σ)) wh pl nu am th)) (i := tc (xT σ))
  have e1 : tc (xT (tlX σ wh pl nu am th)) = tc (xT σ) + 1 := by unfold tlX; rw [k1]; exact ad_tc hn
  have e2 : xC (tlX σ wh pl nu am th) = xC σ := k2
  rw [e1] at hH ⊢
  rw [e2]
  have hH1 : Hrel (xsT σ (adF (xT σ) (tc (xT σ)) wh pl nu am th)) o2 (tc (xT σ) + 1) := hH.keep keepM.rf k1.symm k2.symm (fun k => (k8 k).2.symm)
  have hH0 : Hrel σ o2 (tc (xT σ)) := ⟨hH1.1, hH1.2.1, fun i hi => by
    obtain ⟨a1, a2, a3, a4, a5⟩ := hH1.2.2 i (by omega)
    obtain ⟨b1, b2, b3, b4, b5⟩ := ad_below (T := xT σ) (wh := wh) (pl := pl) (nu := nu) (am := am) (th := th) hi
    exact ⟨a1.trans b1, a2.trans b2, a3.trans b3, a4.trans b4, a5.trans b5⟩⟩
  have hL := hA o2 hH0
  have hL1 : Lrel (xsT σ (adF (xT σ) (tc (xT σ)) wh pl nu am th)) (mRep o2 (xC σ) (tc (xT σ))) := hL
  exact sim (tl_B hR.1 hn) (tl_LI hR.2.1 (Nat.le_refl _)) hE hn (hH1.keep mRep_keep rfl rfl (fun _ => rfl)) hL1
/-- the relation behind a telling -/
theorem tl_Rl (hR : xR σ) (hA : AR σ) (hQ : Rl σ o) (hn : tc (xT σ) < 200) (hE : EvS (adF (xT σ) (tc (xT σ)) wh pl nu am th) (xC σ) (tc (xT σ))) : Rl (tlX σ wh pl nu am th) (mTl σ o wh pl nu am th) := by
  obtain ⟨k1, k2, k3, k4, k5, k6, k7, k8⟩ := act_keep (σ := xsT σ (adF (xT σ) (tc (xT σ)) wh pl nu am th)) (i := tc (xT σ))
  have e1 : tc (xT (tlX σ wh pl nu am th)) = tc (xT σ) + 1 := by unfold tlX; rw [k1]; exact ad_tc hn
  have e2 : xC (tlX σ wh pl nu am th) = xC σ := k2
  have hK : keepM (mAd o (tc (xT σ)) wh pl nu am th) (mTl σ o wh pl nu am th) := mRep_keep
  have hH : Hrel (tlX σ wh pl nu am th) (mAd o (tc (xT σ)) wh pl nu am th) (tc (xT σ) + 1) := (tl_Hrel hQ.1).keep keepM.rf k1 k2 (fun k => (k8 k).2)
  have hH2 : Hrel (tlX σ wh pl nu am th) (mTl σ o wh pl nu am th) (tc (xT σ) + 1) := hH.keep hK rfl rfl (fun _ => rfl)
  obtain ⟨g1, g2, g3, g4, g5, g6, g7, g8, g9, g10, g11, g12, g13, g14, g15, g16, g17⟩ := hK
  have hLr : Lrel (tlX σ wh pl nu am th) (mTl σ o wh pl nu am th) := by
    have := tl_AR hR hA hn hE (mAd o (tc (xT σ)) wh pl nu am th) (by rw [e1]; exact hH)
    rw [e1, e2] at this
    exact this
  refine ⟨by rw [e1]; exact hH2, hLr, by rw [g3, e1]; rfl, ?_, fun k hk => ?_, ⟨?_, fun k hk x hx y hy => ?_, fun k hk hk4 j hj => ?_⟩, ?_, fun k hk => ?_⟩
  · rw [g2]; exact hQ.2.2.2.1.trans (k7 0 (by omega)).symm
  · rw [g6]; exact (hQ.2.2.2.2.1 k hk).trans (k8 k).1.symm
  · rw [g4]; exact hQ.2.2.2.2.2.1.1.trans (congrArg nI k3.symm)
  · rw [g13, g14, show xS (tlX σ wh pl nu am th) = xS σ from k5]
    exact hQ.2.2.2.2.2.1.2.1 k (by rw [← show xSc (tlX σ wh pl nu am th) = xSc σ from k3]; exact hk) x hx y hy
  · rw [g13, g14]
    exact hQ.2.2.2.2.2.1.2.2 k (by rw [← show xSc (tlX σ wh pl nu am th) = xSc σ from k3]; exact hk) hk4 j hj
  · rw [g5]; exact hQ.2.2.2.2.2.2.1.trans (congrArg nI k4.symm)
  · rw [g15, g16, g17, show xP (tlX σ wh pl nu am th) = xP σ from k6]
    exact hQ.2.2.2.2.2.2.2 k (by rw [← show xPc (tlX σ wh pl nu am th) = xPc σ from k4]; exact hk)
end TL
