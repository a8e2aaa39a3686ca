/-! WHAT EACH CALL DOES TO THE STATE AT REST -/
section ST
variable {σ : Xs} {o : Ob} {wh pl nu : Int32} {am th : Int64}
theorem cS_ext {T T' : Ob} {n : Nat} (h : ∀ j, j < n → oA T' 0 j = oA T 0 j) : cS T' n = cS T n := by
  induction n with
  | zero => rfl
  | succ n ih =>
    show _ + (if _ then _ else _) = _ + (if _ then _ else _)
    rw [ih (fun j hj => h j (by omega)), h n (by omega)]
theorem st_tl (h : Rs σ o) (hn : tc (xT σ) < 200) (hE : EvS (adF (xT σ) (tc (xT σ)) wh pl nu am th) (xC σ) (tc (xT σ))) (h5 : wh = 5 → cS (xT σ) (tc (xT σ)) < 12) : Rs (tlX σ wh pl nu am th) (mTl σ o wh pl nu am th) := by
  obtain ⟨hR, hA, hQ, hP, hV, hU, hW⟩ := h
  obtain ⟨k1, k2, k3, k4, k5, k6, k7, k8⟩ := act_keep (σ := xsT σ (adF (xT σ) (tc (xT σ)) wh pl nu am th)) (i := tc (xT σ))
  have eT : xT (tlX σ wh pl nu am th) = adF (xT σ) (tc (xT σ)) wh pl nu am th := k1
  have eC : xC (tlX σ wh pl nu am th) = xC σ := k2
  have e1 : tc (xT (tlX σ wh pl nu am th)) = tc (xT σ) + 1 := by rw [eT]; exact ad_tc hn
  have hg := tl_gd hR hn hE
  have c0 : cS (adF (xT σ) (tc (xT σ)) wh pl nu am th) (tc (xT σ)) = cS (xT σ) (tc (xT σ)) := cS_ext (fun j hj => (ad_below hj).1)
  have a0 : oA (adF (xT σ) (tc (xT σ)) wh pl nu am th) 0 (tc (xT σ)) = wh := pk_us
  refine ⟨⟨act_B hg.1, ?_, ?_, ?_⟩, tl_AR hR hA hn hE, tl_Rl hR hA hQ hn hE, ?_, ?_, ?_, ?_⟩
  · rw [e1]; exact LI_act hg.1 (tl_LI hR.2.1 (Nat.le_refl _)) hE
  · rw [eT, eC]; exact hg.2
  · refine ⟨fun k hk => ?_, ?_⟩
    · obtain ⟨d, h1, h2, h3⟩ := hR.2.2.2.1 k hk
      exact ⟨d, h1, h2, (k8 k).1.trans h3⟩
    · obtain ⟨w, h1, h2, h3⟩ := hR.2.2.2.2
      exact ⟨w, h1, h2, (k7 0 (by omega)).trans h3⟩
  · intro k hk
    rw [show xPc (tlX σ wh pl nu am th) = xPc σ from k4] at hk
    rw [show xP (tlX σ wh pl nu am th) = xP σ from k6, eC]
    exact hP k hk
  · intro k hk
    rw [show xSc (tlX σ wh pl nu am th) = xSc σ from k3] at hk
    rw [show xS (tlX σ wh pl nu am th) = xS σ from k5]
    exact hV k hk
  · rw [e1, eT]
    show cS (adF (xT σ) (tc (xT σ)) wh pl nu am th) (tc (xT σ)) + (if oA (adF (xT σ) (tc (xT σ)) wh pl nu am th) 0 (tc (xT σ)) = 5 then 1 else 0) ≤ 12
    rw [c0, a0]
    by_cases q : wh = 5
    · have := h5 q; rw [if_pos q]; omega
    · rw [if_neg q]; omega
  · rw [e1, eT]
    show oI (xE (actX (xsT σ (adF (xT σ) (tc (xT σ)) wh pl nu am th)) (tc (xT σ)))) 9 = nI (cS (adF (xT σ) (tc (xT σ)) wh pl nu am th) (tc (xT σ)) + (if oA (adF (xT σ) (tc (xT σ)) wh pl nu am th) 0 (tc (xT σ)) = 5 then 1 else 0))
    rw [act_su, c0, ← nI_add]
    show oI (xE σ) 9 + _ = _
    rw [hW]; rfl
theorem st_row {kind by_ : Int32} {load : Int64} (h : Rs σ o) : Rs (cif (rwP σ kind load by_) (tlX σ 0 kind by_ load 0) σ) (cif (rwP σ kind load by_) (mTl σ o 0 kind by_ load 0) o) := by
  by_cases q : rwP σ kind load by_
  · rw [cif_t q, cif_t q]
    obtain ⟨q1, q2, q3⟩ := q
    obtain ⟨k, hk, rfl⟩ := ixK q1
    rw [nI_clamp (by omega)] at q2
    exact st_tl h q3 (evR h.1.2.1 hk q2.1) (fun z => absurd z (by decide))
  · rw [cif_f q, cif_f q]; exact h
theorem st_layer {column kind : Int32} {kg : Int64} (h : Rs σ o) : Rs (cif (lyP σ column kind kg) (tlX σ 1 column kind kg (ftF σ kind.toNatClampNeg kg)) σ) (cif (lyP σ column kind kg) (mTl σ o 1 column kind kg (ftF σ kind.toNatClampNeg kg)) o) := by
  have hC := h.1.1.1
  by_cases q : lyP σ column kind kg
  · rw [cif_t q, cif_t q]
    obtain ⟨q1, q2, q3, q4, q5⟩ := q
    obtain ⟨i, hi, rfl⟩ := ixN (by omega) q1
    obtain ⟨k, hk, rfl⟩ := ixK q2
    rw [nI_clamp (by omega)] at q4
    exact st_tl h q5 (evL h.1.2.1 hi q4 hk) (fun z => absurd z (by decide))
  · rw [cif_f q, cif_f q]; exact h
theorem st_roll {column passes : Int32} (h : Rs σ o) : Rs (cif (rlP σ column passes) (tlX σ 2 column passes 0 0) σ) (cif (rlP σ column passes) (mTl σ o 2 column passes 0 0) o) := by
  have hC := h.1.1.1
  have hX := xOK_of h.1.1 h.1.2.1
  by_cases q : rlP σ column passes
  · rw [cif_t q, cif_t q]
    obtain ⟨q1, q2, q3, q4⟩ := q
    obtain ⟨i, hi, rfl⟩ := ixN (by omega) q1
    obtain ⟨t, ht, rfl⟩ := ixM (m := 20) (b := 20) rfl (by omega) q3
    rw [nI_clamp (by omega)] at q2
    exact st_tl h q4 (evP h.1.2.1 hi (lc_pos (hX.2.2.2.2.2.1 i hi).1 (hX.2.2.2.2.2.1 i hi).2 q2) ht) (fun z => absurd z (by decide))
  · rw [cif_f q, cif_f q]; exact h
theorem st_run {years : Int32} (h : Rs σ o) : Rs (cif (rnP σ years) (tlX σ 3 0 years 0 0) σ) (cif (rnP σ years) (mTl σ o 3 0 years 0 0) o) := by
  by_cases q : rnP σ years
  · rw [cif_t q, cif_t q]
    obtain ⟨q1, q2, q3⟩ := q
    obtain ⟨t, ht, rfl⟩ := ixM (m := 50) (b := 50) rfl (by omega) q1
    exact st_tl h q3 (evY ht) (fun z => absurd z (by decide))
  · rw [cif_f q, cif_f q]; exact h
theorem st_cover {column mm : Int32} (h : Rs σ o) : Rs (cif (cvP σ column mm) (tlX σ 4 column mm 0 0) σ) (cif (cvP σ column mm) (mTl σ o 4 column mm 0 0) o) := by
  have hC := h.1.1.1
  by_cases q : cvP σ column mm
  · rw [cif_t q, cif_t q]
    obtain ⟨q1, q2, q3⟩ := q
    obtain ⟨i, hi, rfl⟩ := ixN (by omega) q1
    exact st_tl h q3 (evC hi) (fun z => absurd z (by decide))
  · rw [cif_f q, cif_f q]; exact h
theorem st_survey {column : Int32} {mm : Int64} (h : Rs σ o) : Rs (cif (svP σ column mm) (tlX σ 5 column 0 mm 0) σ) (cif (svP σ column mm) (mTl σ o 5 column 0 mm 0) o) := by
  have hC := h.1.1.1
  by_cases q : svP σ column mm
  · rw [cif_t q, cif_t q]
    obtain ⟨q1, q2, q3, q4⟩ := q
    obtain ⟨i, hi, rfl⟩ := ixN (by omega) q1
    refine st_tl h q4 (evV hi) (fun _ => ?_)
    rcases Nat.lt_or_ge (cS (xT σ) (tc (xT σ))) 12 with z | z
    · exact z
    · have := h.2.2.2.2.2.1
      refine absurd ?_ q3
      rw [h.2.2.2.2.2.2]
      exact (show nI 12 ≤ nI _ from nI_le z (by omega))
  · rw [cif_f q, cif_f q]; exact h
theorem Lrel_K {σ' : Xs} {m : Ob} (e1 : xC σ' = xC σ) (e2 : xL σ' = xL σ) (e3 : xE σ' = xE σ) (eK : ∀ j, oI (xK σ' j) 2 = oI (xK σ j) 2 ∧ oB (xK σ' j) 0 = oB (xK σ j) 0 ∧ oA (xK σ' j) 1 = oA (xK σ j) 1) (h : Lrel σ m) : Lrel σ' m := by
  refine ⟨by rw [e1, e2]; exact h.1, fun k hk => ?_, by rw [e3]; exact h.2.2⟩
  obtain ⟨a1, a2, a3⟩ := eK k
  unfold rc
  rw [a1, a2, a3]
  exact h.2.1 k hk
theorem st_density {kind v : Int32} (h : Rs σ o) : Rs (if wi kind.toInt64 0 3 = 0 ∨ wi v.toInt64 100 3000 = 0 then σ else xsK σ kind.toNatClampNeg (sI (xK σ kind.toNatClampNeg) 3 v)) (if wi kind.toInt64 0 3 = 0 ∨ wi v.toInt64 100 3000 = 0 then o else sA o 2 (upd (oA o 2) kind.toNatClampNeg v)) := by
  by_cases q : wi kind.toInt64 0 3 = 0 ∨ wi v.toInt64 100 3000 = 0
  · rw [if_pos q, if_pos q]; exact h
  · rw [if_neg q, if_neg q]
    rw [not_or] at q
    obtain ⟨k, hk, rfl⟩ := ixK q.1
    rw [nI_clamp (by omega)]
    have hv : ∃ d, 100 ≤ d ∧ d ≤ 3000 ∧ v = nI d := by
      have h2 := q.2
      rw [wi_1, Int64_le, Int64_le, i2l_toInt] at h2
      have h3 : 100 ≤ v.toInt := by have := h2.1; simpa using this
      have h4 : v.toInt ≤ 3000 := by have := h2.2; simpa using this
      obtain ⟨j, hj, e⟩ := vp_in_of (x := v) (n := 3001) (vp_in_iff.mpr ⟨by omega, by omega⟩) (by omega)
      rw [e, nI_toInt (by omega)] at h3
      exact ⟨j, by omega, by omega, e⟩
    have eK : ∀ j, xK (xsK σ k (sI (xK σ k) 3 v)) j = if j = k then sI (xK σ k) 3 v else xK σ j := fun j => rfl
    have e0 : ∀ j, oI (xK (xsK σ k (sI (xK σ k) 3 v)) j) 2 = oI (xK σ j) 2 ∧ oI (xK (xsK σ k (sI (xK σ k) 3 v)) j) 4 = oI (xK σ j) 4 ∧ oB (xK (xsK σ k (sI (xK σ k) 3 v)) j) 0 = oB (xK σ j) 0 ∧ oA (xK (xsK σ k (sI (xK σ k) 3 v)) j) 1 = oA (xK σ j) 1 := by
      intro j
      rw [eK]
      split
      · next z => rw [z]; exact ⟨rfl, rfl, rfl, rfl⟩
      · exact ⟨rfl, rfl, rfl, rfl⟩
    have hL : ∀ {m : Ob}, Lrel σ m → Lrel (xsK σ k (sI (xK σ k) 3 v)) m := fun z => Lrel_K (σ := σ) rfl rfl rfl (fun j => ⟨(e0 j).1, (e0 j).2.2.1, (e0 j).2.2.2⟩) z
    obtain ⟨hR, hA, hQ, hP, hV, hU, hW⟩ := h
    refine ⟨⟨hR.1, ⟨hR.2.1.1, fun j hj => ?_⟩, hR.2.2.1, fun j hj => ?_, hR.2.2.2.2⟩, fun o2 hH => ?_, ⟨⟨hQ.1.1, fun j hj => ?_, hQ.1.2.2⟩, ?_, hQ.2.2.1, hQ.2.2.2.1, fun j hj => ?_, hQ.2.2.2.2.2.1, hQ.2.2.2.2.2.2⟩, hP, hV, hU, hW⟩
    · rw [(e0 j).1]; exact hR.2.1.2 j hj
    · rw [eK]
      split
      · exact hv
      · exact hR.2.2.2.1 j hj
    · exact hL (hA o2 ⟨hH.1, fun j hj => (hH.2.1 j hj).trans (e0 j).2.1, hH.2.2⟩)
    · exact (hQ.1.2.1 j hj).trans (e0 j).2.1.symm
    · exact hL hQ.2.1
    · show upd (oA o 2) k v j = _
      rw [eK]
      by_cases z : j = k
      · subst z; rw [pk_us, if_pos rfl]; rfl
      · rw [pk_un z, if_neg z]; exact hQ.2.2.2.2.1 j hj
theorem st_surface (h : Rs σ o) : Rs (cif (xSc σ < 4) (sfX σ) σ) (cif (xSc σ < 4) (sI o 22 (nI (xSc σ + 1))) o) := by
  by_cases q : xSc σ < 4
  · rw [cif_t q, cif_t q]
    obtain ⟨hR, hA, hQ, hP, hV, hU, hW⟩ := h
    obtain ⟨b1, b2, b3, b4, b5, b6⟩ := hR.1
    have eS : ∀ k, xS (sfX σ) k = if k = xSc σ then zO else xS σ k := fun k => rfl
    refine ⟨⟨⟨b1, q, b3, rfl, b5, b6⟩, hR.2.1, hR.2.2.1, hR.2.2.2⟩, hA, ⟨hQ.1, hQ.2.1, hQ.2.2.1, hQ.2.2.2.1, hQ.2.2.2.2.1, ⟨rfl, fun k hk x hx y hy => ?_, fun k hk hk4 j hj => ?_⟩, hQ.2.2.2.2.2.2⟩, hP, fun k hk j hj => ?_, hU, hW⟩
    · have hk2 : k < xSc σ + 1 := hk
      rw [eS]
      by_cases z : k = xSc σ
      · subst z
        rw [if_pos rfl]
        exact hQ.2.2.2.2.2.1.2.2 _ (Nat.le_refl _) q (5 * y + x) (by omega)
      · rw [if_neg z]
        exact hQ.2.2.2.2.2.1.2.1 k (by omega) x hx y hy
    · have hk2 : xSc σ + 1 ≤ k := hk
      exact hQ.2.2.2.2.2.1.2.2 k (by omega) hk4 j hj
    · have hk2 : k < xSc σ + 1 := hk
      rw [eS]
      by_cases z : k = xSc σ
      · rw [if_pos z]; exact (show -100000 ≤ (0 : Int32).toInt ∧ (0 : Int32).toInt ≤ 100000 from ⟨by decide, by decide⟩)
      · rw [if_neg z]; exact hV k (by omega) j hj
  · rw [cif_f q, cif_f q]; exact h
theorem st_point {su x y z : Int32} (h : Rs σ o) : Rs (cif (ptP σ su x y z) (xsS σ su.toNatClampNeg (ptF (xS σ su.toNatClampNeg) (x.toNatClampNeg * 5 + y.toNatClampNeg) z)) σ) (cif (ptP σ su x y z) (mPt o (25 * su.toNatClampNeg + (5 * y.toNatClampNeg + x.toNatClampNeg)) z) o) := by
  by_cases q : ptP σ su x y z
  · rw [cif_t q, cif_t q]
    obtain ⟨hR, hA, hQ, hP, hV, hU, hW⟩ := h
    have hB := hR.1
    obtain ⟨q1, q2, q3, q4⟩ := q
    have hsc := hB.2.1
    obtain ⟨a, ha, rfl⟩ := ixN (by omega) q1
    obtain ⟨i, hi, rfl⟩ := ixN (by omega) q2
    obtain ⟨j, hj, rfl⟩ := ixN (by omega) q3
    have hz : -100000 ≤ z.toInt ∧ z.toInt ≤ 100000 := by
      rw [wi_1, Int64_le, Int64_le, i2l_toInt] at q4
      exact ⟨by have := q4.1; simpa using this, by have := q4.2; simpa using this⟩
    rw [nI_clamp (by omega), nI_clamp (by omega), nI_clamp (by omega)]
    have eS : ∀ k, xS (xsS σ a (ptF (xS σ a) (i * 5 + j) z)) k = if k = a then ptF (xS σ a) (i * 5 + j) z else xS σ k := fun k => rfl
    refine ⟨⟨hB, hR.2.1, hR.2.2.1, hR.2.2.2⟩, hA, ⟨hQ.1, hQ.2.1, hQ.2.2.1, hQ.2.2.2.1, hQ.2.2.2.2.1, ⟨hQ.2.2.2.2.2.1.1, fun k hk x hx y hy => ?_, fun k hk hk4 l hl => ?_⟩, hQ.2.2.2.2.2.2⟩, hP, fun k hk l hl => ?_, hU, hW⟩
    · obtain ⟨r1, r2⟩ := hQ.2.2.2.2.2.1.2.1 k hk x hx y hy
      show upd (oA o 23) (25 * a + (5 * j + i)) z (25 * k + (5 * y + x)) = _ ∧ upd (oA o 24) (25 * a + (5 * j + i)) 1 (25 * k + (5 * y + x)) = _
      rw [eS]
      by_cases e : k = a
      · subst e
        rw [if_pos rfl]
        show _ = upd (oA (xS σ k) 0) (i * 5 + j) z (x * 5 + y) ∧ _ = upd (oA (xS σ k) 1) (i * 5 + j) 1 (x * 5 + y)
        by_cases e2 : x = i ∧ y = j
        · obtain ⟨rfl, rfl⟩ := e2
          rw [pk_us, pk_us, pk_us, pk_us]; exact ⟨rfl, rfl⟩
        · rw [pk_un (by omega), pk_un (by omega), pk_un (by omega), pk_un (by omega)]; exact ⟨r1, r2⟩
      · rw [if_neg e, pk_un (by omega), pk_un (by omega)]; exact ⟨r1, r2⟩
    · have hk2 : xSc σ ≤ k := hk
      obtain ⟨r1, r2⟩ := hQ.2.2.2.2.2.1.2.2 k hk hk4 l hl
      show upd (oA o 23) (25 * a + (5 * j + i)) z (25 * k + l) = _ ∧ upd (oA o 24) (25 * a + (5 * j + i)) 1 (25 * k + l) = _
      rw [pk_un (by omega), pk_un (by omega)]; exact ⟨r1, r2⟩
    · rw [eS]
      by_cases e : k = a
      · subst e
        rw [if_pos rfl]
        show -100000 ≤ (upd (oA (xS σ k) 0) (i * 5 + j) z l).toInt ∧ (upd (oA (xS σ k) 0) (i * 5 + j) z l).toInt ≤ 100000
        by_cases e2 : l = i * 5 + j
        · subst e2; rw [pk_us]; exact hz
        · rw [pk_un e2]; exact hV k hk l hl
      · rw [if_neg e]; exact hV k hk l hl
  · rw [cif_f q, cif_f q]; exact h
theorem st_phase {a b : Int32} {w : Int64} (h : Rs σ o) : Rs (cif (phP σ a b w) (pfX σ a b w) σ) (cif (phP σ a b w) (mPh o (xPc σ) a b w) o) := by
  by_cases q : phP σ a b w
  · rw [cif_t q, cif_t q]
    obtain ⟨hR, hA, hQ, hP, hV, hU, hW⟩ := h
    obtain ⟨b1, b2, b3, b4, b5, b6⟩ := hR.1
    obtain ⟨q1, q2, q3, q4, q5⟩ := q
    obtain ⟨i, hi, rfl⟩ := ixN (by omega) q1
    obtain ⟨j, hj, rfl⟩ := ixN (by omega) q2
    have hij : i ≤ j := (nI_leI (by omega) (by omega)).mp q3
    have eP : ∀ k, xP (pfX σ (nI i) (nI j) w) k = if k = xPc σ then phO (nI i) (nI j) w else xP σ k := fun k => rfl
    refine ⟨⟨⟨b1, b2, q5, b4, rfl, b6⟩, hR.2.1, hR.2.2.1, hR.2.2.2⟩, hA, ⟨hQ.1, hQ.2.1, hQ.2.2.1, hQ.2.2.2.1, hQ.2.2.2.2.1, hQ.2.2.2.2.2.1, rfl, fun k hk => ?_⟩, fun k hk => ?_, hV, hU, hW⟩
    · have hk2 : k < xPc σ + 1 := hk
      show upd (oA o 26) (xPc σ) (nI i) k = _ ∧ upd (oA o 27) (xPc σ) (nI j) k = _ ∧ vp_updL (oB o 28) (xPc σ) w k = _
      rw [eP]
      by_cases z : k = xPc σ
      · subst z; rw [pk_us, pk_us, pk_uLs, if_pos rfl]; exact ⟨rfl, rfl, rfl⟩
      · rw [pk_un z, pk_un z, pk_uLn z, if_neg z]
        exact hQ.2.2.2.2.2.2.2 k (by omega)
    · have hk2 : k < xPc σ + 1 := hk
      rw [eP]
      by_cases z : k = xPc σ
      · rw [if_pos z]
        exact ⟨i, j, hij, hj, rfl, rfl⟩
      · rw [if_neg z]
        exact hP k (by omega)
  · rw [cif_f q, cif_f q]; exact h
theorem st_fit {rounds : Int32} (h : Rs σ o) : Rs (if wi rounds.toInt64 1 5 = 0 then σ else doX (frX rounds.toNatClampNeg (oJ (xE σ) 10) σ 0).1) (if wi rounds.toInt64 1 5 = 0 then o else (mFr (xC σ) (tc (xT σ)) rounds.toNatClampNeg o 0).1) ∧ (if wi rounds.toInt64 1 5 = 0 then -1 else nI (frX rounds.toNatClampNeg (oJ (xE σ) 10) σ 0).2) = (if wi rounds.toInt64 1 5 = 0 then -1 else nI (mFr (xC σ) (tc (xT σ)) rounds.toNatClampNeg o 0).2) := by
  have hF := fr_rel (le := oJ (xE σ) 10) (r := rounds.toNatClampNeg) (cn := 0) h.Fr h.2.2.1.2.1.2.2.2.2.symm
  by_cases q : wi rounds.toInt64 1 5 = 0
  · rw [if_pos q, if_pos q, if_pos q, if_pos q]; exact ⟨h, rfl⟩
  · rw [if_neg q, if_neg q, if_neg q, if_neg q, hF.1]; exact ⟨hF.2.Rs, rfl⟩
theorem cd_ok (sd : Int32) : ∃ w, 1 ≤ w ∧ w ≤ 100 ∧ cdF sd = nI w := by
  unfold cdF
  by_cases h : wi sd.toInt64 1 100 = 0
  · rw [if_pos h]; exact ⟨1, by omega, by omega, rfl⟩
  · rw [if_neg h]
    rw [wi_1, Int64_le, Int64_le, i2l_toInt] at h
    have h1 : 1 ≤ sd.toInt := by have := h.1; simpa using this
    have h2 : sd.toInt ≤ 100 := by have := h.2; simpa using this
    obtain ⟨j, hj, e⟩ := vp_in_of (x := sd) (n := 101) (vp_in_iff.mpr ⟨by omega, by omega⟩) (by omega)
    rw [e, nI_toInt (by omega)] at h1
    exact ⟨j, by omega, by omega, e⟩
theorem st_init (cn sd : Int32) : Rs (x0 (ccF cn) (cdF sd)) (mO cn sd) := by
  obtain ⟨hcI, hc1, hc8⟩ := cc_ok cn
  have hrs : ∀ {m : Ob}, (∀ c, c < 8 → oA m 10 c = 0 ∧ oA m 15 c = 0) → (∀ k, k < 4 → oA m 16 k = 0) → oI m 19 = 0 → oI m 20 = 0 → oJ m 21 = 0 → Lrel (x0 (ccF cn) (cdF sd)) m := by
    intro m h1 h2 h3 h4 h5
    refine ⟨fun c hc => ?_, fun k hk => ⟨h2 k hk, fun r hr => absurd hr (Nat.not_lt_zero _)⟩, h3, h4, h5⟩
    have hc2 : c < ccF cn := hc
    exact ⟨(h1 c (by omega)).1, (h1 c (by omega)).2, fun l hl => absurd hl (Nat.not_lt_zero _)⟩
  refine ⟨⟨⟨⟨hc1, hc8⟩, Nat.zero_le _, Nat.zero_le _, rfl, rfl, rfl, Nat.zero_le _⟩, ⟨fun c hc => ⟨rfl, Nat.zero_le _, fun j hj => absurd hj (Nat.not_lt_zero _)⟩, fun k hk => ⟨rfl, Nat.zero_le _⟩⟩, fun i hi => absurd hi (Nat.not_lt_zero _), fun k hk => ⟨500, by omega, by omega, rfl⟩, cd_ok sd⟩, fun o2 hH => ?_, ⟨⟨hcI, fun k hk => if_pos hk, fun i hi => absurd hi (Nat.not_lt_zero _)⟩, ?_, rfl, rfl, fun k hk => if_pos hk, ⟨rfl, fun k hk => absurd hk (Nat.not_lt_zero _), fun k hk hk4 j hj => ⟨rfl, rfl⟩⟩, rfl, fun k hk => absurd hk (Nat.not_lt_zero _)⟩, fun k hk => absurd hk (Nat.not_lt_zero _), fun k hk => absurd hk (Nat.not_lt_zero _), Nat.zero_le _, rfl⟩
  · exact hrs (fun c hc => ⟨if_pos hc, if_pos hc⟩) (fun k hk => if_pos hk) rfl rfl rfl
  · exact hrs (fun c hc => ⟨rfl, rfl⟩) (fun k hk => rfl) rfl rfl rfl
end ST
