/-! CellSettlingModel: surfaces, points, phases, kept, cracks; printed by wip/gen/mode.py -/
theorem is_0 {n : Nat} {x : Int32} (hn : n < 2 ^ 31) (h : x < 0 ∨ nI n ≤ x) : wi x.toInt64 0 (lN n - 1) = 0 := by
  rw [wi_0, Int64_le, Int64_le, i2l_toInt, lNm1_toInt hn]
  rcases h with h | h
  · rw [Int32.lt_iff_toInt_lt] at h
    intro q
    have h1 := q.1
    simp at h1
    have h2 : (0 : Int32).toInt = 0 := by decide
    omega
  · rw [Int32.le_iff_toInt_le, nI_toInt hn] at h
    intro q
    have := q.2
    omega
theorem is_1 {n : Nat} {x : Int32} (hn : n < 2 ^ 31) (h : ¬ x < 0) (h2 : ¬ nI n ≤ x) : wi x.toInt64 0 (lN n - 1) = 1 := by
  obtain ⟨j, hj, rfl, -⟩ := pk_mu h h2 hn
  have := ixN_in hn hj
  unfold wi at this ⊢
  split at this
  · next q => rw [if_pos q]
  · exact absurd rfl this
theorem pk_mu2 {x : Int32} {L : Nat} (h0 : ¬ x < 0) (h : x < nI L) (hL : L < 2 ^ 31) : ∃ j : Nat, j < L ∧ x = nI j := by
  obtain ⟨j, hj, e, -⟩ := pk_mu h0 (Int32.not_le.mpr h) hL
  exact ⟨j, hj, e⟩
def mPt (o : Ob) (j : Nat) (z : Int32) : Ob := sA (sA o 23 (upd (oA o 23) j z)) 24 (upd (oA o 24) j 1)
def mPh (o : Ob) (k : Nat) (a b : Int32) (w : Int64) : Ob := sI (sB (sA (sA o 26 (upd (oA o 26) k a)) 27 (upd (oA o 27) k b)) 28 (vp_updL (oB o 28) k w)) 25 (nI (k + 1))
theorem mPh_eq {o : Ob} {k : Nat} {a b : Int32} {w : Int64} (h : oI o 25 = nI k) (hk : k < 4) : sI (sB (sA (sA o 26 (upd (oA o 26) (oI o 25).toNatClampNeg a)) 27 (upd (oA o 27) (oI o 25).toNatClampNeg b)) 28 (vp_updL (oB o 28) (oI o 25).toNatClampNeg w)) 25 (oI o 25 + 1) = mPh o k a b w := by
  rw [h, nI_clamp (by omega), nI_1]; rfl
theorem sp_eq1 {σ : Xs} {o : Ob} {i : Nat} (h : Lrel σ o) (h0 : i < xC σ) (h1 : i + 1 < xC σ) (c : 0 ≤ hmF o i (lc (xL σ i)) - hmF o (i + 1) (lc (xL σ (i + 1)))) : hmF o i (lc (xL σ i)) - hmF o (i + 1) (lc (xL σ (i + 1))) = spF σ i := by
  rw [← Lrel_cn h h0, ← Lrel_cn h h1, hm_top h h0, hm_top h h1] at *
  unfold spF
  by_cases q : 0 < topF (xL σ i) (lc (xL σ i)) - topF (xL σ (i + 1)) (lc (xL σ (i + 1)))
  · rw [if_pos q]
  · rw [if_neg q]
    have : topF (xL σ i) (lc (xL σ i)) - topF (xL σ (i + 1)) (lc (xL σ (i + 1))) = 0 := Int64.le_antisymm (Int64.not_lt.mp q) c
    rw [this]; rfl
theorem sp_eq2 {σ : Xs} {o : Ob} {i : Nat} (h : Lrel σ o) (h0 : i < xC σ) (h1 : i + 1 < xC σ) (c : ¬ 0 ≤ hmF o i (lc (xL σ i)) - hmF o (i + 1) (lc (xL σ (i + 1)))) : -(hmF o i (lc (xL σ i)) - hmF o (i + 1) (lc (xL σ (i + 1)))) = spF σ i := by
  rw [← Lrel_cn h h0, ← Lrel_cn h h1, hm_top h h0, hm_top h h1] at *
  unfold spF
  rw [if_neg (fun q => c (Int64.le_of_lt q))]
def kpA (σ : Xs) (sl : Int64) (a j : Nat) : Prop := ∀ i, a ≤ i → i < j → ¬ sl < spF σ i
theorem cif_0 {p : Prop} : cif p (1 : Int32) 0 = 0 ↔ ¬ p := by
  by_cases h : p
  · rw [cif_t h]; simp [h]
  · rw [cif_f h]; simp [h]
theorem kp_end {σ : Xs} {k a b : Nat} (hk : k < xPc σ) (hp : xPc σ < 2 ^ 31) (ea : oI (xP σ k) 0 = nI a) (eb : oI (xP σ k) 1 = nI b) (ha : a < 2 ^ 31) (hb : b < 2 ^ 31) : cif (kpA σ (oJ (xP σ k) 2) a b) (1 : Int32) 0 = cif (kpP σ (nI k)) 1 0 := by
  have e : kpP σ (nI k) ↔ kpA σ (oJ (xP σ k) 2) a b := by
    unfold kpP kpA
    rw [nI_clamp (by omega), ea, eb, nI_clamp ha, nI_clamp hb]
    exact ⟨fun q => q.2, fun q => ⟨ixN_in hp hk, q⟩⟩
  by_cases h : kpA σ (oJ (xP σ k) 2) a b
  · rw [cif_t h, cif_t (e.mpr h)]
  · rw [cif_f h, cif_f (fun q => h (e.mp q))]
set_option maxHeartbeats 1000000 in
theorem c_Mod_surface (l : Launch) (D : va_G) (L0 : Nat) (ad : Nat → Nat) (β : Nat) (o : Ob) (f : Nat → Option va_E) (hA : hasO D ad β 6 shMod o f) (σ : Xs) (hR : xR σ) (hAR : AR σ) (hQ : Rl σ o) : Met l y_Mod_surface (wd y_Mod_surface b_Mod_surface 1 (some .int)) { frames := 0, cells := 0, slots := 0, locals := 0 } (va_Pc [.ref (ad β)] (cp D L0 ad (f))) (dt D L0 ad (some (.int (cif (xSc σ < 4) (nI (xSc σ)) (-1)))) (obP D ad β 6 shMod (cif (xSc σ < 4) (sI o 22 (nI (xSc σ + 1))) o) f)) 0 0 (fun q => L0 ≤ q) := by
  refine hw_met (by decide) (Nat.le_of_ble_eq_true rfl) ?_
  intro p e s m below meth c ls F hr hlocks hnm hL hH hS hl
  replace hH := hH.to hA.symm
  have hX := xOK_of hR.1 hR.2.1
  have hC := hR.1.1
  have hTc := hR.1.2.2.2.2.2
  have hL_ := hQ.2.1
  have hn4 := hQ.2.2.1
  have hsc := hQ.2.2.2.2.2.1.1
  have hs4 := hX.2.1
  refine lv_aload_n F.1.1 F.1.2.1 d_Mod_surface_0 rfl (lv_at hl 0 rfl) ?_
  refine gI ck_Mod F hH q_fl_Mod_153 (k := 22) (by decide) rfl d_Mod_surface_1 ?_
  refine lv_iconst (v := 4) F.1.1 F.1.2.1 d_Mod_surface_4 (by decide) ?_
  refine lv_icmp_ne (tgt := 10) F.1.1 F.1.2.1 d_Mod_surface_5 (by decide) (fun c5 => ?_) (fun c5 => ?_)
  · rw [hsc] at c5
    have hlt : xSc σ < 4 := by
      rcases Nat.lt_or_ge (xSc σ) 4 with q | q
      · exact q
      · exact absurd (show nI (xSc σ) = nI 4 from by rw [show xSc σ = 4 by omega]) c5
    refine lv_aload_n F.1.1 F.1.2.1 d_Mod_surface_10 rfl (lv_at hl 0 rfl) ?_
    refine lv_dup F.1.1 F.1.2.1 d_Mod_surface_11 rfl ?_
    refine gI ck_Mod F hH q_fl_Mod_153 (k := 22) (by decide) rfl d_Mod_surface_12 ?_
    refine lv_iconst (v := 1) F.1.1 F.1.2.1 d_Mod_surface_15 (by decide) ?_
    refine lv_iadd F.1.1 F.1.2.1 d_Mod_surface_16 ?_
    refine pI ck_Mod F hH hS q_fl_Mod_153 (k := 22) (by decide) rfl rfl rfl d_Mod_surface_17 (fun H locs hH hS => ?_)
    refine lv_aload_n F.1.1 F.1.2.1 d_Mod_surface_20 rfl (lv_at hl 0 rfl) ?_
    refine gI ck_Mod F hH q_fl_Mod_153 (k := 22) (by decide) rfl d_Mod_surface_21 ?_
    refine lv_iconst (v := 1) F.1.1 F.1.2.1 d_Mod_surface_24 (by decide) ?_
    refine lv_isub F.1.1 F.1.2.1 d_Mod_surface_25 ?_
    exact hw_iret F hr hlocks hH hS d_Mod_surface_26 (by rw [cif_t hlt]; show oI o 22 + 1 - 1 = _; rw [hsc]; exact Int32.add_sub_cancel _ _) (by rw [cif_t hlt, hsc, nI_1])
  · rw [hsc] at c5
    have hlt : ¬ xSc σ < 4 := by have := (nI_eq (by omega) (by omega)).mp (show nI (xSc σ) = nI 4 from c5); omega
    refine lv_iconst (v := -1) F.1.1 F.1.2.1 d_Mod_surface_8 (by decide) ?_
    exact hw_iret F hr hlocks hH hS d_Mod_surface_9 (cif_f hlt).symm (by rw [cif_f hlt])
set_option maxHeartbeats 1000000 in
theorem c_Mod_isSurface (l : Launch) (D : va_G) (L0 : Nat) (ad : Nat → Nat) (β : Nat) (o : Ob) (f : Nat → Option va_E) (hA : hasO D ad β 6 shMod o f) (σ : Xs) (hR : xR σ) (hAR : AR σ) (hQ : Rl σ o) (su : Int32) : Met l y_Mod_isSurface (wd y_Mod_isSurface b_Mod_isSurface 2 (some .boolean)) { frames := 0, cells := 0, slots := 0, locals := 0 } (va_Pc [.ref (ad β), .int su] (cp D L0 ad (f))) (dt D L0 ad (some (.int (wi su.toInt64 0 (lN (xSc σ) - 1)))) (f)) 0 0 (fun q => L0 ≤ q) := by
  refine hw_met (by decide) (Nat.le_of_ble_eq_true rfl) ?_
  intro p e s m below meth c ls F hr hlocks hnm hL hH hS hl
  replace hH := hH.to hA.symm
  have hX := xOK_of hR.1 hR.2.1
  have hC := hR.1.1
  have hTc := hR.1.2.2.2.2.2
  have hL_ := hQ.2.1
  have hn4 := hQ.2.2.1
  have hsc := hQ.2.2.2.2.2.1.1
  have hs4 := hX.2.1
  refine lv_iload_n F.1.1 F.1.2.1 d_Mod_isSurface_0 rfl (lv_at hl 1 rfl) ?_
  refine lv_if_lt (tgt := 16) F.1.1 F.1.2.1 d_Mod_isSurface_1 (by decide) (fun c1 => ?_) (fun c1 => ?_)
  · refine lv_iconst (v := 0) F.1.1 F.1.2.1 d_Mod_isSurface_16 (by decide) ?_
    exact hw_zret F hr hlocks hH hS d_Mod_isSurface_17 (by first | decide | (split <;> decide) | (unfold cif; split <;> decide)) (is_0 (by omega) (Or.inl c1)).symm hA
  · refine lv_iload_n F.1.1 F.1.2.1 d_Mod_isSurface_4 rfl (lv_at hl 1 rfl) ?_
    refine lv_aload_n F.1.1 F.1.2.1 d_Mod_isSurface_5 rfl (lv_at hl 0 rfl) ?_
    refine gI ck_Mod F hH q_fl_Mod_153 (k := 22) (by decide) rfl d_Mod_isSurface_6 ?_
    refine lv_icmp_ge (tgt := 16) F.1.1 F.1.2.1 d_Mod_isSurface_9 (by decide) (fun c9 => ?_) (fun c9 => ?_)
    · rw [hsc] at c9
      refine lv_iconst (v := 0) F.1.1 F.1.2.1 d_Mod_isSurface_16 (by decide) ?_
      exact hw_zret F hr hlocks hH hS d_Mod_isSurface_17 (by first | decide | (split <;> decide) | (unfold cif; split <;> decide)) (is_0 (by omega) (Or.inr c9)).symm hA
    · rw [hsc] at c9
      refine lv_iconst (v := 1) F.1.1 F.1.2.1 d_Mod_isSurface_12 (by decide) ?_
      refine lv_goto (tgt := 17) F.1.1 F.1.2.1 d_Mod_isSurface_13 (by decide) ?_
      exact hw_zret F hr hlocks hH hS d_Mod_isSurface_17 (by first | decide | (split <;> decide) | (unfold cif; split <;> decide)) (is_1 (by omega) c1 c9).symm hA
set_option maxHeartbeats 1000000 in
theorem c_Mod_point (l : Launch) (D : va_G) (L0 : Nat) (ad : Nat → Nat) (β : Nat) (o : Ob) (f : Nat → Option va_E) (hA : hasO D ad β 6 shMod o f) (σ : Xs) (hR : xR σ) (hAR : AR σ) (hQ : Rl σ o) (su x y z : Int32) : Met l y_Mod_point (wd y_Mod_point b_Mod_point 5 (some .boolean)) { frames := 1, cells := 0, slots := 0, locals := 25 } (va_Pc [.ref (ad β), .int su, .int x, .int y, .int z] (cp D L0 ad (f))) (dt D L0 ad (some (.int (cif (ptP σ su x y z) 1 0))) (obP D ad β 6 shMod (cif (ptP σ su x y z) (mPt o (25 * su.toNatClampNeg + (5 * y.toNatClampNeg + x.toNatClampNeg)) z) o) f)) 0 0 (fun q => L0 ≤ q) := by
  refine hw_met (by decide) (Nat.le_of_ble_eq_true rfl) ?_
  intro p e s m below meth c ls F hr hlocks hnm hL hH hS hl
  replace hH := hH.to hA.symm
  have hX := xOK_of hR.1 hR.2.1
  have hC := hR.1.1
  have hTc := hR.1.2.2.2.2.2
  have hL_ := hQ.2.1
  have hn4 := hQ.2.2.1
  have hsc := hQ.2.2.2.2.2.1.1
  have hs4 := hX.2.1
  refine lv_aload_n F.1.1 F.1.2.1 d_Mod_point_0 rfl (lv_at hl 0 rfl) ?_
  refine lv_iload_n F.1.1 F.1.2.1 d_Mod_point_1 rfl (lv_at hl 1 rfl) ?_
  refine hw_call1 (hw_runV F hL hS hH hl (c_Mod_isSurface l D L0 ad β o _ obP_id σ hR hAR hQ _) ck_Mod obP_o rfl q_ml_Mod_156 q_im_Mod_isSurface q_se_Mod_isSurface q_in_Mod q_co_Mod_isSurface rfl (k := 1) ⟨rfl, rfl, by decide +kernel, ⟨Nat.le_of_ble_eq_true rfl, Nat.le_of_ble_eq_true rfl⟩, Nat.le_of_ble_eq_true rfl⟩ rfl d_Mod_point_2 ⟨Nat.le_of_ble_eq_true rfl, Nat.le_of_ble_eq_true rfl⟩) hS (fun H locs hH hS => ?_)
  refine lv_if_eq (tgt := 47) F.1.1 F.1.2.1 d_Mod_point_5 (by decide) (fun c5 => ?_) (fun c5 => ?_)
  · refine lv_iconst (v := 0) F.1.1 F.1.2.1 d_Mod_point_47 (by decide) ?_
    exact hw_zret F hr hlocks hH hS d_Mod_point_48 (by first | decide | (split <;> decide) | (unfold cif; split <;> decide)) (cif_f (fun q => q.1 c5)).symm (by rw [cif_f (fun q => q.1 c5)])
  · obtain ⟨a, ha, rfl⟩ := ixN (by omega) c5
    refine lv_iload_n F.1.1 F.1.2.1 d_Mod_point_8 rfl (lv_at hl 2 rfl) ?_
    refine lv_i2l F.1.1 F.1.2.1 d_Mod_point_9 rfl ?_
    refine lv_lconst (v := 0) F.1.1 F.1.2.1 d_Mod_point_10 (by decide) ?_
    refine lv_ldc2 F.1.1 F.1.2.1 F.1.2.2.2.1 (F.1.2.2.2.2 _ q_cl_Mod_159) d_Mod_point_11 ?_
    refine hw_call1 (hw_runS F hL hS hH hl (c_Mod_isIn l D L0 ad _ _ _ _) q_ml_Mod_84 q_st_Mod_isIn q_in_Mod q_co_Mod_isIn rfl (k := 3) ⟨rfl, rfl, by decide +kernel, ⟨Nat.le_of_ble_eq_true rfl, Nat.le_of_ble_eq_true rfl⟩, Nat.le_of_ble_eq_true rfl⟩ rfl d_Mod_point_14 ⟨Nat.le_of_ble_eq_true rfl, Nat.le_of_ble_eq_true rfl⟩) hS (fun H locs hH hS => ?_)
    refine lv_if_eq (tgt := 47) F.1.1 F.1.2.1 d_Mod_point_17 (by decide) (fun c17 => ?_) (fun c17 => ?_)
    · refine lv_iconst (v := 0) F.1.1 F.1.2.1 d_Mod_point_47 (by decide) ?_
      exact hw_zret F hr hlocks hH hS d_Mod_point_48 (by first | decide | (split <;> decide) | (unfold cif; split <;> decide)) (cif_f (fun q => q.2.1 c17)).symm (by rw [cif_f (fun q => q.2.1 c17)])
    · obtain ⟨i, hi, rfl⟩ := ixN (n := 5) (by omega) c17
      refine lv_iload_n F.1.1 F.1.2.1 d_Mod_point_20 rfl (lv_at hl 3 rfl) ?_
      refine lv_i2l F.1.1 F.1.2.1 d_Mod_point_21 rfl ?_
      refine lv_lconst (v := 0) F.1.1 F.1.2.1 d_Mod_point_22 (by decide) ?_
      refine lv_ldc2 F.1.1 F.1.2.1 F.1.2.2.2.1 (F.1.2.2.2.2 _ q_cl_Mod_159) d_Mod_point_23 ?_
      refine hw_call1 (hw_runS F hL hS hH hl (c_Mod_isIn l D L0 ad _ _ _ _) q_ml_Mod_84 q_st_Mod_isIn q_in_Mod q_co_Mod_isIn rfl (k := 3) ⟨rfl, rfl, by decide +kernel, ⟨Nat.le_of_ble_eq_true rfl, Nat.le_of_ble_eq_true rfl⟩, Nat.le_of_ble_eq_true rfl⟩ rfl d_Mod_point_26 ⟨Nat.le_of_ble_eq_true rfl, Nat.le_of_ble_eq_true rfl⟩) hS (fun H locs hH hS => ?_)
      refine lv_if_eq (tgt := 47) F.1.1 F.1.2.1 d_Mod_point_29 (by decide) (fun c29 => ?_) (fun c29 => ?_)
      · refine lv_iconst (v := 0) F.1.1 F.1.2.1 d_Mod_point_47 (by decide) ?_
        exact hw_zret F hr hlocks hH hS d_Mod_point_48 (by first | decide | (split <;> decide) | (unfold cif; split <;> decide)) (cif_f (fun q => q.2.2.1 c29)).symm (by rw [cif_f (fun q => q.2.2.1 c29)])
      · obtain ⟨j, hj, rfl⟩ := ixN (n := 5) (by omega) c29
        refine lv_iload F.1.1 F.1.2.1 d_Mod_point_32 (lv_at hl 4 rfl) ?_
        refine lv_i2l F.1.1 F.1.2.1 d_Mod_point_34 rfl ?_
        refine lv_ldc2 F.1.1 F.1.2.1 F.1.2.2.2.1 (F.1.2.2.2.2 _ q_cl_Mod_161) d_Mod_point_35 ?_
        refine lv_ldc2 F.1.1 F.1.2.1 F.1.2.2.2.1 (F.1.2.2.2.2 _ q_cl_Mod_163) d_Mod_point_38 ?_
        refine hw_call1 (hw_runS F hL hS hH hl (c_Mod_isIn l D L0 ad _ _ _ _) q_ml_Mod_84 q_st_Mod_isIn q_in_Mod q_co_Mod_isIn rfl (k := 3) ⟨rfl, rfl, by decide +kernel, ⟨Nat.le_of_ble_eq_true rfl, Nat.le_of_ble_eq_true rfl⟩, Nat.le_of_ble_eq_true rfl⟩ rfl d_Mod_point_41 ⟨Nat.le_of_ble_eq_true rfl, Nat.le_of_ble_eq_true rfl⟩) hS (fun H locs hH hS => ?_)
        refine lv_if_ne (tgt := 49) F.1.1 F.1.2.1 d_Mod_point_44 (by decide) (fun c44 => ?_) (fun c44 => ?_)
        · refine lv_aload_n F.1.1 F.1.2.1 d_Mod_point_49 rfl (lv_at hl 0 rfl) ?_
          refine gR ck_Mod F hH q_fl_Mod_59 (k := 23) (by decide) rfl (by decide) d_Mod_point_50 ?_
          refine lv_bipush (v := 25) F.1.1 F.1.2.1 d_Mod_point_53 (by decide) ?_
          refine lv_iload_n F.1.1 F.1.2.1 d_Mod_point_55 rfl (lv_at hl 1 rfl) ?_
          refine lv_imul F.1.1 F.1.2.1 d_Mod_point_56 ?_
          refine lv_iconst (v := 5) F.1.1 F.1.2.1 d_Mod_point_57 (by decide) ?_
          refine lv_iload_n F.1.1 F.1.2.1 d_Mod_point_58 rfl (lv_at hl 3 rfl) ?_
          refine lv_imul F.1.1 F.1.2.1 d_Mod_point_59 ?_
          refine lv_iadd F.1.1 F.1.2.1 d_Mod_point_60 ?_
          refine lv_iload_n F.1.1 F.1.2.1 d_Mod_point_61 rfl (lv_at hl 2 rfl) ?_
          refine lv_iadd F.1.1 F.1.2.1 d_Mod_point_62 ?_
          rw [show (25 : Int32) * nI a + 5 * nI j + nI i = nI (25 * a + (5 * j + i)) from by rw [show (25 : Int32) = nI 25 from rfl, show (5 : Int32) = nI 5 from rfl, pk_mul, pk_mul, nI_add, nI_add, Nat.add_assoc]]
          refine lv_iload F.1.1 F.1.2.1 d_Mod_point_63 (lv_at hl 4 rfl) ?_
          refine tA F hH hS rfl (vp_in_nI (by omega) (by omega)) d_Mod_point_65 (fun H locs hH hS => ?_)
          refine lv_aload_n F.1.1 F.1.2.1 d_Mod_point_66 rfl (lv_at hl 0 rfl) ?_
          refine gR ck_Mod F hH q_fl_Mod_62 (k := 24) (by decide) rfl (by decide) d_Mod_point_67 ?_
          refine lv_bipush (v := 25) F.1.1 F.1.2.1 d_Mod_point_70 (by decide) ?_
          refine lv_iload_n F.1.1 F.1.2.1 d_Mod_point_72 rfl (lv_at hl 1 rfl) ?_
          refine lv_imul F.1.1 F.1.2.1 d_Mod_point_73 ?_
          refine lv_iconst (v := 5) F.1.1 F.1.2.1 d_Mod_point_74 (by decide) ?_
          refine lv_iload_n F.1.1 F.1.2.1 d_Mod_point_75 rfl (lv_at hl 3 rfl) ?_
          refine lv_imul F.1.1 F.1.2.1 d_Mod_point_76 ?_
          refine lv_iadd F.1.1 F.1.2.1 d_Mod_point_77 ?_
          refine lv_iload_n F.1.1 F.1.2.1 d_Mod_point_78 rfl (lv_at hl 2 rfl) ?_
          refine lv_iadd F.1.1 F.1.2.1 d_Mod_point_79 ?_
          rw [show (25 : Int32) * nI a + 5 * nI j + nI i = nI (25 * a + (5 * j + i)) from by rw [show (25 : Int32) = nI 25 from rfl, show (5 : Int32) = nI 5 from rfl, pk_mul, pk_mul, nI_add, nI_add, Nat.add_assoc]]
          refine lv_iconst (v := 1) F.1.1 F.1.2.1 d_Mod_point_80 (by decide) ?_
          refine tZ F hH hS rfl (vp_in_nI (by omega) (by omega)) d_Mod_point_81 (fun H locs hH hS => ?_)
          refine lv_iconst (v := 1) F.1.1 F.1.2.1 d_Mod_point_82 (by decide) ?_
          exact hw_zret F hr hlocks hH hS d_Mod_point_83 (by first | decide | (split <;> decide) | (unfold cif; split <;> decide)) (cif_t ⟨c5, c17, c29, c44⟩).symm (by rw [cif_t ⟨c5, c17, c29, c44⟩, nI_clamp (show a < 2 ^ 31 by omega), nI_clamp (show i < 2 ^ 31 by omega), nI_clamp (show j < 2 ^ 31 by omega), nI_clamp (show 25 * a + (5 * j + i) < 2 ^ 31 by omega)]; rfl)
        · refine lv_iconst (v := 0) F.1.1 F.1.2.1 d_Mod_point_47 (by decide) ?_
          exact hw_zret F hr hlocks hH hS d_Mod_point_48 (by first | decide | (split <;> decide) | (unfold cif; split <;> decide)) (cif_f (fun q => q.2.2.2 c44)).symm (by rw [cif_f (fun q => q.2.2.2 c44)])
set_option maxHeartbeats 1000000 in
theorem c_Mod_phase (l : Launch) (D : va_G) (L0 : Nat) (ad : Nat → Nat) (β : Nat) (o : Ob) (f : Nat → Option va_E) (hA : hasO D ad β 6 shMod o f) (σ : Xs) (hR : xR σ) (hAR : AR σ) (hQ : Rl σ o) (a b : Int32) (w : Int64) : Met l y_Mod_phase (wd y_Mod_phase b_Mod_phase 5 (some .int)) { frames := 2, cells := 0, slots := 0, locals := 46 } (va_Pc [.ref (ad β), .int a, .int b, .long w] (cp D L0 ad (f))) (dt D L0 ad (some (.int (cif (phP σ a b w) (nI (xPc σ)) (-1)))) (obP D ad β 6 shMod (cif (phP σ a b w) (mPh o (xPc σ) a b w) o) f)) 0 0 (fun q => L0 ≤ q) := by
  refine hw_met (by decide) (Nat.le_of_ble_eq_true rfl) ?_
  intro p e s m below meth c ls F hr hlocks hnm hL hH hS hl
  replace hH := hH.to hA.symm
  have hX := xOK_of hR.1 hR.2.1
  have hC := hR.1.1
  have hTc := hR.1.2.2.2.2.2
  have hL_ := hQ.2.1
  have hn4 := hQ.2.2.1
  have hpc := hQ.2.2.2.2.2.2.1
  have hp4 := hX.2.2.1
  refine lv_aload_n F.1.1 F.1.2.1 d_Mod_phase_0 rfl (lv_at hl 0 rfl) ?_
  refine gI ck_Mod F hH q_fl_Mod_183 (k := 25) (by decide) rfl d_Mod_phase_1 ?_
  refine lv_iconst (v := 4) F.1.1 F.1.2.1 d_Mod_phase_4 (by decide) ?_
  refine lv_icmp_eq (tgt := 40) F.1.1 F.1.2.1 d_Mod_phase_5 (by decide) (fun c5 => ?_) (fun c5 => ?_)
  · rw [hpc] at c5
    have hlt : ¬ xPc σ < 4 := by have := (nI_eq (by omega) (by omega)).mp (show nI (xPc σ) = nI 4 from c5); omega
    refine lv_iconst (v := -1) F.1.1 F.1.2.1 d_Mod_phase_40 (by decide) ?_
    exact hw_iret F hr hlocks hH hS d_Mod_phase_41 (cif_f (fun q => hlt q.2.2.2.2)).symm (by rw [cif_f (fun q => hlt q.2.2.2.2)])
  · rw [hpc] at c5
    have hlt : xPc σ < 4 := by
      rcases Nat.lt_or_ge (xPc σ) 4 with q | q
      · exact q
      · exact absurd (show nI (xPc σ) = nI 4 from by rw [show xPc σ = 4 by omega]) c5
    have hix : vp_in (oI o 25) 4 := by rw [hpc]; exact vp_in_nI (by omega) (by omega)
    refine lv_aload_n F.1.1 F.1.2.1 d_Mod_phase_8 rfl (lv_at hl 0 rfl) ?_
    refine lv_iload_n F.1.1 F.1.2.1 d_Mod_phase_9 rfl (lv_at hl 1 rfl) ?_
    refine hw_call1 (hw_runV F hL hS hH hl (c_Mod_isColumn l D L0 ad β o _ obP_id (xC σ) hQ.1.1 hC.2 _) ck_Mod obP_o rfl q_ml_Mod_140 q_im_Mod_isColumn q_se_Mod_isColumn q_in_Mod q_co_Mod_isColumn rfl (k := 1) ⟨rfl, rfl, by decide +kernel, ⟨Nat.le_of_ble_eq_true rfl, Nat.le_of_ble_eq_true rfl⟩, Nat.le_of_ble_eq_true rfl⟩ rfl d_Mod_phase_10 ⟨Nat.le_of_ble_eq_true rfl, Nat.le_of_ble_eq_true rfl⟩) hS (fun H locs hH hS => ?_)
    refine lv_if_eq (tgt := 40) F.1.1 F.1.2.1 d_Mod_phase_13 (by decide) (fun c13 => ?_) (fun c13 => ?_)
    · refine lv_iconst (v := -1) F.1.1 F.1.2.1 d_Mod_phase_40 (by decide) ?_
      exact hw_iret F hr hlocks hH hS d_Mod_phase_41 (cif_f (fun q => q.1 c13)).symm (by rw [cif_f (fun q => q.1 c13)])
    · refine lv_aload_n F.1.1 F.1.2.1 d_Mod_phase_16 rfl (lv_at hl 0 rfl) ?_
      refine lv_iload_n F.1.1 F.1.2.1 d_Mod_phase_17 rfl (lv_at hl 2 rfl) ?_
      refine hw_call1 (hw_runV F hL hS hH hl (c_Mod_isColumn l D L0 ad β o _ obP_id (xC σ) hQ.1.1 hC.2 _) ck_Mod obP_o rfl q_ml_Mod_140 q_im_Mod_isColumn q_se_Mod_isColumn q_in_Mod q_co_Mod_isColumn rfl (k := 1) ⟨rfl, rfl, by decide +kernel, ⟨Nat.le_of_ble_eq_true rfl, Nat.le_of_ble_eq_true rfl⟩, Nat.le_of_ble_eq_true rfl⟩ rfl d_Mod_phase_18 ⟨Nat.le_of_ble_eq_true rfl, Nat.le_of_ble_eq_true rfl⟩) hS (fun H locs hH hS => ?_)
      refine lv_if_eq (tgt := 40) F.1.1 F.1.2.1 d_Mod_phase_21 (by decide) (fun c21 => ?_) (fun c21 => ?_)
      · refine lv_iconst (v := -1) F.1.1 F.1.2.1 d_Mod_phase_40 (by decide) ?_
        exact hw_iret F hr hlocks hH hS d_Mod_phase_41 (cif_f (fun q => q.2.1 c21)).symm (by rw [cif_f (fun q => q.2.1 c21)])
      · refine lv_iload_n F.1.1 F.1.2.1 d_Mod_phase_24 rfl (lv_at hl 1 rfl) ?_
        refine lv_iload_n F.1.1 F.1.2.1 d_Mod_phase_25 rfl (lv_at hl 2 rfl) ?_
        refine lv_icmp_gt (tgt := 40) F.1.1 F.1.2.1 d_Mod_phase_26 (by decide) (fun c26 => ?_) (fun c26 => ?_)
        · refine lv_iconst (v := -1) F.1.1 F.1.2.1 d_Mod_phase_40 (by decide) ?_
          exact hw_iret F hr hlocks hH hS d_Mod_phase_41 (cif_f (fun q => absurd q.2.2.1 (Int32.not_le.mpr c26))).symm (by rw [cif_f (fun q => absurd q.2.2.1 (Int32.not_le.mpr c26))])
        · refine lv_lload_n F.1.1 F.1.2.1 d_Mod_phase_29 rfl (lv_at hl 3 rfl) ?_
          refine lv_lconst (v := 0) F.1.1 F.1.2.1 d_Mod_phase_30 (by decide) ?_
          refine lv_ldc2 F.1.1 F.1.2.1 F.1.2.2.2.1 (F.1.2.2.2.2 _ q_cl_Mod_149) d_Mod_phase_31 ?_
          refine hw_call1 (hw_runS F hL hS hH hl (c_Mod_isIn l D L0 ad _ _ _ _) q_ml_Mod_84 q_st_Mod_isIn q_in_Mod q_co_Mod_isIn rfl (k := 3) ⟨rfl, rfl, by decide +kernel, ⟨Nat.le_of_ble_eq_true rfl, Nat.le_of_ble_eq_true rfl⟩, Nat.le_of_ble_eq_true rfl⟩ rfl d_Mod_phase_34 ⟨Nat.le_of_ble_eq_true rfl, Nat.le_of_ble_eq_true rfl⟩) hS (fun H locs hH hS => ?_)
          refine lv_if_ne (tgt := 42) F.1.1 F.1.2.1 d_Mod_phase_37 (by decide) (fun c37 => ?_) (fun c37 => ?_)
          · refine lv_aload_n F.1.1 F.1.2.1 d_Mod_phase_42 rfl (lv_at hl 0 rfl) ?_
            refine gR ck_Mod F hH q_fl_Mod_66 (k := 26) (by decide) rfl (by decide) d_Mod_phase_43 ?_
            refine lv_aload_n F.1.1 F.1.2.1 d_Mod_phase_46 rfl (lv_at hl 0 rfl) ?_
            refine gI ck_Mod F hH q_fl_Mod_183 (k := 25) (by decide) rfl d_Mod_phase_47 ?_
            refine lv_iload_n F.1.1 F.1.2.1 d_Mod_phase_50 rfl (lv_at hl 1 rfl) ?_
            refine tA F hH hS rfl hix d_Mod_phase_51 (fun H locs hH hS => ?_)
            refine lv_aload_n F.1.1 F.1.2.1 d_Mod_phase_52 rfl (lv_at hl 0 rfl) ?_
            refine gR ck_Mod F hH q_fl_Mod_69 (k := 27) (by decide) rfl (by decide) d_Mod_phase_53 ?_
            refine lv_aload_n F.1.1 F.1.2.1 d_Mod_phase_56 rfl (lv_at hl 0 rfl) ?_
            refine gI ck_Mod F hH q_fl_Mod_183 (k := 25) (by decide) rfl d_Mod_phase_57 ?_
            refine lv_iload_n F.1.1 F.1.2.1 d_Mod_phase_60 rfl (lv_at hl 2 rfl) ?_
            refine tA F hH hS rfl hix d_Mod_phase_61 (fun H locs hH hS => ?_)
            refine lv_aload_n F.1.1 F.1.2.1 d_Mod_phase_62 rfl (lv_at hl 0 rfl) ?_
            refine gR ck_Mod F hH q_fl_Mod_72 (k := 28) (by decide) rfl (by decide) d_Mod_phase_63 ?_
            refine lv_aload_n F.1.1 F.1.2.1 d_Mod_phase_66 rfl (lv_at hl 0 rfl) ?_
            refine gI ck_Mod F hH q_fl_Mod_183 (k := 25) (by decide) rfl d_Mod_phase_67 ?_
            refine lv_lload_n F.1.1 F.1.2.1 d_Mod_phase_70 rfl (lv_at hl 3 rfl) ?_
            refine tB F hH hS rfl hix d_Mod_phase_71 (fun H locs hH hS => ?_)
            refine lv_aload_n F.1.1 F.1.2.1 d_Mod_phase_72 rfl (lv_at hl 0 rfl) ?_
            refine lv_dup F.1.1 F.1.2.1 d_Mod_phase_73 rfl ?_
            refine gI ck_Mod F hH q_fl_Mod_183 (k := 25) (by decide) rfl d_Mod_phase_74 ?_
            refine lv_iconst (v := 1) F.1.1 F.1.2.1 d_Mod_phase_77 (by decide) ?_
            refine lv_iadd F.1.1 F.1.2.1 d_Mod_phase_78 ?_
            refine pI ck_Mod F hH hS q_fl_Mod_183 (k := 25) (by decide) rfl rfl rfl d_Mod_phase_79 (fun H locs hH hS => ?_)
            refine lv_aload_n F.1.1 F.1.2.1 d_Mod_phase_82 rfl (lv_at hl 0 rfl) ?_
            refine gI ck_Mod F hH q_fl_Mod_183 (k := 25) (by decide) rfl d_Mod_phase_83 ?_
            refine lv_iconst (v := 1) F.1.1 F.1.2.1 d_Mod_phase_86 (by decide) ?_
            refine lv_isub F.1.1 F.1.2.1 d_Mod_phase_87 ?_
            exact hw_iret F hr hlocks hH hS d_Mod_phase_88 (by rw [cif_t ⟨c13, c21, Int32.not_lt.mp c26, c37, hlt⟩]; show oI o 25 + 1 - 1 = _; rw [hpc]; exact Int32.add_sub_cancel _ _) (by rw [cif_t ⟨c13, c21, Int32.not_lt.mp c26, c37, hlt⟩]; exact congrArg (fun o => obP D ad β 6 shMod o f) (mPh_eq hpc hlt))
          · refine lv_iconst (v := -1) F.1.1 F.1.2.1 d_Mod_phase_40 (by decide) ?_
            exact hw_iret F hr hlocks hH hS d_Mod_phase_41 (cif_f (fun q => q.2.2.2.1 c37)).symm (by rw [cif_f (fun q => q.2.2.2.1 c37)])
set_option maxHeartbeats 1000000 in
theorem c_Mod_step (l : Launch) (D : va_G) (L0 : Nat) (ad : Nat → Nat) (β : Nat) (o : Ob) (f : Nat → Option va_E) (hA : hasO D ad β 6 shMod o f) (σ : Xs) (hR : xR σ) (hAR : AR σ) (hQ : Rl σ o) (i : Nat) (hi : i + 1 < xC σ) : Met l y_Mod_step (wd y_Mod_step b_Mod_step 4 (some .long)) { frames := 1, cells := 0, slots := 0, locals := 24 } (va_Pc [.ref (ad β), .int (nI i)] (cp D L0 ad (f))) (dt D L0 ad (some (.long (spF σ i))) (f)) 0 0 (fun q => L0 ≤ q) := by
  refine hw_met (by decide) (Nat.le_of_ble_eq_true rfl) ?_
  intro p e s m below meth c ls F hr hlocks hnm hL hH hS hl
  replace hH := hH.to hA.symm
  have hX := xOK_of hR.1 hR.2.1
  have hC := hR.1.1
  have hTc := hR.1.2.2.2.2.2
  have hL_ := hQ.2.1
  have hn4 := hQ.2.2.1
  have hi0 : i < xC σ := by omega
  refine lv_aload_n F.1.1 F.1.2.1 d_Mod_step_0 rfl (lv_at hl 0 rfl) ?_
  refine lv_iload_n F.1.1 F.1.2.1 d_Mod_step_1 rfl (lv_at hl 1 rfl) ?_
  refine hw_call1 (hw_runV F hL hS hH hl (c_Mod_heightOf l D L0 ad β o _ obP_id (i) (lc (xL σ (i))) (by omega) (by rw [(hL_.1 (i) hi0).1]; exact (hX.2.2.2.2.2.1 (i) hi0).1) (hX.2.2.2.2.2.1 (i) hi0).2) ck_Mod obP_o rfl q_ml_Mod_102 q_im_Mod_heightOf q_se_Mod_heightOf q_in_Mod q_co_Mod_heightOf rfl (k := 1) ⟨rfl, rfl, by decide +kernel, ⟨Nat.le_of_ble_eq_true rfl, Nat.le_of_ble_eq_true rfl⟩, Nat.le_of_ble_eq_true rfl⟩ rfl d_Mod_step_2 ⟨Nat.le_of_ble_eq_true rfl, Nat.le_of_ble_eq_true rfl⟩) hS (fun H locs hH hS => ?_)
  refine lv_aload_n F.1.1 F.1.2.1 d_Mod_step_5 rfl (lv_at hl 0 rfl) ?_
  refine lv_iload_n F.1.1 F.1.2.1 d_Mod_step_6 rfl (lv_at hl 1 rfl) ?_
  refine lv_iconst (v := 1) F.1.1 F.1.2.1 d_Mod_step_7 (by decide) ?_
  refine lv_iadd F.1.1 F.1.2.1 d_Mod_step_8 ?_
  rw [show nI i + 1 = nI (i + 1) from nI_1 i]
  refine hw_call1 (hw_runV F hL hS hH hl (c_Mod_heightOf l D L0 ad β o _ obP_id (i + 1) (lc (xL σ (i + 1))) (by omega) (by rw [(hL_.1 (i + 1) hi).1]; exact (hX.2.2.2.2.2.1 (i + 1) hi).1) (hX.2.2.2.2.2.1 (i + 1) hi).2) ck_Mod obP_o rfl q_ml_Mod_102 q_im_Mod_heightOf q_se_Mod_heightOf q_in_Mod q_co_Mod_heightOf rfl (k := 1) ⟨rfl, rfl, by decide +kernel, ⟨Nat.le_of_ble_eq_true rfl, Nat.le_of_ble_eq_true rfl⟩, Nat.le_of_ble_eq_true rfl⟩ rfl d_Mod_step_9 ⟨Nat.le_of_ble_eq_true rfl, Nat.le_of_ble_eq_true rfl⟩) hS (fun H locs hH hS => ?_)
  refine lv_lsub F.1.1 F.1.2.1 d_Mod_step_12 ?_
  refine lv_lstore_n F.1.1 F.1.2.1 d_Mod_step_13 rfl hl (by decide) rfl (fun ls hl => ?_)
  refine lv_lload_n F.1.1 F.1.2.1 d_Mod_step_14 rfl (lv_at hl 0 rfl) ?_
  refine lv_lconst (v := 0) F.1.1 F.1.2.1 d_Mod_step_15 (by decide) ?_
  refine W.lcmp F.1.1 F.1.2.1 d_Mod_step_16 ?_
  refine lv_if_ge (tgt := 25) F.1.1 F.1.2.1 d_Mod_step_17 (by decide) (fun c17 => ?_) (fun c17 => ?_)
  · rw [lg_cmp_ge] at c17
    refine lv_lload_n F.1.1 F.1.2.1 d_Mod_step_25 rfl (lv_at hl 0 rfl) ?_
    exact hw_lret F hr hlocks hH hS d_Mod_step_26 (sp_eq1 hL_ hi0 hi c17) hA
  · rw [lg_cmp_ge] at c17
    refine lv_lload_n F.1.1 F.1.2.1 d_Mod_step_20 rfl (lv_at hl 0 rfl) ?_
    refine lv_lneg F.1.1 F.1.2.1 d_Mod_step_21 ?_
    refine lv_goto (tgt := 26) F.1.1 F.1.2.1 d_Mod_step_22 (by decide) ?_
    exact hw_lret F hr hlocks hH hS d_Mod_step_26 (sp_eq2 hL_ hi0 hi c17) hA
set_option maxHeartbeats 1000000 in
theorem c_Mod_kept (l : Launch) (D : va_G) (L0 : Nat) (ad : Nat → Nat) (β : Nat) (o : Ob) (f : Nat → Option va_E) (hA : hasO D ad β 6 shMod o f) (σ : Xs) (hR : xR σ) (hAR : AR σ) (hQ : Rl σ o) (hP : xPh σ) (ph : Int32) : Met l y_Mod_kept (wd y_Mod_kept b_Mod_kept 4 (some .boolean)) { frames := 2, cells := 0, slots := 0, locals := 47 } (va_Pc [.ref (ad β), .int ph] (cp D L0 ad (f))) (dt D L0 ad (some (.int (cif (kpP σ ph) 1 0))) (f)) 0 0 (fun q => L0 ≤ q) := by
  refine hw_met (by decide) (Nat.le_of_ble_eq_true rfl) ?_
  intro p e s m below meth c ls F hr hlocks hnm hL hH hS hl
  replace hH := hH.to hA.symm
  have hX := xOK_of hR.1 hR.2.1
  have hC := hR.1.1
  have hTc := hR.1.2.2.2.2.2
  have hL_ := hQ.2.1
  have hn4 := hQ.2.2.1
  have hpc := hQ.2.2.2.2.2.2.1
  have hp4 := hX.2.2.1
  refine lv_iload_n F.1.1 F.1.2.1 d_Mod_kept_0 rfl (lv_at hl 1 rfl) ?_
  refine lv_if_lt (tgt := 12) F.1.1 F.1.2.1 d_Mod_kept_1 (by decide) (fun c1 => ?_) (fun c1 => ?_)
  · refine lv_iconst (v := 0) F.1.1 F.1.2.1 d_Mod_kept_12 (by decide) ?_
    exact hw_zret F hr hlocks hH hS d_Mod_kept_13 (by first | decide | (split <;> decide) | (unfold cif; split <;> decide)) (cif_f (fun q => q.1 (is_0 (by omega) (Or.inl c1)))).symm hA
  · refine lv_iload_n F.1.1 F.1.2.1 d_Mod_kept_4 rfl (lv_at hl 1 rfl) ?_
    refine lv_aload_n F.1.1 F.1.2.1 d_Mod_kept_5 rfl (lv_at hl 0 rfl) ?_
    refine gI ck_Mod F hH q_fl_Mod_183 (k := 25) (by decide) rfl d_Mod_kept_6 ?_
    refine lv_icmp_lt (tgt := 14) F.1.1 F.1.2.1 d_Mod_kept_9 (by decide) (fun c9 => ?_) (fun c9 => ?_)
    · rw [hpc] at c9
      obtain ⟨k, hk, rfl⟩ := pk_mu2 c1 c9 (by omega)
      obtain ⟨a, b, hab, hbC, ea, eb⟩ := hP k hk
      obtain ⟨e1, e2, e3⟩ := hQ.2.2.2.2.2.2.2 k hk
      refine lv_iconst (v := 1) F.1.1 F.1.2.1 d_Mod_kept_14 (by decide) ?_
      refine lv_istore_n F.1.1 F.1.2.1 d_Mod_kept_15 rfl hl (by decide) rfl (fun ls hl => ?_)
      refine lv_aload_n F.1.1 F.1.2.1 d_Mod_kept_16 rfl (lv_at hl 1 rfl) ?_
      refine gR ck_Mod F hH q_fl_Mod_66 (k := 26) (by decide) rfl (by decide) d_Mod_kept_17 ?_
      refine lv_iload_n F.1.1 F.1.2.1 d_Mod_kept_20 rfl (lv_at hl 2 rfl) ?_
      refine lA F hH rfl (vp_in_nI (by omega) (by omega)) d_Mod_kept_21 ?_
      refine lv_istore_n F.1.1 F.1.2.1 d_Mod_kept_22 rfl hl (by decide) rfl (fun ls hl => ?_)
      have L23 : ∀ (u : Nat) (j : Nat) (H : Heap) (locs : List Loc) (ls : Array Slot), (a ≤ j ∧ j ≤ b) → b - j < u → hw D L0 ad (obP D ad β 6 shMod o f) H → va_S (fun q => L0 ≤ q) s.heap H locs → lv_has ls 4 [(0, .ref (ad β)), (1, .int (nI k)), (2, .int (cif (kpA σ (oJ (xP σ k) 2) a j) 1 0)), (3, .int (nI j))] → W p l e { frames := 2, cells := 0, slots := 0, locals := 47 } s m [.ref (ad β), .int (nI k)].toArray below meth c H locs 0 0 (MQ below (dt D L0 ad (some (.int (cif (kpP σ (nI k)) 1 0))) (f)) [.ref (ad β), .int (nI k)].toArray s 0 0 (fun q => L0 ≤ q)) (F0 m 23 ls []) := by
        intro u
        induction u with
        | zero => intros; exact absurd ‹(_ : Nat) < 0› (Nat.not_lt_zero _)
        | succ u ih23 =>
          intro j H locs ls hj hu hH hS hl
          refine lv_iload_n F.1.1 F.1.2.1 d_Mod_kept_23 rfl (lv_at hl 3 rfl) ?_
          refine lv_aload_n F.1.1 F.1.2.1 d_Mod_kept_24 rfl (lv_at hl 0 rfl) ?_
          refine gR ck_Mod F hH q_fl_Mod_69 (k := 27) (by decide) rfl (by decide) d_Mod_kept_25 ?_
          refine lv_iload_n F.1.1 F.1.2.1 d_Mod_kept_28 rfl (lv_at hl 1 rfl) ?_
          refine lA F hH rfl (vp_in_nI (by omega) (by omega)) d_Mod_kept_29 ?_
          refine lv_icmp_ge (tgt := 64) F.1.1 F.1.2.1 d_Mod_kept_30 (by decide) (fun c30 => ?_) (fun c30 => ?_)
          · rw [nI_clamp (by omega), e2, eb] at c30
            have hin := (nI_leI (by omega) (by omega)).mp c30
            refine lv_iload_n F.1.1 F.1.2.1 d_Mod_kept_64 rfl (lv_at hl 2 rfl) ?_
            exact hw_zret F hr hlocks hH hS d_Mod_kept_65 (by first | decide | (split <;> decide) | (unfold cif; split <;> decide)) (by rw [show j = b by omega]; exact kp_end hk (by omega) ea eb (by omega) (by omega)) hA
          · rw [nI_clamp (by omega), e2, eb] at c30
            have hin : j < b := by
              rcases Nat.lt_or_ge j b with q | q
              · exact q
              · exact absurd (nI_le q (by omega)) c30
            refine lv_iload_n F.1.1 F.1.2.1 d_Mod_kept_33 rfl (lv_at hl 2 rfl) ?_
            refine lv_if_eq (tgt := 56) F.1.1 F.1.2.1 d_Mod_kept_34 (by decide) (fun c34 => ?_) (fun c34 => ?_)
            · rw [cif_0] at c34
              refine lv_iconst (v := 0) F.1.1 F.1.2.1 d_Mod_kept_56 (by decide) ?_
              refine lv_istore_n F.1.1 F.1.2.1 d_Mod_kept_57 rfl hl (by decide) rfl (fun ls hl => ?_)
              refine lv_iinc F.1.1 F.1.2.1 d_Mod_kept_58 hl (k := 3) rfl rfl (by decide) rfl (fun ls hl => ?_)
              refine lv_goto (tgt := 23) F.1.1 F.1.2.1 d_Mod_kept_61 (by decide) ?_
              refine ih23 (j + 1) H locs ls (by omega) (by omega) hH hS (lv_sub hl [2, 3, 1, 0] ?_)
              show [_, _, _, _] = [_, _, _, _]
              rw [ii1, cif_f (show ¬ kpA σ (oJ (xP σ k) 2) a (j + 1) from fun q => c34 (fun i h1 h2 => q i h1 (by omega)))]
              first | done | rfl
            · rw [cif_0] at c34
              refine lv_aload_n F.1.1 F.1.2.1 d_Mod_kept_37 rfl (lv_at hl 0 rfl) ?_
              refine lv_iload_n F.1.1 F.1.2.1 d_Mod_kept_38 rfl (lv_at hl 3 rfl) ?_
              refine hw_call1 (hw_runV F hL hS hH hl (c_Mod_step l D L0 ad β o _ obP_id σ hR hAR hQ j (by omega)) ck_Mod obP_o rfl q_ml_Mod_186 q_im_Mod_step q_se_Mod_step q_in_Mod q_co_Mod_step rfl (k := 1) ⟨rfl, rfl, by decide +kernel, ⟨Nat.le_of_ble_eq_true rfl, Nat.le_of_ble_eq_true rfl⟩, Nat.le_of_ble_eq_true rfl⟩ rfl d_Mod_kept_39 ⟨Nat.le_of_ble_eq_true rfl, Nat.le_of_ble_eq_true rfl⟩) hS (fun H locs hH hS => ?_)
              refine lv_aload_n F.1.1 F.1.2.1 d_Mod_kept_42 rfl (lv_at hl 0 rfl) ?_
              refine gR ck_Mod F hH q_fl_Mod_72 (k := 28) (by decide) rfl (by decide) d_Mod_kept_43 ?_
              refine lv_iload_n F.1.1 F.1.2.1 d_Mod_kept_46 rfl (lv_at hl 1 rfl) ?_
              refine lB F hH rfl (vp_in_nI (by omega) (by omega)) d_Mod_kept_47 ?_
              refine W.lcmp F.1.1 F.1.2.1 d_Mod_kept_48 ?_
              refine lv_if_gt (tgt := 56) F.1.1 F.1.2.1 d_Mod_kept_49 (by decide) (fun c49 => ?_) (fun c49 => ?_)
              · rw [lg_cmp_gt, nI_clamp (by omega), e3] at c49
                refine lv_iconst (v := 0) F.1.1 F.1.2.1 d_Mod_kept_56 (by decide) ?_
                refine lv_istore_n F.1.1 F.1.2.1 d_Mod_kept_57 rfl hl (by decide) rfl (fun ls hl => ?_)
                refine lv_iinc F.1.1 F.1.2.1 d_Mod_kept_58 hl (k := 3) rfl rfl (by decide) rfl (fun ls hl => ?_)
                refine lv_goto (tgt := 23) F.1.1 F.1.2.1 d_Mod_kept_61 (by decide) ?_
                refine ih23 (j + 1) H locs ls (by omega) (by omega) hH hS (lv_sub hl [2, 3, 1, 0] ?_)
                show [_, _, _, _] = [_, _, _, _]
                rw [ii1, cif_f (show ¬ kpA σ (oJ (xP σ k) 2) a (j + 1) from fun q => q j hj.1 (by omega) c49)]
                first | done | rfl
              · rw [lg_cmp_gt, nI_clamp (by omega), e3] at c49
                refine lv_iconst (v := 1) F.1.1 F.1.2.1 d_Mod_kept_52 (by decide) ?_
                refine lv_goto (tgt := 57) F.1.1 F.1.2.1 d_Mod_kept_53 (by decide) ?_
                refine lv_istore_n F.1.1 F.1.2.1 d_Mod_kept_57 rfl hl (by decide) rfl (fun ls hl => ?_)
                refine lv_iinc F.1.1 F.1.2.1 d_Mod_kept_58 hl (k := 3) rfl rfl (by decide) rfl (fun ls hl => ?_)
                refine lv_goto (tgt := 23) F.1.1 F.1.2.1 d_Mod_kept_61 (by decide) ?_
                refine ih23 (j + 1) H locs ls (by omega) (by omega) hH hS (lv_sub hl [2, 3, 1, 0] ?_)
                show [_, _, _, _] = [_, _, _, _]
                rw [ii1, cif_t (show kpA σ (oJ (xP σ k) 2) a (j + 1) from fun i h1 h2 => by
                  rcases Nat.lt_or_ge i j with q | q
                  · exact (Classical.not_not.mp c34) i h1 q
                  · rw [show i = j by omega]; exact c49)]
                first | done | rfl
      refine L23 (b - a + 1) a s.heap [] ls ⟨Nat.le_refl _, hab⟩ (Nat.lt_succ_self _) hH hS (lv_sub hl [2, 3, 1, 0] ?_)
      show [_, _, _, _] = [_, _, _, _]
      rw [nI_clamp (by omega), e1, ea, cif_t (show kpA σ (oJ (xP σ k) 2) a a from fun i h1 h2 => absurd h2 (by omega))]
      first | done | rfl
    · rw [hpc] at c9
      refine lv_iconst (v := 0) F.1.1 F.1.2.1 d_Mod_kept_12 (by decide) ?_
      exact hw_zret F hr hlocks hH hS d_Mod_kept_13 (by first | decide | (split <;> decide) | (unfold cif; split <;> decide)) (cif_f (fun q => q.1 (is_0 (by omega) (Or.inr (Int32.not_lt.mp c9))))).symm hA
set_option maxHeartbeats 1000000 in
theorem c_Mod_crack (l : Launch) (D : va_G) (L0 : Nat) (ad : Nat → Nat) (β : Nat) (o : Ob) (f : Nat → Option va_E) (hA : hasO D ad β 6 shMod o f) (σ : Xs) (hR : xR σ) (hAR : AR σ) (hQ : Rl σ o) (k : Int32) (ap : Int64) : Met l y_Mod_crack (wd y_Mod_crack b_Mod_crack 6 (some .int)) { frames := 2, cells := 0, slots := 0, locals := 47 } (va_Pc [.ref (ad β), .int k, .long ap] (cp D L0 ad (f))) (dt D L0 ad (some (.int (if k < 0 ∨ ap < 0 then -1 else crk (spF σ) ap k (xC σ - 1) 0 0))) (f)) 0 0 (fun q => L0 ≤ q) := by
  refine hw_met (by decide) (Nat.le_of_ble_eq_true rfl) ?_
  intro p e s m below meth c ls F hr hlocks hnm hL hH hS hl
  replace hH := hH.to hA.symm
  have hX := xOK_of hR.1 hR.2.1
  have hC := hR.1.1
  have hTc := hR.1.2.2.2.2.2
  have hL_ := hQ.2.1
  have hn4 := hQ.2.2.1
  refine lv_iconst (v := 0) F.1.1 F.1.2.1 d_Mod_crack_0 (by decide) ?_
  refine lv_istore F.1.1 F.1.2.1 d_Mod_crack_1 hl (by decide) rfl (fun ls hl => ?_)
  refine lv_iconst (v := 0) F.1.1 F.1.2.1 d_Mod_crack_3 (by decide) ?_
  refine lv_istore F.1.1 F.1.2.1 d_Mod_crack_4 hl (by decide) rfl (fun ls hl => ?_)
  have L6 : ∀ (u : Nat) (i sn : Nat) (H : Heap) (locs : List Loc) (ls : Array Slot), (i ≤ xC σ - 1) → (sn ≤ i) → (crk (spF σ) ap k (xC σ - 1 - i) i (nI sn) = crk (spF σ) ap k (xC σ - 1) 0 0) → xC σ - 1 - i < u → hw D L0 ad (obP D ad β 6 shMod o f) H → va_S (fun q => L0 ≤ q) s.heap H locs → lv_has ls 6 [(0, .ref (ad β)), (1, .int k), (2, .long ap), (4, .int (nI sn)), (5, .int (nI i))] → W p l e { frames := 2, cells := 0, slots := 0, locals := 47 } s m [.ref (ad β), .int k, .long ap].toArray below meth c H locs 0 0 (MQ below (dt D L0 ad (some (.int (if k < 0 ∨ ap < 0 then -1 else crk (spF σ) ap k (xC σ - 1) 0 0))) (f)) [.ref (ad β), .int k, .long ap].toArray s 0 0 (fun q => L0 ≤ q)) (F0 m 6 ls []) := by
    intro u
    induction u with
    | zero => intros; exact absurd ‹(_ : Nat) < 0› (Nat.not_lt_zero _)
    | succ u ih6 =>
      intro i sn H locs ls hi hsn he hu hH hS hl
      refine lv_iload F.1.1 F.1.2.1 d_Mod_crack_6 (lv_at hl 4 rfl) ?_
      refine lv_iconst (v := 1) F.1.1 F.1.2.1 d_Mod_crack_8 (by decide) ?_
      refine lv_iadd F.1.1 F.1.2.1 d_Mod_crack_9 ?_
      refine lv_aload_n F.1.1 F.1.2.1 d_Mod_crack_10 rfl (lv_at hl 0 rfl) ?_
      refine gI ck_Mod F hH q_fl_Mod_75 (k := 0) (by decide) rfl d_Mod_crack_11 ?_
      refine lv_icmp_ge (tgt := 52) F.1.1 F.1.2.1 d_Mod_crack_14 (by decide) (fun c14 => ?_) (fun c14 => ?_)
      · rw [hQ.1.1, show nI i + 1 = nI (i + 1) from nI_1 i] at c14
        have hin := (nI_leI (by omega) (by omega)).mp c14
        refine lv_iconst (v := -1) F.1.1 F.1.2.1 d_Mod_crack_52 (by decide) ?_
        exact hw_iret F hr hlocks hH hS d_Mod_crack_53 (by
          by_cases hq : k < 0 ∨ ap < 0
          · rw [if_pos hq]
          · rw [if_neg hq, ← he, show xC σ - 1 - i = 0 by omega]; rfl) hA
      · rw [hQ.1.1, show nI i + 1 = nI (i + 1) from nI_1 i] at c14
        have hin : i < xC σ - 1 := by
          rcases Nat.lt_or_ge (i + 1) (xC σ) with q | q
          · omega
          · exact absurd (nI_le q (by omega)) c14
        refine lv_lload_n F.1.1 F.1.2.1 d_Mod_crack_17 rfl (lv_at hl 2 rfl) ?_
        refine lv_lconst (v := 0) F.1.1 F.1.2.1 d_Mod_crack_18 (by decide) ?_
        refine W.lcmp F.1.1 F.1.2.1 d_Mod_crack_19 ?_
        refine lv_if_lt (tgt := 52) F.1.1 F.1.2.1 d_Mod_crack_20 (by decide) (fun c20 => ?_) (fun c20 => ?_)
        · rw [lg_cmp_lt] at c20
          refine lv_iconst (v := -1) F.1.1 F.1.2.1 d_Mod_crack_52 (by decide) ?_
          exact hw_iret F hr hlocks hH hS d_Mod_crack_53 (by rw [if_pos (Or.inr c20)]) hA
        · rw [lg_cmp_lt] at c20
          refine lv_aload_n F.1.1 F.1.2.1 d_Mod_crack_23 rfl (lv_at hl 0 rfl) ?_
          refine lv_iload F.1.1 F.1.2.1 d_Mod_crack_24 (lv_at hl 4 rfl) ?_
          refine hw_call1 (hw_runV F hL hS hH hl (c_Mod_step l D L0 ad β o _ obP_id σ hR hAR hQ i (by omega)) ck_Mod obP_o rfl q_ml_Mod_186 q_im_Mod_step q_se_Mod_step q_in_Mod q_co_Mod_step rfl (k := 1) ⟨rfl, rfl, by decide +kernel, ⟨Nat.le_of_ble_eq_true rfl, Nat.le_of_ble_eq_true rfl⟩, Nat.le_of_ble_eq_true rfl⟩ rfl d_Mod_crack_26 ⟨Nat.le_of_ble_eq_true rfl, Nat.le_of_ble_eq_true rfl⟩) hS (fun H locs hH hS => ?_)
          refine lv_lload_n F.1.1 F.1.2.1 d_Mod_crack_29 rfl (lv_at hl 2 rfl) ?_
          refine W.lcmp F.1.1 F.1.2.1 d_Mod_crack_30 ?_
          refine lv_if_le (tgt := 46) F.1.1 F.1.2.1 d_Mod_crack_31 (by decide) (fun c31 => ?_) (fun c31 => ?_)
          · rw [lg_cmp_le] at c31
            refine lv_iinc F.1.1 F.1.2.1 d_Mod_crack_46 hl (k := 4) rfl rfl (by decide) rfl (fun ls hl => ?_)
            refine lv_goto (tgt := 6) F.1.1 F.1.2.1 d_Mod_crack_49 (by decide) ?_
            refine ih6 (i + 1) sn H locs ls (by omega) (by omega) (by rw [← he, crk_n hin (Int64.not_lt.mpr c31)]) (by omega) hH hS (lv_sub hl [1, 2, 3, 4, 0] ?_)
            show [_, _, _, _, _] = [_, _, _, _, _]
            rw [ii1]
            first | done | rfl
          · rw [lg_cmp_le] at c31
            refine lv_iload F.1.1 F.1.2.1 d_Mod_crack_34 (lv_at hl 3 rfl) ?_
            refine lv_iload_n F.1.1 F.1.2.1 d_Mod_crack_36 rfl (lv_at hl 1 rfl) ?_
            refine lv_icmp_ne (tgt := 43) F.1.1 F.1.2.1 d_Mod_crack_37 (by decide) (fun c37 => ?_) (fun c37 => ?_)
            · refine lv_iinc F.1.1 F.1.2.1 d_Mod_crack_43 hl (k := 3) rfl rfl (by decide) rfl (fun ls hl => ?_)
              refine lv_iinc F.1.1 F.1.2.1 d_Mod_crack_46 hl (k := 4) rfl rfl (by decide) rfl (fun ls hl => ?_)
              refine lv_goto (tgt := 6) F.1.1 F.1.2.1 d_Mod_crack_49 (by decide) ?_
              refine ih6 (i + 1) (sn + 1) H locs ls (by omega) (by omega) (by rw [← he, crk_s hin (Int64.not_le.mp c31) c37, nI_1]) (by omega) hH hS (lv_sub hl [2, 3, 4, 1, 0] ?_)
              show [_, _, _, _, _] = [_, _, _, _, _]
              rw [ii1, ii1]
              first | done | rfl
            · refine lv_iload F.1.1 F.1.2.1 d_Mod_crack_40 (lv_at hl 4 rfl) ?_
              exact hw_iret F hr hlocks hH hS d_Mod_crack_42 (by rw [if_neg (fun q => q.elim (fun z => absurd z (by rw [← c37]; exact nI_pos (by omega))) c20), ← he, crk_y hin (Int64.not_le.mp c31) c37]) hA
  exact L6 (xC σ - 1 - 0 + 1) 0 0 s.heap [] ls (Nat.zero_le _) (Nat.le_refl _) rfl (Nat.lt_succ_self _) hH hS (lv_sub hl [2, 3, 4, 1, 0] rfl)
