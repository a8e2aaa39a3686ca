/-! CellSettling: readers and small steps; printed by wip/gen/cel.py -/
def lc (o : Ob) : Nat := (oI o 4).toNatClampNeg
def rc (o : Ob) : Nat := (oI o 2).toNatClampNeg
def tc (o : Ob) : Nat := (oI o 5).toNatClampNeg
def xOK (σ : Xs) : Prop := (1 ≤ xC σ ∧ xC σ ≤ 8) ∧ xSc σ ≤ 4 ∧ xPc σ ≤ 4 ∧ oI (xE σ) 6 = nI (xSc σ) ∧ oI (xE σ) 7 = nI (xPc σ) ∧ (∀ i, i < xC σ → oI (xL σ i) 4 = nI (lc (xL σ i)) ∧ lc (xL σ i) ≤ 10) ∧ (∀ k, k < 4 → oI (xK σ k) 2 = nI (rc (xK σ k)) ∧ rc (xK σ k) ≤ 4) ∧ oI (xT σ) 5 = nI (tc (xT σ)) ∧ tc (xT σ) ≤ 200
theorem Int64_le {a b : Int64} : a ≤ b ↔ a.toInt ≤ b.toInt := Int64.le_iff_toInt_le
theorem i2l_toInt (x : Int32) : x.toInt64.toInt = x.toInt := by simp
theorem lNm1_toInt {n : Nat} (h : n < 2 ^ 31) : (lN n - 1).toInt = (n : Int) - 1 := by
  cases n with
  | zero => decide
  | succ n =>
    rw [show lN (n + 1) - 1 = lN n from by rw [← lN_1, Int64.add_sub_cancel], lN_toInt (by omega)]
    omega
theorem ixN {n : Nat} {x : Int32} (hn : n < 2 ^ 31) (h : ¬ wi x.toInt64 0 (lN n - 1) = 0) : ∃ i, i < n ∧ x = nI i := by
  rw [wi_1, Int64_le, Int64_le, i2l_toInt, lNm1_toInt hn] at h
  exact vp_in_of (vp_in_iff.mpr ⟨by simpa using h.1, by omega⟩) hn
theorem ixN_in {n i : Nat} (hn : n < 2 ^ 31) (h : i < n) : ¬ wi (nI i).toInt64 0 (lN n - 1) = 0 := by
  rw [wi_1, Int64_le, Int64_le, i2l_toInt, lNm1_toInt hn, nI_toInt (by omega)]
  exact ⟨by simp, by omega⟩
theorem ixK {x : Int32} (h : ¬ wi x.toInt64 0 3 = 0) : ∃ i, i < 4 ∧ x = nI i := ixN (n := 4) (by omega) h
theorem nI_pl {n : Nat} (h : n < 2 ^ 31) : (nI n - 1).toInt64 = lN n - 1 := by
  cases n with
  | zero => decide
  | succ n => rw [nI_pred, nI_l (by omega), ← lN_1, Int64.add_sub_cancel]
def spF (σ : Xs) (i : Nat) : Int64 := if 0 < topF (xL σ i) (lc (xL σ i)) - topF (xL σ (i + 1)) (lc (xL σ (i + 1))) then topF (xL σ i) (lc (xL σ i)) - topF (xL σ (i + 1)) (lc (xL σ (i + 1))) else -(topF (xL σ i) (lc (xL σ i)) - topF (xL σ (i + 1)) (lc (xL σ (i + 1))))
def cutF (by_ : Int64) : Int64 := if (if by_ < 1000000 then by_ else 1000000) < -1000000 then -1000000 else (if by_ < 1000000 then by_ else 1000000)
def cmF (σ : Xs) (i : Nat) (am : Int64) : Xs := xsE σ (sI (sJ (xE σ) 10 (oJ (xE σ) 10 + cutF (topF (xL σ i) (lc (xL σ i)) / 1000 - am) * cutF (topF (xL σ i) (lc (xL σ i)) / 1000 - am))) 9 (oI (xE σ) 9 + 1))
def ftF (σ : Xs) (k : Nat) (kg : Int64) : Int64 := kg * 1000000 / ((oI (xK σ k) 3).toInt64 * (oI (xE σ) 0).toInt64 * (oI (xE σ) 0).toInt64)
set_option maxHeartbeats 1000000 in
theorem c_Cel_kindAt (l : Launch) (D : va_G) (L0 : Nat) (ad : Nat → Nat) (σ : Xs) (f0 : Nat → Option va_E) (hX : xOK σ) (x : Int32) : Met l y_Cel_kindAt (wd y_Cel_kindAt b_Cel_kindAt 2 (some (.object "CellSettling$Kind"))) { frames := 1, cells := 0, slots := 0, locals := 25 } (va_Pc [.ref (ad 0), .int x] (cp D L0 ad (celP D ad σ f0))) (dt D L0 ad (some (if wi x.toInt64 0 3 = 0 then .null else .ref (ad (32 + 8 * x.toNatClampNeg)))) (celP D ad σ f0)) 0 0 (fun q => L0 ≤ q) := by
  refine hw_met (by decide) (Nat.le_of_ble_eq_true rfl) ?_
  intro p e s m below meth c ls F hr hlocks hnm hL hH hS hl
  refine lv_iload_n F.1.1 F.1.2.1 d_Cel_kindAt_0 rfl (lv_at hl 1 rfl) ?_
  refine lv_i2l F.1.1 F.1.2.1 d_Cel_kindAt_1 rfl ?_
  refine lv_lconst (v := 0) F.1.1 F.1.2.1 d_Cel_kindAt_2 (by decide) ?_
  refine lv_ldc2 F.1.1 F.1.2.1 F.1.2.2.2.1 (F.1.2.2.2.2 _ q_cl_Cel_259) d_Cel_kindAt_3 ?_
  refine hw_call1 (hw_runS F hL hS hH hl (c_Cel_isWithin l D L0 ad _ _ _ _) q_ml_Cel_11 q_st_Cel_isWithin q_in_Cel q_co_Cel_isWithin rfl (k := 3) ⟨rfl, rfl, by decide +kernel, ⟨Nat.le_of_ble_eq_true rfl, Nat.le_of_ble_eq_true rfl⟩, Nat.le_of_ble_eq_true rfl⟩ rfl d_Cel_kindAt_6 ⟨Nat.le_of_ble_eq_true rfl, Nat.le_of_ble_eq_true rfl⟩) hS (fun H locs hH hS => ?_)
  refine lv_if_eq (tgt := 21) F.1.1 F.1.2.1 d_Cel_kindAt_9 (by decide) (fun c9 => ?_) (fun c9 => ?_)
  · refine lv_null F.1.1 F.1.2.1 d_Cel_kindAt_21 ?_
    exact hw_aret F hr hlocks hH hS d_Cel_kindAt_22 (by first | exact Or.inl rfl | exact Or.inr ⟨_, rfl⟩) (by rw [if_pos c9]) rfl
  · obtain ⟨k, hk, rfl⟩ := ixK c9
    refine lv_aload_n F.1.1 F.1.2.1 d_Cel_kindAt_12 rfl (lv_at hl 0 rfl) ?_
    refine gX ck_Cel F (hH.to celE.symm) q_fl_Cel_30 (k := 2) (by decide) rfl d_Cel_kindAt_13 ?_
    refine lv_iload_n F.1.1 F.1.2.1 d_Cel_kindAt_16 rfl (lv_at hl 1 rfl) ?_
    refine hw_aaldR F hH (j := 1) rfl celP_3 (vp_in_nI hk (by omega)) (by rw [nI_clamp (by omega)]; exact if_pos hk) d_Cel_kindAt_17 ?_
    refine lv_goto (tgt := 22) F.1.1 F.1.2.1 d_Cel_kindAt_18 (by decide) ?_
    exact hw_aret F hr hlocks hH hS d_Cel_kindAt_22 (by first | exact Or.inl rfl | exact Or.inr ⟨_, rfl⟩) (by rw [if_neg c9, nI_clamp (by omega)]) rfl
set_option maxHeartbeats 1000000 in
theorem c_Cel_columnAt (l : Launch) (D : va_G) (L0 : Nat) (ad : Nat → Nat) (σ : Xs) (f0 : Nat → Option va_E) (hX : xOK σ) (x : Int32) : Met l y_Cel_columnAt (wd y_Cel_columnAt b_Cel_columnAt 2 (some (.object "CellSettling$Column"))) { frames := 1, cells := 0, slots := 0, locals := 25 } (va_Pc [.ref (ad 0), .int x] (cp D L0 ad (celP D ad σ f0))) (dt D L0 ad (some (if wi x.toInt64 0 (lN (xC σ) - 1) = 0 then .null else .ref (ad (64 + 8 * x.toNatClampNeg)))) (celP D ad σ f0)) 0 0 (fun q => L0 ≤ q) := by
  refine hw_met (by decide) (Nat.le_of_ble_eq_true rfl) ?_
  intro p e s m below meth c ls F hr hlocks hnm hL hH hS hl
  have hC := hX.1
  refine lv_iload_n F.1.1 F.1.2.1 d_Cel_columnAt_0 rfl (lv_at hl 1 rfl) ?_
  refine lv_i2l F.1.1 F.1.2.1 d_Cel_columnAt_1 rfl ?_
  refine lv_lconst (v := 0) F.1.1 F.1.2.1 d_Cel_columnAt_2 (by decide) ?_
  refine lv_aload_n F.1.1 F.1.2.1 d_Cel_columnAt_3 rfl (lv_at hl 0 rfl) ?_
  refine gX ck_Cel F (hH.to celE.symm) q_fl_Cel_23 (k := 1) (by decide) rfl d_Cel_columnAt_4 ?_
  refine hw_alen F hH (tysOf_obj D (j := 0) rfl) celP_2 (v := nI (xC σ)) rfl d_Cel_columnAt_7 ?_
  refine lv_iconst (v := 1) F.1.1 F.1.2.1 d_Cel_columnAt_8 (by decide) ?_
  refine lv_isub F.1.1 F.1.2.1 d_Cel_columnAt_9 ?_
  refine lv_i2l F.1.1 F.1.2.1 d_Cel_columnAt_10 rfl ?_
  rw [nI_pl (by omega)]
  refine hw_call1 (hw_runS F hL hS hH hl (c_Cel_isWithin l D L0 ad _ _ _ _) q_ml_Cel_11 q_st_Cel_isWithin q_in_Cel q_co_Cel_isWithin rfl (k := 3) ⟨rfl, rfl, by decide +kernel, ⟨Nat.le_of_ble_eq_true rfl, Nat.le_of_ble_eq_true rfl⟩, Nat.le_of_ble_eq_true rfl⟩ rfl d_Cel_columnAt_11 ⟨Nat.le_of_ble_eq_true rfl, Nat.le_of_ble_eq_true rfl⟩) hS (fun H locs hH hS => ?_)
  refine lv_if_eq (tgt := 26) F.1.1 F.1.2.1 d_Cel_columnAt_14 (by decide) (fun c14 => ?_) (fun c14 => ?_)
  · refine lv_null F.1.1 F.1.2.1 d_Cel_columnAt_26 ?_
    exact hw_aret F hr hlocks hH hS d_Cel_columnAt_27 (by first | exact Or.inl rfl | exact Or.inr ⟨_, rfl⟩) (by rw [if_pos c14]) rfl
  · obtain ⟨k, hk, rfl⟩ := ixN (by omega) c14
    refine lv_aload_n F.1.1 F.1.2.1 d_Cel_columnAt_17 rfl (lv_at hl 0 rfl) ?_
    refine gX ck_Cel F (hH.to celE.symm) q_fl_Cel_23 (k := 1) (by decide) rfl d_Cel_columnAt_18 ?_
    refine lv_iload_n F.1.1 F.1.2.1 d_Cel_columnAt_21 rfl (lv_at hl 1 rfl) ?_
    refine hw_aaldR F hH (j := 0) rfl celP_2 (vp_in_nI hk (by omega)) (by rw [nI_clamp (by omega)]; exact if_pos hk) d_Cel_columnAt_22 ?_
    refine lv_goto (tgt := 27) F.1.1 F.1.2.1 d_Cel_columnAt_23 (by decide) ?_
    exact hw_aret F hr hlocks hH hS d_Cel_columnAt_27 (by first | exact Or.inl rfl | exact Or.inr ⟨_, rfl⟩) (by rw [if_neg c14, nI_clamp (by omega)]) rfl
set_option maxHeartbeats 1000000 in
theorem c_Cel_surfaceAt (l : Launch) (D : va_G) (L0 : Nat) (ad : Nat → Nat) (σ : Xs) (f0 : Nat → Option va_E) (hX : xOK σ) (x : Int32) : Met l y_Cel_surfaceAt (wd y_Cel_surfaceAt b_Cel_surfaceAt 2 (some (.object "CellSettling$Surface"))) { frames := 1, cells := 0, slots := 0, locals := 25 } (va_Pc [.ref (ad 0), .int x] (cp D L0 ad (celP D ad σ f0))) (dt D L0 ad (some (if wi x.toInt64 0 (lN (xSc σ) - 1) = 0 then .null else .ref (ad (128 + 8 * x.toNatClampNeg)))) (celP D ad σ f0)) 0 0 (fun q => L0 ≤ q) := by
  refine hw_met (by decide) (Nat.le_of_ble_eq_true rfl) ?_
  intro p e s m below meth c ls F hr hlocks hnm hL hH hS hl
  have hC := hX.2.1
  have hCe := hX.2.2.2.1
  refine lv_iload_n F.1.1 F.1.2.1 d_Cel_surfaceAt_0 rfl (lv_at hl 1 rfl) ?_
  refine lv_i2l F.1.1 F.1.2.1 d_Cel_surfaceAt_1 rfl ?_
  refine lv_lconst (v := 0) F.1.1 F.1.2.1 d_Cel_surfaceAt_2 (by decide) ?_
  refine lv_aload_n F.1.1 F.1.2.1 d_Cel_surfaceAt_3 rfl (lv_at hl 0 rfl) ?_
  refine gI ck_Cel F (hH.to celE.symm) q_fl_Cel_120 (k := 6) (by decide) rfl d_Cel_surfaceAt_4 ?_
  refine lv_iconst (v := 1) F.1.1 F.1.2.1 d_Cel_surfaceAt_7 (by decide) ?_
  refine lv_isub F.1.1 F.1.2.1 d_Cel_surfaceAt_8 ?_
  refine lv_i2l F.1.1 F.1.2.1 d_Cel_surfaceAt_9 rfl ?_
  rw [hCe, nI_pl (by omega)]
  refine hw_call1 (hw_runS F hL hS hH hl (c_Cel_isWithin l D L0 ad _ _ _ _) q_ml_Cel_11 q_st_Cel_isWithin q_in_Cel q_co_Cel_isWithin rfl (k := 3) ⟨rfl, rfl, by decide +kernel, ⟨Nat.le_of_ble_eq_true rfl, Nat.le_of_ble_eq_true rfl⟩, Nat.le_of_ble_eq_true rfl⟩ rfl d_Cel_surfaceAt_10 ⟨Nat.le_of_ble_eq_true rfl, Nat.le_of_ble_eq_true rfl⟩) hS (fun H locs hH hS => ?_)
  refine lv_if_eq (tgt := 25) F.1.1 F.1.2.1 d_Cel_surfaceAt_13 (by decide) (fun c13 => ?_) (fun c13 => ?_)
  · refine lv_null F.1.1 F.1.2.1 d_Cel_surfaceAt_25 ?_
    exact hw_aret F hr hlocks hH hS d_Cel_surfaceAt_26 (by first | exact Or.inl rfl | exact Or.inr ⟨_, rfl⟩) (by rw [if_pos c13]) rfl
  · obtain ⟨k, hk, rfl⟩ := ixN (by omega) c13
    refine lv_aload_n F.1.1 F.1.2.1 d_Cel_surfaceAt_16 rfl (lv_at hl 0 rfl) ?_
    refine gX ck_Cel F (hH.to celE.symm) q_fl_Cel_44 (k := 4) (by decide) rfl d_Cel_surfaceAt_17 ?_
    refine lv_iload_n F.1.1 F.1.2.1 d_Cel_surfaceAt_20 rfl (lv_at hl 1 rfl) ?_
    refine hw_aaldR F hH (j := 2) rfl celP_5 (vp_in_nI (by omega) (by omega)) (by rw [nI_clamp (by omega)]; exact if_pos hk) d_Cel_surfaceAt_21 ?_
    refine lv_goto (tgt := 26) F.1.1 F.1.2.1 d_Cel_surfaceAt_22 (by decide) ?_
    exact hw_aret F hr hlocks hH hS d_Cel_surfaceAt_26 (by first | exact Or.inl rfl | exact Or.inr ⟨_, rfl⟩) (by rw [if_neg c13, nI_clamp (by omega)]) rfl
set_option maxHeartbeats 1000000 in
theorem c_Cel_phaseAt (l : Launch) (D : va_G) (L0 : Nat) (ad : Nat → Nat) (σ : Xs) (f0 : Nat → Option va_E) (hX : xOK σ) (x : Int32) : Met l y_Cel_phaseAt (wd y_Cel_phaseAt b_Cel_phaseAt 2 (some (.object "CellSettling$Phase"))) { frames := 1, cells := 0, slots := 0, locals := 25 } (va_Pc [.ref (ad 0), .int x] (cp D L0 ad (celP D ad σ f0))) (dt D L0 ad (some (if wi x.toInt64 0 (lN (xPc σ) - 1) = 0 then .null else .ref (ad (160 + 8 * x.toNatClampNeg)))) (celP D ad σ f0)) 0 0 (fun q => L0 ≤ q) := by
  refine hw_met (by decide) (Nat.le_of_ble_eq_true rfl) ?_
  intro p e s m below meth c ls F hr hlocks hnm hL hH hS hl
  have hC := hX.2.2.1
  have hCe := hX.2.2.2.2.1
  refine lv_iload_n F.1.1 F.1.2.1 d_Cel_phaseAt_0 rfl (lv_at hl 1 rfl) ?_
  refine lv_i2l F.1.1 F.1.2.1 d_Cel_phaseAt_1 rfl ?_
  refine lv_lconst (v := 0) F.1.1 F.1.2.1 d_Cel_phaseAt_2 (by decide) ?_
  refine lv_aload_n F.1.1 F.1.2.1 d_Cel_phaseAt_3 rfl (lv_at hl 0 rfl) ?_
  refine gI ck_Cel F (hH.to celE.symm) q_fl_Cel_154 (k := 7) (by decide) rfl d_Cel_phaseAt_4 ?_
  refine lv_iconst (v := 1) F.1.1 F.1.2.1 d_Cel_phaseAt_7 (by decide) ?_
  refine lv_isub F.1.1 F.1.2.1 d_Cel_phaseAt_8 ?_
  refine lv_i2l F.1.1 F.1.2.1 d_Cel_phaseAt_9 rfl ?_
  rw [hCe, nI_pl (by omega)]
  refine hw_call1 (hw_runS F hL hS hH hl (c_Cel_isWithin l D L0 ad _ _ _ _) q_ml_Cel_11 q_st_Cel_isWithin q_in_Cel q_co_Cel_isWithin rfl (k := 3) ⟨rfl, rfl, by decide +kernel, ⟨Nat.le_of_ble_eq_true rfl, Nat.le_of_ble_eq_true rfl⟩, Nat.le_of_ble_eq_true rfl⟩ rfl d_Cel_phaseAt_10 ⟨Nat.le_of_ble_eq_true rfl, Nat.le_of_ble_eq_true rfl⟩) hS (fun H locs hH hS => ?_)
  refine lv_if_eq (tgt := 25) F.1.1 F.1.2.1 d_Cel_phaseAt_13 (by decide) (fun c13 => ?_) (fun c13 => ?_)
  · refine lv_null F.1.1 F.1.2.1 d_Cel_phaseAt_25 ?_
    exact hw_aret F hr hlocks hH hS d_Cel_phaseAt_26 (by first | exact Or.inl rfl | exact Or.inr ⟨_, rfl⟩) (by rw [if_pos c13]) rfl
  · obtain ⟨k, hk, rfl⟩ := ixN (by omega) c13
    refine lv_aload_n F.1.1 F.1.2.1 d_Cel_phaseAt_16 rfl (lv_at hl 0 rfl) ?_
    refine gX ck_Cel F (hH.to celE.symm) q_fl_Cel_50 (k := 5) (by decide) rfl d_Cel_phaseAt_17 ?_
    refine lv_iload_n F.1.1 F.1.2.1 d_Cel_phaseAt_20 rfl (lv_at hl 1 rfl) ?_
    refine hw_aaldR F hH (j := 3) rfl celP_6 (vp_in_nI (by omega) (by omega)) (by rw [nI_clamp (by omega)]; exact if_pos hk) d_Cel_phaseAt_21 ?_
    refine lv_goto (tgt := 26) F.1.1 F.1.2.1 d_Cel_phaseAt_22 (by decide) ?_
    exact hw_aret F hr hlocks hH hS d_Cel_phaseAt_26 (by first | exact Or.inl rfl | exact Or.inr ⟨_, rfl⟩) (by rw [if_neg c13, nI_clamp (by omega)]) rfl
set_option maxHeartbeats 1000000 in
theorem c_Cel_factor (l : Launch) (D : va_G) (L0 : Nat) (ad : Nat → Nat) (σ : Xs) (f0 : Nat → Option va_E) (hX : xOK σ) (kind : Int32) : Met l y_Cel_factor (wd y_Cel_factor b_Cel_factor 3 (some .int)) { frames := 2, cells := 0, slots := 0, locals := 46 } (va_Pc [.ref (ad 0), .int kind] (cp D L0 ad (celP D ad σ f0))) (dt D L0 ad (some (.int (if wi kind.toInt64 0 3 = 0 then -1 else oI (xK σ kind.toNatClampNeg) 4))) (celP D ad σ f0)) 0 0 (fun q => L0 ≤ q) := by
  refine hw_met (by decide) (Nat.le_of_ble_eq_true rfl) ?_
  intro p e s m below meth c ls F hr hlocks hnm hL hH hS hl
  refine lv_aload_n F.1.1 F.1.2.1 d_Cel_factor_0 rfl (lv_at hl 0 rfl) ?_
  refine lv_iload_n F.1.1 F.1.2.1 d_Cel_factor_1 rfl (lv_at hl 1 rfl) ?_
  refine hw_call1 (hw_runV F hL hS hH hl (c_Cel_kindAt l D L0 ad σ f0 hX _) ck_Cel (hasO_o celE) rfl q_ml_Cel_54 q_im_Cel_kindAt q_se_Cel_kindAt q_in_Cel q_co_Cel_kindAt rfl (k := 1) ⟨rfl, rfl, by decide +kernel, ⟨Nat.le_of_ble_eq_true rfl, Nat.le_of_ble_eq_true rfl⟩, Nat.le_of_ble_eq_true rfl⟩ rfl d_Cel_factor_2 ⟨Nat.le_of_ble_eq_true rfl, Nat.le_of_ble_eq_true rfl⟩) hS (fun H locs hH hS => ?_)
  by_cases hk0 : wi kind.toInt64 0 3 = 0
  · refine W_top (if_pos hk0) ?_
    refine lv_astore_nN F.1.1 F.1.2.1 d_Cel_factor_5 rfl hl (by decide) rfl (fun ls hl => ?_)
    refine lv_aload_nN F.1.1 F.1.2.1 d_Cel_factor_6 rfl (lv_at hl 0 rfl) ?_
    refine lv_ifnonnullN F.1.1 F.1.2.1 d_Cel_factor_7 ?_
    refine lv_iconst (v := -1) F.1.1 F.1.2.1 d_Cel_factor_10 (by decide) ?_
    refine lv_goto (tgt := 18) F.1.1 F.1.2.1 d_Cel_factor_11 (by decide) ?_
    exact hw_iret F hr hlocks hH hS d_Cel_factor_18 (by rw [if_pos hk0]) rfl
  · obtain ⟨k, hk, rfl⟩ := ixK hk0
    refine W_top (v' := .ref (ad (32 + 8 * k))) (by rw [if_neg hk0, nI_clamp (by omega)]) ?_
    refine lv_astore_n F.1.1 F.1.2.1 d_Cel_factor_5 rfl hl (by decide) rfl (fun ls hl => ?_)
    refine lv_aload_n F.1.1 F.1.2.1 d_Cel_factor_6 rfl (lv_at hl 0 rfl) ?_
    refine lv_ifnonnull (tgt := 14) F.1.1 F.1.2.1 d_Cel_factor_7 (by decide) ?_
    refine lv_aload_n F.1.1 F.1.2.1 d_Cel_factor_14 rfl (lv_at hl 0 rfl) ?_
    refine gIN ck_Kin F (hH.to (celK hk).symm) q_fn_Cel_177 (k := 4) (by decide) rfl d_Cel_factor_15 ?_
    exact hw_iret F hr hlocks hH hS d_Cel_factor_18 (by rw [if_neg hk0, nI_clamp (by omega)]) rfl
set_option maxHeartbeats 1000000 in
theorem c_Cel_covered (l : Launch) (D : va_G) (L0 : Nat) (ad : Nat → Nat) (σ : Xs) (f0 : Nat → Option va_E) (hX : xOK σ) (column : Int32) : Met l y_Cel_covered (wd y_Cel_covered b_Cel_covered 3 (some .int)) { frames := 2, cells := 0, slots := 0, locals := 46 } (va_Pc [.ref (ad 0), .int column] (cp D L0 ad (celP D ad σ f0))) (dt D L0 ad (some (.int (if wi column.toInt64 0 (lN (xC σ) - 1) = 0 then -1 else oI (xL σ column.toNatClampNeg) 5))) (celP D ad σ f0)) 0 0 (fun q => L0 ≤ q) := by
  refine hw_met (by decide) (Nat.le_of_ble_eq_true rfl) ?_
  intro p e s m below meth c ls F hr hlocks hnm hL hH hS hl
  have hC := hX.1
  refine lv_aload_n F.1.1 F.1.2.1 d_Cel_covered_0 rfl (lv_at hl 0 rfl) ?_
  refine lv_iload_n F.1.1 F.1.2.1 d_Cel_covered_1 rfl (lv_at hl 1 rfl) ?_
  refine hw_call1 (hw_runV F hL hS hH hl (c_Cel_columnAt l D L0 ad σ f0 hX _) ck_Cel (hasO_o celE) rfl q_ml_Cel_75 q_im_Cel_columnAt q_se_Cel_columnAt q_in_Cel q_co_Cel_columnAt rfl (k := 1) ⟨rfl, rfl, by decide +kernel, ⟨Nat.le_of_ble_eq_true rfl, Nat.le_of_ble_eq_true rfl⟩, Nat.le_of_ble_eq_true rfl⟩ rfl d_Cel_covered_2 ⟨Nat.le_of_ble_eq_true rfl, Nat.le_of_ble_eq_true rfl⟩) hS (fun H locs hH hS => ?_)
  by_cases hc0 : wi column.toInt64 0 (lN (xC σ) - 1) = 0
  · refine W_top (if_pos hc0) ?_
    refine lv_astore_nN F.1.1 F.1.2.1 d_Cel_covered_5 rfl hl (by decide) rfl (fun ls hl => ?_)
    refine lv_aload_nN F.1.1 F.1.2.1 d_Cel_covered_6 rfl (lv_at hl 0 rfl) ?_
    refine lv_ifnonnullN F.1.1 F.1.2.1 d_Cel_covered_7 ?_
    refine lv_iconst (v := -1) F.1.1 F.1.2.1 d_Cel_covered_10 (by decide) ?_
    refine lv_goto (tgt := 18) F.1.1 F.1.2.1 d_Cel_covered_11 (by decide) ?_
    exact hw_iret F hr hlocks hH hS d_Cel_covered_18 (by rw [if_pos hc0]) rfl
  · obtain ⟨i, hi, rfl⟩ := ixN (by omega) hc0
    refine W_top (v' := .ref (ad (64 + 8 * i))) (by rw [if_neg hc0, nI_clamp (by omega)]) ?_
    refine lv_astore_n F.1.1 F.1.2.1 d_Cel_covered_5 rfl hl (by decide) rfl (fun ls hl => ?_)
    refine lv_aload_n F.1.1 F.1.2.1 d_Cel_covered_6 rfl (lv_at hl 0 rfl) ?_
    refine lv_ifnonnull (tgt := 14) F.1.1 F.1.2.1 d_Cel_covered_7 (by decide) ?_
    refine lv_aload_n F.1.1 F.1.2.1 d_Cel_covered_14 rfl (lv_at hl 0 rfl) ?_
    refine gIN ck_Col F (hH.to (celL hi hC.2).symm) q_fn_Cel_117 (k := 5) (by decide) rfl d_Cel_covered_15 ?_
    exact hw_iret F hr hlocks hH hS d_Cel_covered_18 (by rw [if_neg hc0, nI_clamp (by omega)]) rfl
set_option maxHeartbeats 1000000 in
theorem c_Cel_sum (l : Launch) (D : va_G) (L0 : Nat) (ad : Nat → Nat) (σ : Xs) (f0 : Nat → Option va_E) (hX : xOK σ) : Met l y_Cel_sum (wd y_Cel_sum b_Cel_sum 1 (some .long)) { frames := 0, cells := 0, slots := 0, locals := 0 } (va_Pc [.ref (ad 0)] (cp D L0 ad (celP D ad σ f0))) (dt D L0 ad (some (.long (oJ (xE σ) 10))) (celP D ad σ f0)) 0 0 (fun q => L0 ≤ q) := by
  refine hw_met (by decide) (Nat.le_of_ble_eq_true rfl) ?_
  intro p e s m below meth c ls F hr hlocks hnm hL hH hS hl
  refine lv_aload_n F.1.1 F.1.2.1 d_Cel_sum_0 rfl (lv_at hl 0 rfl) ?_
  refine gJ ck_Cel F (hH.to celE.symm) q_fl_Cel_180 (k := 10) (by decide) rfl d_Cel_sum_1 ?_
  exact hw_lret F hr hlocks hH hS d_Cel_sum_4 rfl rfl
set_option maxHeartbeats 1000000 in
theorem c_Cel_height (l : Launch) (D : va_G) (L0 : Nat) (ad : Nat → Nat) (σ : Xs) (f0 : Nat → Option va_E) (hX : xOK σ) (column : Int32) : Met l y_Cel_height (wd y_Cel_height b_Cel_height 3 (some .long)) { frames := 2, cells := 0, slots := 0, locals := 46 } (va_Pc [.ref (ad 0), .int column] (cp D L0 ad (celP D ad σ f0))) (dt D L0 ad (some (.long (if wi column.toInt64 0 (lN (xC σ) - 1) = 0 then -1 else topF (xL σ column.toNatClampNeg) (lc (xL σ column.toNatClampNeg))))) (celP D ad σ f0)) 0 0 (fun q => L0 ≤ q) := by
  refine hw_met (by decide) (Nat.le_of_ble_eq_true rfl) ?_
  intro p e s m below meth c ls F hr hlocks hnm hL hH hS hl
  have hC := hX.1
  refine lv_aload_n F.1.1 F.1.2.1 d_Cel_height_0 rfl (lv_at hl 0 rfl) ?_
  refine lv_iload_n F.1.1 F.1.2.1 d_Cel_height_1 rfl (lv_at hl 1 rfl) ?_
  refine hw_call1 (hw_runV F hL hS hH hl (c_Cel_columnAt l D L0 ad σ f0 hX _) ck_Cel (hasO_o celE) rfl q_ml_Cel_75 q_im_Cel_columnAt q_se_Cel_columnAt q_in_Cel q_co_Cel_columnAt rfl (k := 1) ⟨rfl, rfl, by decide +kernel, ⟨Nat.le_of_ble_eq_true rfl, Nat.le_of_ble_eq_true rfl⟩, Nat.le_of_ble_eq_true rfl⟩ rfl d_Cel_height_2 ⟨Nat.le_of_ble_eq_true rfl, Nat.le_of_ble_eq_true rfl⟩) hS (fun H locs hH hS => ?_)
  by_cases hc0 : wi column.toInt64 0 (lN (xC σ) - 1) = 0
  · refine W_top (if_pos hc0) ?_
    refine lv_astore_nN F.1.1 F.1.2.1 d_Cel_height_5 rfl hl (by decide) rfl (fun ls hl => ?_)
    refine lv_aload_nN F.1.1 F.1.2.1 d_Cel_height_6 rfl (lv_at hl 0 rfl) ?_
    refine lv_ifnonnullN F.1.1 F.1.2.1 d_Cel_height_7 ?_
    refine lv_ldc2 F.1.1 F.1.2.1 F.1.2.2.2.1 (F.1.2.2.2.2 _ q_cl_Cel_103) d_Cel_height_10 ?_
    refine lv_goto (tgt := 20) F.1.1 F.1.2.1 d_Cel_height_13 (by decide) ?_
    exact hw_lret F hr hlocks hH hS d_Cel_height_20 (by rw [if_pos hc0]) rfl
  · obtain ⟨i, hi, rfl⟩ := ixN (by omega) hc0
    refine W_top (v' := .ref (ad (64 + 8 * i))) (by rw [if_neg hc0, nI_clamp (by omega)]) ?_
    refine lv_astore_n F.1.1 F.1.2.1 d_Cel_height_5 rfl hl (by decide) rfl (fun ls hl => ?_)
    refine lv_aload_n F.1.1 F.1.2.1 d_Cel_height_6 rfl (lv_at hl 0 rfl) ?_
    refine lv_ifnonnull (tgt := 16) F.1.1 F.1.2.1 d_Cel_height_7 (by decide) ?_
    refine lv_aload_n F.1.1 F.1.2.1 d_Cel_height_16 rfl (lv_at hl 0 rfl) ?_
    refine hw_call1 (hw_runV F hL hS hH hl (c_Col_top l D L0 ad _ _ _ (celL hi hC.2) _ (hX.2.2.2.2.2.1 _ hi).1 (hX.2.2.2.2.2.1 _ hi).2) ck_Col (hasO_o (celL hi hC.2)) rfl q_ml_Cel_105 q_im_Col_top q_se_Col_top q_in_Col q_co_Col_top rfl (k := 0) ⟨rfl, rfl, by decide +kernel, ⟨Nat.le_of_ble_eq_true rfl, Nat.le_of_ble_eq_true rfl⟩, Nat.le_of_ble_eq_true rfl⟩ rfl d_Cel_height_17 ⟨Nat.le_of_ble_eq_true rfl, Nat.le_of_ble_eq_true rfl⟩) hS (fun H locs hH hS => ?_)
    exact hw_lret F hr hlocks hH hS d_Cel_height_20 (by rw [if_neg hc0, nI_clamp (by omega)]) rfl
set_option maxHeartbeats 1000000 in
theorem c_Cel_thickness (l : Launch) (D : va_G) (L0 : Nat) (ad : Nat → Nat) (σ : Xs) (f0 : Nat → Option va_E) (hX : xOK σ) (column layer : Int32) : Met l y_Cel_thickness (wd y_Cel_thickness b_Cel_thickness 4 (some .long)) { frames := 2, cells := 0, slots := 0, locals := 46 } (va_Pc [.ref (ad 0), .int column, .int layer] (cp D L0 ad (celP D ad σ f0))) (dt D L0 ad (some (.long (if wi column.toInt64 0 (lN (xC σ) - 1) = 0 ∨ wi layer.toInt64 0 (lN (lc (xL σ column.toNatClampNeg)) - 1) = 0 then -1 else oB (xL σ column.toNatClampNeg) 3 layer.toNatClampNeg))) (celP D ad σ f0)) 0 0 (fun q => L0 ≤ q) := by
  refine hw_met (by decide) (Nat.le_of_ble_eq_true rfl) ?_
  intro p e s m below meth c ls F hr hlocks hnm hL hH hS hl
  have hC := hX.1
  refine lv_aload_n F.1.1 F.1.2.1 d_Cel_thickness_0 rfl (lv_at hl 0 rfl) ?_
  refine lv_iload_n F.1.1 F.1.2.1 d_Cel_thickness_1 rfl (lv_at hl 1 rfl) ?_
  refine hw_call1 (hw_runV F hL hS hH hl (c_Cel_columnAt l D L0 ad σ f0 hX _) ck_Cel (hasO_o celE) rfl q_ml_Cel_75 q_im_Cel_columnAt q_se_Cel_columnAt q_in_Cel q_co_Cel_columnAt rfl (k := 1) ⟨rfl, rfl, by decide +kernel, ⟨Nat.le_of_ble_eq_true rfl, Nat.le_of_ble_eq_true rfl⟩, Nat.le_of_ble_eq_true rfl⟩ rfl d_Cel_thickness_2 ⟨Nat.le_of_ble_eq_true rfl, Nat.le_of_ble_eq_true rfl⟩) hS (fun H locs hH hS => ?_)
  by_cases hc0 : wi column.toInt64 0 (lN (xC σ) - 1) = 0
  · refine W_top (if_pos hc0) ?_
    refine lv_astore_nN F.1.1 F.1.2.1 d_Cel_thickness_5 rfl hl (by decide) rfl (fun ls hl => ?_)
    refine lv_aload_nN F.1.1 F.1.2.1 d_Cel_thickness_6 rfl (lv_at hl 0 rfl) ?_
    refine lv_ifnullN (tgt := 26) F.1.1 F.1.2.1 d_Cel_thickness_7 (by decide) ?_
    refine lv_ldc2 F.1.1 F.1.2.1 F.1.2.2.2.1 (F.1.2.2.2.2 _ q_cl_Cel_103) d_Cel_thickness_26 ?_
    exact hw_lret F hr hlocks hH hS d_Cel_thickness_29 (by rw [if_pos (Or.inl hc0)]) rfl
  · obtain ⟨i, hi, rfl⟩ := ixN (by omega) hc0
    refine W_top (v' := .ref (ad (64 + 8 * i))) (by rw [if_neg hc0, nI_clamp (by omega)]) ?_
    refine lv_astore_n F.1.1 F.1.2.1 d_Cel_thickness_5 rfl hl (by decide) rfl (fun ls hl => ?_)
    refine lv_aload_n F.1.1 F.1.2.1 d_Cel_thickness_6 rfl (lv_at hl 0 rfl) ?_
    refine lv_ifnull F.1.1 F.1.2.1 d_Cel_thickness_7 ?_
    refine lv_iload_n F.1.1 F.1.2.1 d_Cel_thickness_10 rfl (lv_at hl 3 rfl) ?_
    refine lv_i2l F.1.1 F.1.2.1 d_Cel_thickness_11 rfl ?_
    refine lv_lconst (v := 0) F.1.1 F.1.2.1 d_Cel_thickness_12 (by decide) ?_
    refine lv_aload_n F.1.1 F.1.2.1 d_Cel_thickness_13 rfl (lv_at hl 0 rfl) ?_
    refine gIN ck_Col F (hH.to (celL hi hC.2).symm) q_fn_Cel_86 (k := 4) (by decide) rfl d_Cel_thickness_14 ?_
    refine lv_iconst (v := 1) F.1.1 F.1.2.1 d_Cel_thickness_17 (by decide) ?_
    refine lv_isub F.1.1 F.1.2.1 d_Cel_thickness_18 ?_
    refine lv_i2l F.1.1 F.1.2.1 d_Cel_thickness_19 rfl ?_
    obtain ⟨hlc, hl10⟩ := hX.2.2.2.2.2.1 i hi
    rw [hlc, nI_pl (by omega)]
    refine hw_call1 (hw_runS F hL hS hH hl (c_Cel_isWithin l D L0 ad _ _ _ _) q_ml_Cel_11 q_st_Cel_isWithin q_in_Cel q_co_Cel_isWithin rfl (k := 3) ⟨rfl, rfl, by decide +kernel, ⟨Nat.le_of_ble_eq_true rfl, Nat.le_of_ble_eq_true rfl⟩, Nat.le_of_ble_eq_true rfl⟩ rfl d_Cel_thickness_20 ⟨Nat.le_of_ble_eq_true rfl, Nat.le_of_ble_eq_true rfl⟩) hS (fun H locs hH hS => ?_)
    refine lv_if_ne (tgt := 30) F.1.1 F.1.2.1 d_Cel_thickness_23 (by decide) (fun c23 => ?_) (fun c23 => ?_)
    · obtain ⟨j, hj, rfl⟩ := ixN (by omega) c23
      refine lv_aload_n F.1.1 F.1.2.1 d_Cel_thickness_30 rfl (lv_at hl 0 rfl) ?_
      refine gRN ck_Col F (hH.to (celL hi hC.2).symm) q_fn_Cel_109 (k := 3) (by decide) rfl (by decide) d_Cel_thickness_31 ?_
      refine lv_iload_n F.1.1 F.1.2.1 d_Cel_thickness_34 rfl (lv_at hl 3 rfl) ?_
      refine lB F (hH.to (celL hi hC.2).symm) rfl (vp_in_nI (by omega) (by omega)) d_Cel_thickness_35 ?_
      exact hw_lret F hr hlocks hH hS d_Cel_thickness_36 (by rw [if_neg (fun q => q.elim hc0 (by rw [nI_clamp (by omega)]; exact c23)), nI_clamp (by omega), nI_clamp (by omega)]) rfl
    · refine lv_ldc2 F.1.1 F.1.2.1 F.1.2.2.2.1 (F.1.2.2.2.2 _ q_cl_Cel_103) d_Cel_thickness_26 ?_
      exact hw_lret F hr hlocks hH hS d_Cel_thickness_29 (by rw [nI_clamp (by omega), if_pos (Or.inr c23)]) rfl
set_option maxHeartbeats 1000000 in
theorem c_Cel_mass (l : Launch) (D : va_G) (L0 : Nat) (ad : Nat → Nat) (σ : Xs) (f0 : Nat → Option va_E) (hX : xOK σ) (column kind : Int32) : Met l y_Cel_mass (wd y_Cel_mass b_Cel_mass 4 (some .long)) { frames := 2, cells := 0, slots := 0, locals := 46 } (va_Pc [.ref (ad 0), .int column, .int kind] (cp D L0 ad (celP D ad σ f0))) (dt D L0 ad (some (.long (if wi column.toInt64 0 (lN (xC σ) - 1) = 0 ∨ wi kind.toInt64 0 3 = 0 then -1 else kgF (xL σ column.toNatClampNeg) kind (lc (xL σ column.toNatClampNeg))))) (celP D ad σ f0)) 0 0 (fun q => L0 ≤ q) := by
  refine hw_met (by decide) (Nat.le_of_ble_eq_true rfl) ?_
  intro p e s m below meth c ls F hr hlocks hnm hL hH hS hl
  have hC := hX.1
  refine lv_aload_n F.1.1 F.1.2.1 d_Cel_mass_0 rfl (lv_at hl 0 rfl) ?_
  refine lv_iload_n F.1.1 F.1.2.1 d_Cel_mass_1 rfl (lv_at hl 1 rfl) ?_
  refine hw_call1 (hw_runV F hL hS hH hl (c_Cel_columnAt l D L0 ad σ f0 hX _) ck_Cel (hasO_o celE) rfl q_ml_Cel_75 q_im_Cel_columnAt q_se_Cel_columnAt q_in_Cel q_co_Cel_columnAt rfl (k := 1) ⟨rfl, rfl, by decide +kernel, ⟨Nat.le_of_ble_eq_true rfl, Nat.le_of_ble_eq_true rfl⟩, Nat.le_of_ble_eq_true rfl⟩ rfl d_Cel_mass_2 ⟨Nat.le_of_ble_eq_true rfl, Nat.le_of_ble_eq_true rfl⟩) hS (fun H locs hH hS => ?_)
  by_cases hc0 : wi column.toInt64 0 (lN (xC σ) - 1) = 0
  · refine W_top (if_pos hc0) ?_
    refine lv_astore_nN F.1.1 F.1.2.1 d_Cel_mass_5 rfl hl (by decide) rfl (fun ls hl => ?_)
    refine lv_aload_nN F.1.1 F.1.2.1 d_Cel_mass_6 rfl (lv_at hl 0 rfl) ?_
    refine lv_ifnullN (tgt := 18) F.1.1 F.1.2.1 d_Cel_mass_7 (by decide) ?_
    refine lv_ldc2 F.1.1 F.1.2.1 F.1.2.2.2.1 (F.1.2.2.2.2 _ q_cl_Cel_103) d_Cel_mass_18 ?_
    exact hw_lret F hr hlocks hH hS d_Cel_mass_21 (by rw [if_pos (Or.inl hc0)]) rfl
  · obtain ⟨i, hi, rfl⟩ := ixN (by omega) hc0
    refine W_top (v' := .ref (ad (64 + 8 * i))) (by rw [if_neg hc0, nI_clamp (by omega)]) ?_
    refine lv_astore_n F.1.1 F.1.2.1 d_Cel_mass_5 rfl hl (by decide) rfl (fun ls hl => ?_)
    refine lv_aload_n F.1.1 F.1.2.1 d_Cel_mass_6 rfl (lv_at hl 0 rfl) ?_
    refine lv_ifnull F.1.1 F.1.2.1 d_Cel_mass_7 ?_
    refine lv_aload_n F.1.1 F.1.2.1 d_Cel_mass_10 rfl (lv_at hl 1 rfl) ?_
    refine lv_iload_n F.1.1 F.1.2.1 d_Cel_mass_11 rfl (lv_at hl 3 rfl) ?_
    refine hw_call1 (hw_runV F hL hS hH hl (c_Cel_kindAt l D L0 ad σ f0 hX _) ck_Cel (hasO_o celE) rfl q_ml_Cel_54 q_im_Cel_kindAt q_se_Cel_kindAt q_in_Cel q_co_Cel_kindAt rfl (k := 1) ⟨rfl, rfl, by decide +kernel, ⟨Nat.le_of_ble_eq_true rfl, Nat.le_of_ble_eq_true rfl⟩, Nat.le_of_ble_eq_true rfl⟩ rfl d_Cel_mass_12 ⟨Nat.le_of_ble_eq_true rfl, Nat.le_of_ble_eq_true rfl⟩) hS (fun H locs hH hS => ?_)
    by_cases hk0 : wi kind.toInt64 0 3 = 0
    · refine W_top (if_pos hk0) ?_
      refine lv_ifnonnullN F.1.1 F.1.2.1 d_Cel_mass_15 ?_
      refine lv_ldc2 F.1.1 F.1.2.1 F.1.2.2.2.1 (F.1.2.2.2.2 _ q_cl_Cel_103) d_Cel_mass_18 ?_
      exact hw_lret F hr hlocks hH hS d_Cel_mass_21 (by rw [if_pos (Or.inr hk0)]) rfl
    · refine W_top (if_neg hk0) ?_
      refine lv_ifnonnull (tgt := 22) F.1.1 F.1.2.1 d_Cel_mass_15 (by decide) ?_
      refine lv_aload_n F.1.1 F.1.2.1 d_Cel_mass_22 rfl (lv_at hl 0 rfl) ?_
      refine lv_iload_n F.1.1 F.1.2.1 d_Cel_mass_23 rfl (lv_at hl 3 rfl) ?_
      refine hw_call1 (hw_runV F hL hS hH hl (c_Col_kilogramsOf l D L0 ad _ _ _ (celL hi hC.2) _ _ (hX.2.2.2.2.2.1 _ hi).1 (hX.2.2.2.2.2.1 _ hi).2) ck_Col (hasO_o (celL hi hC.2)) rfl q_ml_Cel_113 q_im_Col_kilogramsOf q_se_Col_kilogramsOf q_in_Col q_co_Col_kilogramsOf rfl (k := 1) ⟨rfl, rfl, by decide +kernel, ⟨Nat.le_of_ble_eq_true rfl, Nat.le_of_ble_eq_true rfl⟩, Nat.le_of_ble_eq_true rfl⟩ rfl d_Cel_mass_24 ⟨Nat.le_of_ble_eq_true rfl, Nat.le_of_ble_eq_true rfl⟩) hS (fun H locs hH hS => ?_)
      exact hw_lret F hr hlocks hH hS d_Cel_mass_27 (by rw [if_neg (fun q => q.elim hc0 hk0), nI_clamp (by omega)]) rfl
set_option maxHeartbeats 1000000 in
theorem c_Cel_density (l : Launch) (D : va_G) (L0 : Nat) (ad : Nat → Nat) (σ : Xs) (f0 : Nat → Option va_E) (hX : xOK σ) (kind v : Int32) : Met l y_Cel_density (wd y_Cel_density b_Cel_density 4 (some .boolean)) { frames := 2, cells := 0, slots := 0, locals := 46 } (va_Pc [.ref (ad 0), .int kind, .int v] (cp D L0 ad (celP D ad σ f0))) (dt D L0 ad (some (.int (if wi kind.toInt64 0 3 = 0 ∨ wi v.toInt64 100 3000 = 0 then 0 else 1))) (celP D ad (if wi kind.toInt64 0 3 = 0 ∨ wi v.toInt64 100 3000 = 0 then σ else xsK σ kind.toNatClampNeg (sI (xK σ kind.toNatClampNeg) 3 v)) f0)) 0 0 (fun q => L0 ≤ q) := by
  refine hw_met (by decide) (Nat.le_of_ble_eq_true rfl) ?_
  intro p e s m below meth c ls F hr hlocks hnm hL hH hS hl
  refine lv_aload_n F.1.1 F.1.2.1 d_Cel_density_0 rfl (lv_at hl 0 rfl) ?_
  refine lv_iload_n F.1.1 F.1.2.1 d_Cel_density_1 rfl (lv_at hl 1 rfl) ?_
  refine hw_call1 (hw_runV F hL hS hH hl (c_Cel_kindAt l D L0 ad σ f0 hX _) ck_Cel (hasO_o celE) rfl q_ml_Cel_54 q_im_Cel_kindAt q_se_Cel_kindAt q_in_Cel q_co_Cel_kindAt rfl (k := 1) ⟨rfl, rfl, by decide +kernel, ⟨Nat.le_of_ble_eq_true rfl, Nat.le_of_ble_eq_true rfl⟩, Nat.le_of_ble_eq_true rfl⟩ rfl d_Cel_density_2 ⟨Nat.le_of_ble_eq_true rfl, Nat.le_of_ble_eq_true rfl⟩) hS (fun H locs hH hS => ?_)
  by_cases hk0 : wi kind.toInt64 0 3 = 0
  · refine W_top (if_pos hk0) ?_
    refine lv_astore_nN F.1.1 F.1.2.1 d_Cel_density_5 rfl hl (by decide) rfl (fun ls hl => ?_)
    refine lv_aload_nN F.1.1 F.1.2.1 d_Cel_density_6 rfl (lv_at hl 0 rfl) ?_
    refine lv_ifnullN (tgt := 24) F.1.1 F.1.2.1 d_Cel_density_7 (by decide) ?_
    refine lv_iconst (v := 0) F.1.1 F.1.2.1 d_Cel_density_24 (by decide) ?_
    exact hw_zret F hr hlocks hH hS d_Cel_density_25 (by first | decide | (split <;> decide) | (unfold cif; split <;> decide)) (by rw [if_pos (Or.inl hk0)]) (by rw [if_pos (Or.inl hk0)])
  · obtain ⟨k, hk, rfl⟩ := ixK hk0
    refine W_top (v' := .ref (ad (32 + 8 * k))) (by rw [if_neg hk0, nI_clamp (by omega)]) ?_
    refine lv_astore_n F.1.1 F.1.2.1 d_Cel_density_5 rfl hl (by decide) rfl (fun ls hl => ?_)
    refine lv_aload_n F.1.1 F.1.2.1 d_Cel_density_6 rfl (lv_at hl 0 rfl) ?_
    refine lv_ifnull F.1.1 F.1.2.1 d_Cel_density_7 ?_
    refine lv_iload_n F.1.1 F.1.2.1 d_Cel_density_10 rfl (lv_at hl 3 rfl) ?_
    refine lv_i2l F.1.1 F.1.2.1 d_Cel_density_11 rfl ?_
    refine lv_ldc2 F.1.1 F.1.2.1 F.1.2.2.2.1 (F.1.2.2.2.2 _ q_cl_Cel_9) d_Cel_density_12 ?_
    refine lv_ldc2 F.1.1 F.1.2.1 F.1.2.2.2.1 (F.1.2.2.2.2 _ q_cl_Cel_58) d_Cel_density_15 ?_
    refine hw_call1 (hw_runS F hL hS hH hl (c_Cel_isWithin l D L0 ad _ _ _ _) q_ml_Cel_11 q_st_Cel_isWithin q_in_Cel q_co_Cel_isWithin rfl (k := 3) ⟨rfl, rfl, by decide +kernel, ⟨Nat.le_of_ble_eq_true rfl, Nat.le_of_ble_eq_true rfl⟩, Nat.le_of_ble_eq_true rfl⟩ rfl d_Cel_density_18 ⟨Nat.le_of_ble_eq_true rfl, Nat.le_of_ble_eq_true rfl⟩) hS (fun H locs hH hS => ?_)
    refine lv_if_ne (tgt := 26) F.1.1 F.1.2.1 d_Cel_density_21 (by decide) (fun c21 => ?_) (fun c21 => ?_)
    · refine lv_aload_n F.1.1 F.1.2.1 d_Cel_density_26 rfl (lv_at hl 0 rfl) ?_
      refine lv_iload_n F.1.1 F.1.2.1 d_Cel_density_27 rfl (lv_at hl 3 rfl) ?_
      refine pIN ck_Kin F (hH.to (celK hk).symm) hS q_fn_Cel_60 (k := 3) (by decide) rfl rfl rfl d_Cel_density_28 (fun H locs hH hS => ?_)
      replace hH := hH.to (cel_K hk)
      refine lv_iconst (v := 1) F.1.1 F.1.2.1 d_Cel_density_31 (by decide) ?_
      exact hw_zret F hr hlocks hH hS d_Cel_density_32 (by first | decide | (split <;> decide) | (unfold cif; split <;> decide)) (by rw [if_neg (fun q => q.elim hk0 c21)]) (by rw [if_neg (fun q => q.elim hk0 c21), nI_clamp (by omega)])
    · refine lv_iconst (v := 0) F.1.1 F.1.2.1 d_Cel_density_24 (by decide) ?_
      exact hw_zret F hr hlocks hH hS d_Cel_density_25 (by first | decide | (split <;> decide) | (unfold cif; split <;> decide)) (by rw [if_pos (Or.inr c21)]) (by rw [if_pos (Or.inr c21)])
set_option maxHeartbeats 1000000 in
theorem c_Cel_stepBehind (l : Launch) (D : va_G) (L0 : Nat) (ad : Nat → Nat) (σ : Xs) (f0 : Nat → Option va_E) (hX : xOK σ) (i : Nat) (hi : i + 1 < xC σ) : Met l y_Cel_stepBehind (wd y_Cel_stepBehind b_Cel_stepBehind 2 (some .long)) { frames := 1, cells := 0, slots := 0, locals := 24 } (va_Pc [.ref (ad 0), .int (nI i)] (cp D L0 ad (celP D ad σ f0))) (dt D L0 ad (some (.long (spF σ i))) (celP D ad σ f0)) 0 0 (fun q => L0 ≤ q) := by
  refine hw_met (by decide) (Nat.le_of_ble_eq_true rfl) ?_
  intro p e s m below meth c ls F hr hlocks hnm hL hH hS hl
  have hC := hX.1
  have hi0 : i < xC σ := by omega
  refine lv_aload_n F.1.1 F.1.2.1 d_Cel_stepBehind_0 rfl (lv_at hl 0 rfl) ?_
  refine gX ck_Cel F (hH.to celE.symm) q_fl_Cel_23 (k := 1) (by decide) rfl d_Cel_stepBehind_1 ?_
  refine lv_iload_n F.1.1 F.1.2.1 d_Cel_stepBehind_4 rfl (lv_at hl 1 rfl) ?_
  refine hw_aaldR F hH (j := 0) rfl celP_2 (vp_in_nI (by omega) (by omega)) (by rw [nI_clamp (by omega)]; exact if_pos hi0) d_Cel_stepBehind_5 ?_
  refine hw_call1 (hw_runV F hL hS hH hl (c_Col_top l D L0 ad _ _ _ (celL hi0 hC.2) _ (hX.2.2.2.2.2.1 _ hi0).1 (hX.2.2.2.2.2.1 _ hi0).2) ck_Col (hasO_o (celL hi0 hC.2)) rfl q_ml_Cel_105 q_im_Col_top q_se_Col_top q_in_Col q_co_Col_top rfl (k := 0) ⟨rfl, rfl, by decide +kernel, ⟨Nat.le_of_ble_eq_true rfl, Nat.le_of_ble_eq_true rfl⟩, Nat.le_of_ble_eq_true rfl⟩ rfl d_Cel_stepBehind_6 ⟨Nat.le_of_ble_eq_true rfl, Nat.le_of_ble_eq_true rfl⟩) hS (fun H locs hH hS => ?_)
  refine lv_aload_n F.1.1 F.1.2.1 d_Cel_stepBehind_9 rfl (lv_at hl 0 rfl) ?_
  refine gX ck_Cel F (hH.to celE.symm) q_fl_Cel_23 (k := 1) (by decide) rfl d_Cel_stepBehind_10 ?_
  refine lv_iload_n F.1.1 F.1.2.1 d_Cel_stepBehind_13 rfl (lv_at hl 1 rfl) ?_
  refine lv_iconst (v := 1) F.1.1 F.1.2.1 d_Cel_stepBehind_14 (by decide) ?_
  refine lv_iadd F.1.1 F.1.2.1 d_Cel_stepBehind_15 ?_
  rw [show nI i + 1 = nI (i + 1) from nI_1 i]
  refine hw_aaldR F hH (j := 0) rfl celP_2 (vp_in_nI (by omega) (by omega)) (by rw [nI_clamp (by omega)]; exact if_pos hi) d_Cel_stepBehind_16 ?_
  refine hw_call1 (hw_runV F hL hS hH hl (c_Col_top l D L0 ad _ _ _ (celL hi hC.2) _ (hX.2.2.2.2.2.1 _ hi).1 (hX.2.2.2.2.2.1 _ hi).2) ck_Col (hasO_o (celL hi hC.2)) rfl q_ml_Cel_105 q_im_Col_top q_se_Col_top q_in_Col q_co_Col_top rfl (k := 0) ⟨rfl, rfl, by decide +kernel, ⟨Nat.le_of_ble_eq_true rfl, Nat.le_of_ble_eq_true rfl⟩, Nat.le_of_ble_eq_true rfl⟩ rfl d_Cel_stepBehind_17 ⟨Nat.le_of_ble_eq_true rfl, Nat.le_of_ble_eq_true rfl⟩) hS (fun H locs hH hS => ?_)
  refine lv_lsub F.1.1 F.1.2.1 d_Cel_stepBehind_20 ?_
  refine va_mabs_long F.1.1 F.1.2.1 (F.1.2.2.1.trans hl.1.symm) F.1.2.2.2.1 (F.1.2.2.2.2 _ q_ml_Cel_256) (F.1.2.2.2.2 _ q_st_Math_abs) (F.1.2.2.2.2 _ q_in_Math) (F.1.2.2.2.2 _ q_co_Math_abs) (Nat.le_of_ble_eq_true rfl) (Nat.le_of_ble_eq_true rfl) (Nat.le_of_ble_eq_true rfl) (Nat.le_of_ble_eq_true rfl) d_Cel_stepBehind_21 ?_
  exact hw_lret F hr hlocks hH hS d_Cel_stepBehind_24 rfl rfl
set_option maxHeartbeats 1000000 in
theorem c_Cel_compare (l : Launch) (D : va_G) (L0 : Nat) (ad : Nat → Nat) (σ : Xs) (f0 : Nat → Option va_E) (hX : xOK σ) (i : Nat) (hi : i < xC σ) (am : Int64) : Met l y_Cel_compare (wd y_Cel_compare b_Cel_compare 8 none) { frames := 1, cells := 0, slots := 0, locals := 24 } (va_Pc [.ref (ad 0), .ref (ad (64 + 8 * i)), .long am] (cp D L0 ad (celP D ad σ f0))) (dt D L0 ad (none) (celP D ad (cmF σ i am) f0)) 0 0 (fun q => L0 ≤ q) := by
  refine hw_met (by decide) (Nat.le_of_ble_eq_true rfl) ?_
  intro p e s m below meth c ls F hr hlocks hnm hL hH hS hl
  have hC := hX.1
  refine lv_aload_n F.1.1 F.1.2.1 d_Cel_compare_0 rfl (lv_at hl 1 rfl) ?_
  refine hw_call1 (hw_runV F hL hS hH hl (c_Col_top l D L0 ad _ _ _ (celL hi hC.2) _ (hX.2.2.2.2.2.1 _ hi).1 (hX.2.2.2.2.2.1 _ hi).2) ck_Col (hasO_o (celL hi hC.2)) rfl q_ml_Cel_105 q_im_Col_top q_se_Col_top q_in_Col q_co_Col_top rfl (k := 0) ⟨rfl, rfl, by decide +kernel, ⟨Nat.le_of_ble_eq_true rfl, Nat.le_of_ble_eq_true rfl⟩, Nat.le_of_ble_eq_true rfl⟩ rfl d_Cel_compare_1 ⟨Nat.le_of_ble_eq_true rfl, Nat.le_of_ble_eq_true rfl⟩) hS (fun H locs hH hS => ?_)
  refine lv_ldc2 F.1.1 F.1.2.1 F.1.2.2.2.1 (F.1.2.2.2.2 _ q_cl_Cel_243) d_Cel_compare_4 ?_
  refine lv_ldiv F.1.1 F.1.2.1 d_Cel_compare_7 (by decide) ?_
  refine lv_lload_n F.1.1 F.1.2.1 d_Cel_compare_8 rfl (lv_at hl 2 rfl) ?_
  refine lv_lsub F.1.1 F.1.2.1 d_Cel_compare_9 ?_
  refine lv_lstore F.1.1 F.1.2.1 d_Cel_compare_10 hl (by decide) rfl (fun ls hl => ?_)
  refine lv_ldc2 F.1.1 F.1.2.1 F.1.2.2.2.1 (F.1.2.2.2.2 _ q_cl_Cel_245) d_Cel_compare_12 ?_
  refine lv_ldc2 F.1.1 F.1.2.1 F.1.2.2.2.1 (F.1.2.2.2.2 _ q_cl_Cel_79) d_Cel_compare_15 ?_
  refine lv_lload F.1.1 F.1.2.1 d_Cel_compare_18 (lv_at hl 0 rfl) ?_
  refine va_mmin_long F.1.1 F.1.2.1 (F.1.2.2.1.trans hl.1.symm) F.1.2.2.2.1 (F.1.2.2.2.2 _ q_ml_Cel_247) (F.1.2.2.2.2 _ q_st_Math_min) (F.1.2.2.2.2 _ q_in_Math) (F.1.2.2.2.2 _ q_co_Math_min) (Nat.le_of_ble_eq_true rfl) (Nat.le_of_ble_eq_true rfl) (Nat.le_of_ble_eq_true rfl) (Nat.le_of_ble_eq_true rfl) d_Cel_compare_20 ?_
  refine va_mmax_long F.1.1 F.1.2.1 (F.1.2.2.1.trans hl.1.symm) F.1.2.2.2.1 (F.1.2.2.2.2 _ q_ml_Cel_253) (F.1.2.2.2.2 _ q_st_Math_max) (F.1.2.2.2.2 _ q_in_Math) (F.1.2.2.2.2 _ q_co_Math_max) (Nat.le_of_ble_eq_true rfl) (Nat.le_of_ble_eq_true rfl) (Nat.le_of_ble_eq_true rfl) (Nat.le_of_ble_eq_true rfl) d_Cel_compare_23 ?_
  refine lv_lstore F.1.1 F.1.2.1 d_Cel_compare_26 hl (by decide) rfl (fun ls hl => ?_)
  refine lv_aload_n F.1.1 F.1.2.1 d_Cel_compare_28 rfl (lv_at hl 2 rfl) ?_
  refine lv_dup F.1.1 F.1.2.1 d_Cel_compare_29 rfl ?_
  refine gJ ck_Cel F (hH.to celE.symm) q_fl_Cel_180 (k := 10) (by decide) rfl d_Cel_compare_30 ?_
  refine lv_lload F.1.1 F.1.2.1 d_Cel_compare_33 (lv_at hl 0 rfl) ?_
  refine lv_lload F.1.1 F.1.2.1 d_Cel_compare_35 (lv_at hl 0 rfl) ?_
  refine lv_lmul F.1.1 F.1.2.1 d_Cel_compare_37 ?_
  refine lv_ladd F.1.1 F.1.2.1 d_Cel_compare_38 ?_
  refine pJ ck_Cel F (hH.to celE.symm) hS q_fl_Cel_180 (k := 10) (by decide) rfl rfl rfl d_Cel_compare_39 (fun H locs hH hS => ?_)
  replace hH := hH.to cel_E
  refine lv_aload_n F.1.1 F.1.2.1 d_Cel_compare_42 rfl (lv_at hl 2 rfl) ?_
  refine lv_dup F.1.1 F.1.2.1 d_Cel_compare_43 rfl ?_
  refine gI ck_Cel F (hH.to celE.symm) q_fl_Cel_100 (k := 9) (by decide) rfl d_Cel_compare_44 ?_
  refine lv_iconst (v := 1) F.1.1 F.1.2.1 d_Cel_compare_47 (by decide) ?_
  refine lv_iadd F.1.1 F.1.2.1 d_Cel_compare_48 ?_
  refine pI ck_Cel F (hH.to celE.symm) hS q_fl_Cel_100 (k := 9) (by decide) rfl rfl rfl d_Cel_compare_49 (fun H locs hH hS => ?_)
  replace hH := hH.to cel_E
  exact hw_vret F hr hlocks hH hS d_Cel_compare_52 rfl
set_option maxHeartbeats 1000000 in
theorem c_Cel_firstThickness (l : Launch) (D : va_G) (L0 : Nat) (ad : Nat → Nat) (σ : Xs) (f0 : Nat → Option va_E) (hX : xOK σ) (k : Nat) (hk : k < 4) (kg : Int64) (hnz : ¬ (oI (xK σ k) 3).toInt64 * (oI (xE σ) 0).toInt64 * (oI (xE σ) 0).toInt64 = 0) : Met l y_Cel_firstThickness (wd y_Cel_firstThickness b_Cel_firstThickness 4 (some .long)) { frames := 0, cells := 0, slots := 0, locals := 0 } (va_Pc [.ref (ad 0), .ref (ad (32 + 8 * k)), .long kg] (cp D L0 ad (celP D ad σ f0))) (dt D L0 ad (some (.long (ftF σ k kg))) (celP D ad σ f0)) 0 0 (fun q => L0 ≤ q) := by
  refine hw_met (by decide) (Nat.le_of_ble_eq_true rfl) ?_
  intro p e s m below meth c ls F hr hlocks hnm hL hH hS hl
  refine lv_lload_n F.1.1 F.1.2.1 d_Cel_firstThickness_0 rfl (lv_at hl 2 rfl) ?_
  refine lv_ldc2 F.1.1 F.1.2.1 F.1.2.2.2.1 (F.1.2.2.2.2 _ q_cl_Cel_79) d_Cel_firstThickness_1 ?_
  refine lv_lmul F.1.1 F.1.2.1 d_Cel_firstThickness_4 ?_
  refine lv_aload_n F.1.1 F.1.2.1 d_Cel_firstThickness_5 rfl (lv_at hl 1 rfl) ?_
  refine gIN ck_Kin F (hH.to (celK hk).symm) q_fn_Cel_60 (k := 3) (by decide) rfl d_Cel_firstThickness_6 ?_
  refine lv_i2l F.1.1 F.1.2.1 d_Cel_firstThickness_9 rfl ?_
  refine lv_aload_n F.1.1 F.1.2.1 d_Cel_firstThickness_10 rfl (lv_at hl 0 rfl) ?_
  refine gI ck_Cel F (hH.to celE.symm) q_fl_Cel_15 (k := 0) (by decide) rfl d_Cel_firstThickness_11 ?_
  refine lv_i2l F.1.1 F.1.2.1 d_Cel_firstThickness_14 rfl ?_
  refine lv_lmul F.1.1 F.1.2.1 d_Cel_firstThickness_15 ?_
  refine lv_aload_n F.1.1 F.1.2.1 d_Cel_firstThickness_16 rfl (lv_at hl 0 rfl) ?_
  refine gI ck_Cel F (hH.to celE.symm) q_fl_Cel_15 (k := 0) (by decide) rfl d_Cel_firstThickness_17 ?_
  refine lv_i2l F.1.1 F.1.2.1 d_Cel_firstThickness_20 rfl ?_
  refine lv_lmul F.1.1 F.1.2.1 d_Cel_firstThickness_21 ?_
  refine lv_ldiv F.1.1 F.1.2.1 d_Cel_firstThickness_22 hnz ?_
  exact hw_lret F hr hlocks hH hS d_Cel_firstThickness_23 rfl rfl
