/-! CellSettlingModel: what reads and what tells; printed by wip/gen/modd.py -/
section MT
variable {σ : Xs} {o : Ob} {wh pl nu : Int32} {am th : Int64}
theorem mtl_1 {i : Nat} (hR : xR σ) (hA : AR σ) (hQ : Rl σ o) (hn : tc (xT σ) < 200) (hE : EvS (adF (xT σ) (tc (xT σ)) 1 (nI i) nu am th) (xC σ) (tc (xT σ))) (hi : i < xC σ) : oA (mTl σ o 1 (nI i) nu am th) 10 i - 1 = nI (lc (xL σ i)) := by
  have h8 := hR.1.1.2
  rw [((tl_Rl hR hA hQ hn hE).2.1.1 i (by rw [tl_C]; exact hi)).1, tl_1]
  exact nI_pred _
theorem mtl_3 (hR : xR σ) (hA : AR σ) (hQ : Rl σ o) (hn : tc (xT σ) < 200) (hE : EvS (adF (xT σ) (tc (xT σ)) 3 pl nu am th) (xC σ) (tc (xT σ))) : oI (mTl σ o 3 pl nu am th) 19 = oI (xE (tlX σ 3 pl nu am th)) 8 := (tl_Rl hR hA hQ hn hE).2.1.2.2.1
theorem mtl_5 (hR : xR σ) (hA : AR σ) (hQ : Rl σ o) (hn : tc (xT σ) < 200) (hE : EvS (adF (xT σ) (tc (xT σ)) 5 pl nu am th) (xC σ) (tc (xT σ))) : oI (mTl σ o 5 pl nu am th) 20 = oI (xE σ) 9 + 1 := ((tl_Rl hR hA hQ hn hE).2.1.2.2.2.1).trans tl_5
end MT
set_option maxHeartbeats 1000000 in
theorem c_Mod_sum (l : Launch) (D : va_G) (L0 : Nat) (ad : Nat → Nat) (β : Nat) (o : Ob) (f : Nat → Option va_E) (hA : hasO D ad β 6 shMod o f) (σ : Xs) (hR : xR σ) (hAR : AR σ) (hQ : Rl σ o) : Met l y_Mod_sum (wd y_Mod_sum b_Mod_sum 1 (some .long)) { frames := 0, cells := 0, slots := 0, locals := 0 } (va_Pc [.ref (ad β)] (cp D L0 ad (f))) (dt D L0 ad (some (.long (oJ (xE σ) 10))) (f)) 0 0 (fun q => L0 ≤ q) := by
  refine hw_met (by decide) (Nat.le_of_ble_eq_true rfl) ?_
  intro p e s m below meth c ls F hr hlocks hnm hL hH hS hl
  replace hH := hH.to hA.symm
  have hX := xOK_of hR.1 hR.2.1
  have hC := hR.1.1
  have hTc := hR.1.2.2.2.2.2
  have hL_ := hQ.2.1
  have hn4 := hQ.2.2.1
  refine lv_aload_n F.1.1 F.1.2.1 d_Mod_sum_0 rfl (lv_at hl 0 rfl) ?_
  refine gJ ck_Mod F hH q_fl_Mod_108 (k := 21) (by decide) rfl d_Mod_sum_1 ?_
  exact hw_lret F hr hlocks hH hS d_Mod_sum_4 hL_.2.2.2.2 hA
set_option maxHeartbeats 1000000 in
theorem c_Mod_factor (l : Launch) (D : va_G) (L0 : Nat) (ad : Nat → Nat) (β : Nat) (o : Ob) (f : Nat → Option va_E) (hA : hasO D ad β 6 shMod o f) (σ : Xs) (hR : xR σ) (hAR : AR σ) (hQ : Rl σ o) (kind : Int32) : Met l y_Mod_factor (wd y_Mod_factor b_Mod_factor 2 (some .int)) { frames := 2, cells := 0, slots := 0, locals := 45 } (va_Pc [.ref (ad β), .int kind] (cp D L0 ad (f))) (dt D L0 ad (some (.int (if wi kind.toInt64 0 3 = 0 then -1 else oI (xK σ kind.toNatClampNeg) 4))) (f)) 0 0 (fun q => L0 ≤ q) := by
  refine hw_met (by decide) (Nat.le_of_ble_eq_true rfl) ?_
  intro p e s m below meth c ls F hr hlocks hnm hL hH hS hl
  replace hH := hH.to hA.symm
  have hX := xOK_of hR.1 hR.2.1
  have hC := hR.1.1
  have hTc := hR.1.2.2.2.2.2
  have hL_ := hQ.2.1
  have hn4 := hQ.2.2.1
  refine lv_iload_n F.1.1 F.1.2.1 d_Mod_factor_0 rfl (lv_at hl 1 rfl) ?_
  refine hw_call1 (hw_runS F hL hS hH hl (c_Mod_isKind l D L0 ad _ _) q_ml_Mod_124 q_st_Mod_isKind q_in_Mod q_co_Mod_isKind rfl (k := 1) ⟨rfl, rfl, by decide +kernel, ⟨Nat.le_of_ble_eq_true rfl, Nat.le_of_ble_eq_true rfl⟩, Nat.le_of_ble_eq_true rfl⟩ rfl d_Mod_factor_1 ⟨Nat.le_of_ble_eq_true rfl, Nat.le_of_ble_eq_true rfl⟩) hS (fun H locs hH hS => ?_)
  refine lv_if_eq (tgt := 16) F.1.1 F.1.2.1 d_Mod_factor_4 (by decide) (fun c4 => ?_) (fun c4 => ?_)
  · refine lv_iconst (v := -1) F.1.1 F.1.2.1 d_Mod_factor_16 (by decide) ?_
    exact hw_iret F hr hlocks hH hS d_Mod_factor_17 (by rw [if_pos c4]) hA
  · obtain ⟨k, hk, rfl⟩ := ixK c4
    refine lv_aload_n F.1.1 F.1.2.1 d_Mod_factor_7 rfl (lv_at hl 0 rfl) ?_
    refine gR ck_Mod F hH q_fl_Mod_13 (k := 3) (by decide) rfl (by decide) d_Mod_factor_8 ?_
    refine lv_iload_n F.1.1 F.1.2.1 d_Mod_factor_11 rfl (lv_at hl 1 rfl) ?_
    refine lA F hH rfl (vp_in_nI (by omega) (by omega)) d_Mod_factor_12 ?_
    refine lv_goto (tgt := 17) F.1.1 F.1.2.1 d_Mod_factor_13 (by decide) ?_
    exact hw_iret F hr hlocks hH hS d_Mod_factor_17 (by rw [if_neg c4, nI_clamp (by omega)]; exact hQ.1.2.1 k hk) hA
set_option maxHeartbeats 1000000 in
theorem c_Mod_density (l : Launch) (D : va_G) (L0 : Nat) (ad : Nat → Nat) (β : Nat) (o : Ob) (f : Nat → Option va_E) (hA : hasO D ad β 6 shMod o f) (σ : Xs) (hR : xR σ) (hAR : AR σ) (hQ : Rl σ o) (kind v : Int32) : Met l y_Mod_density (wd y_Mod_density b_Mod_density 3 (some .boolean)) { frames := 2, cells := 0, slots := 0, locals := 45 } (va_Pc [.ref (ad β), .int kind, .int v] (cp D L0 ad (f))) (dt D L0 ad (some (.int (if wi kind.toInt64 0 3 = 0 ∨ wi v.toInt64 100 3000 = 0 then 0 else 1))) (obP D ad β 6 shMod (if wi kind.toInt64 0 3 = 0 ∨ wi v.toInt64 100 3000 = 0 then o else sA o 2 (upd (oA o 2) kind.toNatClampNeg v)) f)) 0 0 (fun q => L0 ≤ q) := by
  refine hw_met (by decide) (Nat.le_of_ble_eq_true rfl) ?_
  intro p e s m below meth c ls F hr hlocks hnm hL hH hS hl
  replace hH := hH.to hA.symm
  have hX := xOK_of hR.1 hR.2.1
  have hC := hR.1.1
  have hTc := hR.1.2.2.2.2.2
  have hL_ := hQ.2.1
  have hn4 := hQ.2.2.1
  refine lv_iload_n F.1.1 F.1.2.1 d_Mod_density_0 rfl (lv_at hl 1 rfl) ?_
  refine hw_call1 (hw_runS F hL hS hH hl (c_Mod_isKind l D L0 ad _ _) q_ml_Mod_124 q_st_Mod_isKind q_in_Mod q_co_Mod_isKind rfl (k := 1) ⟨rfl, rfl, by decide +kernel, ⟨Nat.le_of_ble_eq_true rfl, Nat.le_of_ble_eq_true rfl⟩, Nat.le_of_ble_eq_true rfl⟩ rfl d_Mod_density_1 ⟨Nat.le_of_ble_eq_true rfl, Nat.le_of_ble_eq_true rfl⟩) hS (fun H locs hH hS => ?_)
  refine lv_if_eq (tgt := 21) F.1.1 F.1.2.1 d_Mod_density_4 (by decide) (fun c4 => ?_) (fun c4 => ?_)
  · refine lv_iconst (v := 0) F.1.1 F.1.2.1 d_Mod_density_21 (by decide) ?_
    exact hw_zret F hr hlocks hH hS d_Mod_density_22 (by first | decide | (split <;> decide) | (unfold cif; split <;> decide)) (by rw [if_pos (Or.inl c4)]) (by rw [if_pos (Or.inl c4)])
  · obtain ⟨k, hk, rfl⟩ := ixK c4
    refine lv_iload_n F.1.1 F.1.2.1 d_Mod_density_7 rfl (lv_at hl 2 rfl) ?_
    refine lv_i2l F.1.1 F.1.2.1 d_Mod_density_8 rfl ?_
    refine lv_ldc2 F.1.1 F.1.2.1 F.1.2.2.2.1 (F.1.2.2.2.2 _ q_cl_Mod_128) d_Mod_density_9 ?_
    refine lv_ldc2 F.1.1 F.1.2.1 F.1.2.2.2.1 (F.1.2.2.2.2 _ q_cl_Mod_130) d_Mod_density_12 ?_
    refine hw_call1 (hw_runS F hL hS hH hl (c_Mod_isIn l D L0 ad _ _ _ _) q_ml_Mod_84 q_st_Mod_isIn q_in_Mod q_co_Mod_isIn rfl (k := 3) ⟨rfl, rfl, by decide +kernel, ⟨Nat.le_of_ble_eq_true rfl, Nat.le_of_ble_eq_true rfl⟩, Nat.le_of_ble_eq_true rfl⟩ rfl d_Mod_density_15 ⟨Nat.le_of_ble_eq_true rfl, Nat.le_of_ble_eq_true rfl⟩) hS (fun H locs hH hS => ?_)
    refine lv_if_ne (tgt := 23) F.1.1 F.1.2.1 d_Mod_density_18 (by decide) (fun c18 => ?_) (fun c18 => ?_)
    · refine lv_aload_n F.1.1 F.1.2.1 d_Mod_density_23 rfl (lv_at hl 0 rfl) ?_
      refine gR ck_Mod F hH q_fl_Mod_7 (k := 2) (by decide) rfl (by decide) d_Mod_density_24 ?_
      refine lv_iload_n F.1.1 F.1.2.1 d_Mod_density_27 rfl (lv_at hl 1 rfl) ?_
      refine lv_iload_n F.1.1 F.1.2.1 d_Mod_density_28 rfl (lv_at hl 2 rfl) ?_
      refine tA F hH hS rfl (vp_in_nI (by omega) (by omega)) d_Mod_density_29 (fun H locs hH hS => ?_)
      refine lv_iconst (v := 1) F.1.1 F.1.2.1 d_Mod_density_30 (by decide) ?_
      exact hw_zret F hr hlocks hH hS d_Mod_density_31 (by first | decide | (split <;> decide) | (unfold cif; split <;> decide)) (by rw [if_neg (fun q => q.elim c4 c18)]) (by rw [if_neg (fun q => q.elim c4 c18)])
    · refine lv_iconst (v := 0) F.1.1 F.1.2.1 d_Mod_density_21 (by decide) ?_
      exact hw_zret F hr hlocks hH hS d_Mod_density_22 (by first | decide | (split <;> decide) | (unfold cif; split <;> decide)) (by rw [if_pos (Or.inr c18)]) (by rw [if_pos (Or.inr c18)])
set_option maxHeartbeats 1000000 in
theorem c_Mod_covered (l : Launch) (D : va_G) (L0 : Nat) (ad : Nat → Nat) (β : Nat) (o : Ob) (f : Nat → Option va_E) (hA : hasO D ad β 6 shMod o f) (σ : Xs) (hR : xR σ) (hAR : AR σ) (hQ : Rl σ o) (column : Int32) : Met l y_Mod_covered (wd y_Mod_covered b_Mod_covered 2 (some .int)) { frames := 2, cells := 0, slots := 0, locals := 46 } (va_Pc [.ref (ad β), .int column] (cp D L0 ad (f))) (dt D L0 ad (some (.int (if wi column.toInt64 0 (lN (xC σ) - 1) = 0 then -1 else oI (xL σ column.toNatClampNeg) 5))) (f)) 0 0 (fun q => L0 ≤ q) := by
  refine hw_met (by decide) (Nat.le_of_ble_eq_true rfl) ?_
  intro p e s m below meth c ls F hr hlocks hnm hL hH hS hl
  replace hH := hH.to hA.symm
  have hX := xOK_of hR.1 hR.2.1
  have hC := hR.1.1
  have hTc := hR.1.2.2.2.2.2
  have hL_ := hQ.2.1
  have hn4 := hQ.2.2.1
  refine lv_aload_n F.1.1 F.1.2.1 d_Mod_covered_0 rfl (lv_at hl 0 rfl) ?_
  refine lv_iload_n F.1.1 F.1.2.1 d_Mod_covered_1 rfl (lv_at hl 1 rfl) ?_
  refine hw_call1 (hw_runV F hL hS hH hl (c_Mod_isColumn l D L0 ad β o _ obP_id (xC σ) hQ.1.1 hC.2 _) ck_Mod obP_o rfl q_ml_Mod_140 q_im_Mod_isColumn q_se_Mod_isColumn q_in_Mod q_co_Mod_isColumn rfl (k := 1) ⟨rfl, rfl, by decide +kernel, ⟨Nat.le_of_ble_eq_true rfl, Nat.le_of_ble_eq_true rfl⟩, Nat.le_of_ble_eq_true rfl⟩ rfl d_Mod_covered_2 ⟨Nat.le_of_ble_eq_true rfl, Nat.le_of_ble_eq_true rfl⟩) hS (fun H locs hH hS => ?_)
  refine lv_if_eq (tgt := 17) F.1.1 F.1.2.1 d_Mod_covered_5 (by decide) (fun c5 => ?_) (fun c5 => ?_)
  · refine lv_iconst (v := -1) F.1.1 F.1.2.1 d_Mod_covered_17 (by decide) ?_
    exact hw_iret F hr hlocks hH hS d_Mod_covered_18 (by rw [if_pos c5]) hA
  · obtain ⟨i, hi, rfl⟩ := ixN (by omega) c5
    refine lv_aload_n F.1.1 F.1.2.1 d_Mod_covered_8 rfl (lv_at hl 0 rfl) ?_
    refine gR ck_Mod F hH q_fl_Mod_47 (k := 15) (by decide) rfl (by decide) d_Mod_covered_9 ?_
    refine lv_iload_n F.1.1 F.1.2.1 d_Mod_covered_12 rfl (lv_at hl 1 rfl) ?_
    refine lA F hH rfl (vp_in_nI (by omega) (by omega)) d_Mod_covered_13 ?_
    refine lv_goto (tgt := 18) F.1.1 F.1.2.1 d_Mod_covered_14 (by decide) ?_
    exact hw_iret F hr hlocks hH hS d_Mod_covered_18 (by rw [if_neg c5, nI_clamp (by omega)]; exact (hL_.1 i hi).2.1) hA
set_option maxHeartbeats 1000000 in
theorem c_Mod_height (l : Launch) (D : va_G) (L0 : Nat) (ad : Nat → Nat) (β : Nat) (o : Ob) (f : Nat → Option va_E) (hA : hasO D ad β 6 shMod o f) (σ : Xs) (hR : xR σ) (hAR : AR σ) (hQ : Rl σ o) (column : Int32) : Met l y_Mod_height (wd y_Mod_height b_Mod_height 2 (some .long)) { frames := 2, cells := 0, slots := 0, locals := 46 } (va_Pc [.ref (ad β), .int column] (cp D L0 ad (f))) (dt D L0 ad (some (.long (if wi column.toInt64 0 (lN (xC σ) - 1) = 0 then -1 else topF (xL σ column.toNatClampNeg) (lc (xL σ column.toNatClampNeg))))) (f)) 0 0 (fun q => L0 ≤ q) := by
  refine hw_met (by decide) (Nat.le_of_ble_eq_true rfl) ?_
  intro p e s m below meth c ls F hr hlocks hnm hL hH hS hl
  replace hH := hH.to hA.symm
  have hX := xOK_of hR.1 hR.2.1
  have hC := hR.1.1
  have hTc := hR.1.2.2.2.2.2
  have hL_ := hQ.2.1
  have hn4 := hQ.2.2.1
  refine lv_aload_n F.1.1 F.1.2.1 d_Mod_height_0 rfl (lv_at hl 0 rfl) ?_
  refine lv_iload_n F.1.1 F.1.2.1 d_Mod_height_1 rfl (lv_at hl 1 rfl) ?_
  refine hw_call1 (hw_runV F hL hS hH hl (c_Mod_isColumn l D L0 ad β o _ obP_id (xC σ) hQ.1.1 hC.2 _) ck_Mod obP_o rfl q_ml_Mod_140 q_im_Mod_isColumn q_se_Mod_isColumn q_in_Mod q_co_Mod_isColumn rfl (k := 1) ⟨rfl, rfl, by decide +kernel, ⟨Nat.le_of_ble_eq_true rfl, Nat.le_of_ble_eq_true rfl⟩, Nat.le_of_ble_eq_true rfl⟩ rfl d_Mod_height_2 ⟨Nat.le_of_ble_eq_true rfl, Nat.le_of_ble_eq_true rfl⟩) hS (fun H locs hH hS => ?_)
  refine lv_if_eq (tgt := 16) F.1.1 F.1.2.1 d_Mod_height_5 (by decide) (fun c5 => ?_) (fun c5 => ?_)
  · refine lv_ldc2 F.1.1 F.1.2.1 F.1.2.2.2.1 (F.1.2.2.2.2 _ q_cl_Mod_151) d_Mod_height_16 ?_
    exact hw_lret F hr hlocks hH hS d_Mod_height_19 (by rw [if_pos c5]) hA
  · obtain ⟨i, hi, rfl⟩ := ixN (by omega) c5
    have hcl : oA o 10 i = nI (lc (xL σ i)) := by rw [(hL_.1 i hi).1]; exact (hX.2.2.2.2.2.1 i hi).1
    have hc10 := (hX.2.2.2.2.2.1 i hi).2
    refine lv_aload_n F.1.1 F.1.2.1 d_Mod_height_8 rfl (lv_at hl 0 rfl) ?_
    refine lv_iload_n F.1.1 F.1.2.1 d_Mod_height_9 rfl (lv_at hl 1 rfl) ?_
    refine hw_call1 (hw_runV F hL hS hH hl (c_Mod_heightOf l D L0 ad β o _ obP_id i (lc (xL σ i)) (by omega) hcl (by omega)) ck_Mod obP_o rfl q_ml_Mod_102 q_im_Mod_heightOf q_se_Mod_heightOf q_in_Mod q_co_Mod_heightOf rfl (k := 1) ⟨rfl, rfl, by decide +kernel, ⟨Nat.le_of_ble_eq_true rfl, Nat.le_of_ble_eq_true rfl⟩, Nat.le_of_ble_eq_true rfl⟩ rfl d_Mod_height_10 ⟨Nat.le_of_ble_eq_true rfl, Nat.le_of_ble_eq_true rfl⟩) hS (fun H locs hH hS => ?_)
    refine lv_goto (tgt := 19) F.1.1 F.1.2.1 d_Mod_height_13 (by decide) ?_
    exact hw_lret F hr hlocks hH hS d_Mod_height_19 (by rw [if_neg c5, nI_clamp (by omega), ← hm_top hL_ hi, Lrel_cn hL_ hi]) hA
set_option maxHeartbeats 1000000 in
theorem c_Mod_thickness (l : Launch) (D : va_G) (L0 : Nat) (ad : Nat → Nat) (β : Nat) (o : Ob) (f : Nat → Option va_E) (hA : hasO D ad β 6 shMod o f) (σ : Xs) (hR : xR σ) (hAR : AR σ) (hQ : Rl σ o) (column layer : Int32) : Met l y_Mod_thickness (wd y_Mod_thickness b_Mod_thickness 3 (some .long)) { frames := 2, cells := 0, slots := 0, locals := 46 } (va_Pc [.ref (ad β), .int column, .int layer] (cp D L0 ad (f))) (dt D L0 ad (some (.long (if wi column.toInt64 0 (lN (xC σ) - 1) = 0 ∨ wi layer.toInt64 0 (lN (lc (xL σ column.toNatClampNeg)) - 1) = 0 then -1 else oB (xL σ column.toNatClampNeg) 3 layer.toNatClampNeg))) (f)) 0 0 (fun q => L0 ≤ q) := by
  refine hw_met (by decide) (Nat.le_of_ble_eq_true rfl) ?_
  intro p e s m below meth c ls F hr hlocks hnm hL hH hS hl
  replace hH := hH.to hA.symm
  have hX := xOK_of hR.1 hR.2.1
  have hC := hR.1.1
  have hTc := hR.1.2.2.2.2.2
  have hL_ := hQ.2.1
  have hn4 := hQ.2.2.1
  refine lv_aload_n F.1.1 F.1.2.1 d_Mod_thickness_0 rfl (lv_at hl 0 rfl) ?_
  refine lv_iload_n F.1.1 F.1.2.1 d_Mod_thickness_1 rfl (lv_at hl 1 rfl) ?_
  refine hw_call1 (hw_runV F hL hS hH hl (c_Mod_isColumn l D L0 ad β o _ obP_id (xC σ) hQ.1.1 hC.2 _) ck_Mod obP_o rfl q_ml_Mod_140 q_im_Mod_isColumn q_se_Mod_isColumn q_in_Mod q_co_Mod_isColumn rfl (k := 1) ⟨rfl, rfl, by decide +kernel, ⟨Nat.le_of_ble_eq_true rfl, Nat.le_of_ble_eq_true rfl⟩, Nat.le_of_ble_eq_true rfl⟩ rfl d_Mod_thickness_2 ⟨Nat.le_of_ble_eq_true rfl, Nat.le_of_ble_eq_true rfl⟩) hS (fun H locs hH hS => ?_)
  refine lv_if_eq (tgt := 40) F.1.1 F.1.2.1 d_Mod_thickness_5 (by decide) (fun c5 => ?_) (fun c5 => ?_)
  · refine lv_ldc2 F.1.1 F.1.2.1 F.1.2.2.2.1 (F.1.2.2.2.2 _ q_cl_Mod_151) d_Mod_thickness_40 ?_
    exact hw_lret F hr hlocks hH hS d_Mod_thickness_43 (by rw [if_pos (Or.inl c5)]) hA
  · obtain ⟨i, hi, rfl⟩ := ixN (by omega) c5
    have hcl : oA o 10 i = nI (lc (xL σ i)) := by rw [(hL_.1 i hi).1]; exact (hX.2.2.2.2.2.1 i hi).1
    have hc10 := (hX.2.2.2.2.2.1 i hi).2
    refine lv_iload_n F.1.1 F.1.2.1 d_Mod_thickness_8 rfl (lv_at hl 2 rfl) ?_
    refine lv_i2l F.1.1 F.1.2.1 d_Mod_thickness_9 rfl ?_
    refine lv_lconst (v := 0) F.1.1 F.1.2.1 d_Mod_thickness_10 (by decide) ?_
    refine lv_aload_n F.1.1 F.1.2.1 d_Mod_thickness_11 rfl (lv_at hl 0 rfl) ?_
    refine gR ck_Mod F hH q_fl_Mod_32 (k := 10) (by decide) rfl (by decide) d_Mod_thickness_12 ?_
    refine lv_iload_n F.1.1 F.1.2.1 d_Mod_thickness_15 rfl (lv_at hl 1 rfl) ?_
    refine lA F hH rfl (vp_in_nI (by omega) (by omega)) d_Mod_thickness_16 ?_
    refine lv_i2l F.1.1 F.1.2.1 d_Mod_thickness_17 rfl ?_
    refine lv_lconst (v := 1) F.1.1 F.1.2.1 d_Mod_thickness_18 (by decide) ?_
    refine lv_lsub F.1.1 F.1.2.1 d_Mod_thickness_19 ?_
    rw [show (oA o 10 (nI i).toNatClampNeg).toInt64 - 1 = lN (lc (xL σ i)) - 1 from by rw [nI_clamp (by omega), hcl, nI_l (by omega)]]
    refine hw_call1 (hw_runS F hL hS hH hl (c_Mod_isIn l D L0 ad _ _ _ _) q_ml_Mod_84 q_st_Mod_isIn q_in_Mod q_co_Mod_isIn rfl (k := 3) ⟨rfl, rfl, by decide +kernel, ⟨Nat.le_of_ble_eq_true rfl, Nat.le_of_ble_eq_true rfl⟩, Nat.le_of_ble_eq_true rfl⟩ rfl d_Mod_thickness_20 ⟨Nat.le_of_ble_eq_true rfl, Nat.le_of_ble_eq_true rfl⟩) hS (fun H locs hH hS => ?_)
    refine lv_if_eq (tgt := 40) F.1.1 F.1.2.1 d_Mod_thickness_23 (by decide) (fun c23 => ?_) (fun c23 => ?_)
    · refine lv_ldc2 F.1.1 F.1.2.1 F.1.2.2.2.1 (F.1.2.2.2.2 _ q_cl_Mod_151) d_Mod_thickness_40 ?_
      exact hw_lret F hr hlocks hH hS d_Mod_thickness_43 (by rw [nI_clamp (by omega), if_pos (Or.inr c23)]) hA
    · obtain ⟨j, hj, rfl⟩ := ixN (by omega) c23
      refine lv_aload_n F.1.1 F.1.2.1 d_Mod_thickness_26 rfl (lv_at hl 0 rfl) ?_
      refine gR ck_Mod F hH q_fl_Mod_41 (k := 13) (by decide) rfl (by decide) d_Mod_thickness_27 ?_
      refine lv_bipush (v := 10) F.1.1 F.1.2.1 d_Mod_thickness_30 (by decide) ?_
      refine lv_iload_n F.1.1 F.1.2.1 d_Mod_thickness_32 rfl (lv_at hl 1 rfl) ?_
      refine lv_imul F.1.1 F.1.2.1 d_Mod_thickness_33 ?_
      refine lv_iload_n F.1.1 F.1.2.1 d_Mod_thickness_34 rfl (lv_at hl 2 rfl) ?_
      refine lv_iadd F.1.1 F.1.2.1 d_Mod_thickness_35 ?_
      rw [show (10 : Int32) * nI i + nI j = nI (10 * i + j) from by rw [← nI_add, ← pk_mul]; rfl]
      refine lB F hH rfl (vp_in_nI (by omega) (by omega)) d_Mod_thickness_36 ?_
      refine lv_goto (tgt := 43) F.1.1 F.1.2.1 d_Mod_thickness_37 (by decide) ?_
      exact hw_lret F hr hlocks hH hS d_Mod_thickness_43 (by rw [nI_clamp (show i < 2 ^ 31 by omega), nI_clamp (show j < 2 ^ 31 by omega), if_neg (fun q => q.elim c5 c23), nI_clamp (by omega)]; exact ((hL_.1 i hi).2.2 j hj).2.2.1) hA
set_option maxHeartbeats 1000000 in
theorem c_Mod_mass (l : Launch) (D : va_G) (L0 : Nat) (ad : Nat → Nat) (β : Nat) (o : Ob) (f : Nat → Option va_E) (hA : hasO D ad β 6 shMod o f) (σ : Xs) (hR : xR σ) (hAR : AR σ) (hQ : Rl σ o) (column kind : Int32) : Met l y_Mod_mass (wd y_Mod_mass b_Mod_mass 6 (some .long)) { frames := 2, cells := 0, slots := 0, locals := 46 } (va_Pc [.ref (ad β), .int column, .int kind] (cp D L0 ad (f))) (dt D L0 ad (some (.long (if wi column.toInt64 0 (lN (xC σ) - 1) = 0 ∨ wi kind.toInt64 0 3 = 0 then -1 else kgF (xL σ column.toNatClampNeg) kind (lc (xL σ column.toNatClampNeg))))) (f)) 0 0 (fun q => L0 ≤ q) := by
  refine hw_met (by decide) (Nat.le_of_ble_eq_true rfl) ?_
  intro p e s m below meth c ls F hr hlocks hnm hL hH hS hl
  replace hH := hH.to hA.symm
  have hX := xOK_of hR.1 hR.2.1
  have hC := hR.1.1
  have hTc := hR.1.2.2.2.2.2
  have hL_ := hQ.2.1
  have hn4 := hQ.2.2.1
  refine lv_aload_n F.1.1 F.1.2.1 d_Mod_mass_0 rfl (lv_at hl 0 rfl) ?_
  refine lv_iload_n F.1.1 F.1.2.1 d_Mod_mass_1 rfl (lv_at hl 1 rfl) ?_
  refine hw_call1 (hw_runV F hL hS hH hl (c_Mod_isColumn l D L0 ad β o _ obP_id (xC σ) hQ.1.1 hC.2 _) ck_Mod obP_o rfl q_ml_Mod_140 q_im_Mod_isColumn q_se_Mod_isColumn q_in_Mod q_co_Mod_isColumn rfl (k := 1) ⟨rfl, rfl, by decide +kernel, ⟨Nat.le_of_ble_eq_true rfl, Nat.le_of_ble_eq_true rfl⟩, Nat.le_of_ble_eq_true rfl⟩ rfl d_Mod_mass_2 ⟨Nat.le_of_ble_eq_true rfl, Nat.le_of_ble_eq_true rfl⟩) hS (fun H locs hH hS => ?_)
  refine lv_if_eq (tgt := 15) F.1.1 F.1.2.1 d_Mod_mass_5 (by decide) (fun c5 => ?_) (fun c5 => ?_)
  · refine lv_ldc2 F.1.1 F.1.2.1 F.1.2.2.2.1 (F.1.2.2.2.2 _ q_cl_Mod_151) d_Mod_mass_15 ?_
    exact hw_lret F hr hlocks hH hS d_Mod_mass_18 (by rw [if_pos (Or.inl c5)]) hA
  · obtain ⟨i, hi, rfl⟩ := ixN (by omega) c5
    have hcl : oA o 10 i = nI (lc (xL σ i)) := by rw [(hL_.1 i hi).1]; exact (hX.2.2.2.2.2.1 i hi).1
    have hc10 := (hX.2.2.2.2.2.1 i hi).2
    refine lv_iload_n F.1.1 F.1.2.1 d_Mod_mass_8 rfl (lv_at hl 2 rfl) ?_
    refine hw_call1 (hw_runS F hL hS hH hl (c_Mod_isKind l D L0 ad _ _) q_ml_Mod_124 q_st_Mod_isKind q_in_Mod q_co_Mod_isKind rfl (k := 1) ⟨rfl, rfl, by decide +kernel, ⟨Nat.le_of_ble_eq_true rfl, Nat.le_of_ble_eq_true rfl⟩, Nat.le_of_ble_eq_true rfl⟩ rfl d_Mod_mass_9 ⟨Nat.le_of_ble_eq_true rfl, Nat.le_of_ble_eq_true rfl⟩) hS (fun H locs hH hS => ?_)
    refine lv_if_ne (tgt := 19) F.1.1 F.1.2.1 d_Mod_mass_12 (by decide) (fun c12 => ?_) (fun c12 => ?_)
    · refine lv_lconst (v := 0) F.1.1 F.1.2.1 d_Mod_mass_19 (by decide) ?_
      refine lv_lstore_n F.1.1 F.1.2.1 d_Mod_mass_20 rfl hl (by decide) rfl (fun ls hl => ?_)
      refine lv_iconst (v := 0) F.1.1 F.1.2.1 d_Mod_mass_21 (by decide) ?_
      refine lv_istore F.1.1 F.1.2.1 d_Mod_mass_22 hl (by decide) rfl (fun ls hl => ?_)
      have L24 : ∀ (u : Nat) (j : Nat) (H : Heap) (locs : List Loc) (ls : Array Slot), (j ≤ lc (xL σ i)) → lc (xL σ i) - j < u → hw D L0 ad (obP D ad β 6 shMod o f) H → va_S (fun q => L0 ≤ q) s.heap H locs → lv_has ls 6 [(0, .ref (ad β)), (1, .int (nI i)), (2, .int kind), (3, .long (kgF (xL σ i) kind j)), (5, .int (nI j))] → W p l e { frames := 2, cells := 0, slots := 0, locals := 46 } s m [.ref (ad β), .int (nI i), .int kind].toArray below meth c H locs 0 0 (MQ below (dt D L0 ad (some (.long (if wi (nI i).toInt64 0 (lN (xC σ) - 1) = 0 ∨ wi kind.toInt64 0 3 = 0 then -1 else kgF (xL σ (nI i).toNatClampNeg) kind (lc (xL σ (nI i).toNatClampNeg))))) (f)) [.ref (ad β), .int (nI i), .int kind].toArray s 0 0 (fun q => L0 ≤ q)) (F0 m 24 ls []) := by
        intro u
        induction u with
        | zero => intros; exact absurd ‹(_ : Nat) < 0› (Nat.not_lt_zero _)
        | succ u ih24 =>
          intro j H locs ls hj hu hH hS hl
          refine lv_iload F.1.1 F.1.2.1 d_Mod_mass_24 (lv_at hl 4 rfl) ?_
          refine lv_aload_n F.1.1 F.1.2.1 d_Mod_mass_26 rfl (lv_at hl 0 rfl) ?_
          refine gR ck_Mod F hH q_fl_Mod_32 (k := 10) (by decide) rfl (by decide) d_Mod_mass_27 ?_
          refine lv_iload_n F.1.1 F.1.2.1 d_Mod_mass_30 rfl (lv_at hl 1 rfl) ?_
          refine lA F hH rfl (vp_in_nI (by omega) (by omega)) d_Mod_mass_31 ?_
          refine lv_icmp_ge (tgt := 76) F.1.1 F.1.2.1 d_Mod_mass_32 (by decide) (fun c32 => ?_) (fun c32 => ?_)
          · rw [nI_clamp (by omega), hcl] at c32
            have hin := (nI_leI (by omega) (by omega)).mp c32
            refine lv_lload_n F.1.1 F.1.2.1 d_Mod_mass_76 rfl (lv_at hl 3 rfl) ?_
            exact hw_lret F hr hlocks hH hS d_Mod_mass_77 (by rw [if_neg (fun q => q.elim c5 c12), nI_clamp (by omega), show j = lc (xL σ i) by omega]) hA
          · rw [nI_clamp (by omega), hcl] at c32
            have hin : j < lc (xL σ i) := by
              rcases Nat.lt_or_ge j (lc (xL σ i)) with q | q
              · exact q
              · exact absurd (nI_le q (by omega)) c32
            obtain ⟨a1, a2, a3, a4⟩ := (hL_.1 i hi).2.2 j hin
            refine lv_lload_n F.1.1 F.1.2.1 d_Mod_mass_35 rfl (lv_at hl 3 rfl) ?_
            refine lv_aload_n F.1.1 F.1.2.1 d_Mod_mass_36 rfl (lv_at hl 0 rfl) ?_
            refine gR ck_Mod F hH q_fl_Mod_35 (k := 11) (by decide) rfl (by decide) d_Mod_mass_37 ?_
            refine lv_bipush (v := 10) F.1.1 F.1.2.1 d_Mod_mass_40 (by decide) ?_
            refine lv_iload_n F.1.1 F.1.2.1 d_Mod_mass_42 rfl (lv_at hl 1 rfl) ?_
            refine lv_imul F.1.1 F.1.2.1 d_Mod_mass_43 ?_
            refine lv_iload F.1.1 F.1.2.1 d_Mod_mass_44 (lv_at hl 4 rfl) ?_
            refine lv_iadd F.1.1 F.1.2.1 d_Mod_mass_46 ?_
            rw [show (10 : Int32) * nI i + nI j = nI (10 * i + j) from by rw [← nI_add, ← pk_mul]; rfl]
            refine lA F hH rfl (vp_in_nI (by omega) (by omega)) d_Mod_mass_47 ?_
            refine lv_iload_n F.1.1 F.1.2.1 d_Mod_mass_48 rfl (lv_at hl 2 rfl) ?_
            refine lv_icmp_ne (tgt := 67) F.1.1 F.1.2.1 d_Mod_mass_49 (by decide) (fun c49 => ?_) (fun c49 => ?_)
            · rw [nI_clamp (by omega), a1] at c49
              refine lv_lconst (v := 0) F.1.1 F.1.2.1 d_Mod_mass_67 (by decide) ?_
              refine lv_ladd F.1.1 F.1.2.1 d_Mod_mass_68 ?_
              refine lv_lstore_n F.1.1 F.1.2.1 d_Mod_mass_69 rfl hl (by decide) rfl (fun ls hl => ?_)
              refine lv_iinc F.1.1 F.1.2.1 d_Mod_mass_70 hl (k := 4) rfl rfl (by decide) rfl (fun ls hl => ?_)
              refine lv_goto (tgt := 24) F.1.1 F.1.2.1 d_Mod_mass_73 (by decide) ?_
              refine ih24 (j + 1) H locs ls (by omega) (by omega) hH hS (lv_sub hl [2, 3, 4, 1, 0] ?_)
              show [_, _, _, _, _] = [_, _, _, _, _]
              rw [ii1, kgF_0 c49, show kgF (xL σ i) kind j + 0 = kgF (xL σ i) kind j from Int64.add_zero _]
              first | done | rfl
            · rw [nI_clamp (by omega), a1] at c49
              refine lv_aload_n F.1.1 F.1.2.1 d_Mod_mass_52 rfl (lv_at hl 0 rfl) ?_
              refine gR ck_Mod F hH q_fl_Mod_38 (k := 12) (by decide) rfl (by decide) d_Mod_mass_53 ?_
              refine lv_bipush (v := 10) F.1.1 F.1.2.1 d_Mod_mass_56 (by decide) ?_
              refine lv_iload_n F.1.1 F.1.2.1 d_Mod_mass_58 rfl (lv_at hl 1 rfl) ?_
              refine lv_imul F.1.1 F.1.2.1 d_Mod_mass_59 ?_
              refine lv_iload F.1.1 F.1.2.1 d_Mod_mass_60 (lv_at hl 4 rfl) ?_
              refine lv_iadd F.1.1 F.1.2.1 d_Mod_mass_62 ?_
              rw [show (10 : Int32) * nI i + nI j = nI (10 * i + j) from by rw [← nI_add, ← pk_mul]; rfl]
              refine lB F hH rfl (vp_in_nI (by omega) (by omega)) d_Mod_mass_63 ?_
              refine lv_goto (tgt := 68) F.1.1 F.1.2.1 d_Mod_mass_64 (by decide) ?_
              refine lv_ladd F.1.1 F.1.2.1 d_Mod_mass_68 ?_
              refine lv_lstore_n F.1.1 F.1.2.1 d_Mod_mass_69 rfl hl (by decide) rfl (fun ls hl => ?_)
              refine lv_iinc F.1.1 F.1.2.1 d_Mod_mass_70 hl (k := 4) rfl rfl (by decide) rfl (fun ls hl => ?_)
              refine lv_goto (tgt := 24) F.1.1 F.1.2.1 d_Mod_mass_73 (by decide) ?_
              refine ih24 (j + 1) H locs ls (by omega) (by omega) hH hS (lv_sub hl [2, 3, 4, 1, 0] ?_)
              show [_, _, _, _, _] = [_, _, _, _, _]
              rw [ii1, kgF_1 c49, nI_clamp (show 10 * i + j < 2 ^ 31 by omega), a2]
              first | done | rfl
      exact L24 (lc (xL σ i) - 0 + 1) 0 H locs ls (Nat.zero_le _) (Nat.lt_succ_self _) hH hS (lv_sub hl [2, 3, 4, 1, 0] rfl)
    · refine lv_ldc2 F.1.1 F.1.2.1 F.1.2.2.2.1 (F.1.2.2.2.2 _ q_cl_Mod_151) d_Mod_mass_15 ?_
      exact hw_lret F hr hlocks hH hS d_Mod_mass_18 (by rw [if_pos (Or.inr c12)]) hA
set_option maxHeartbeats 1000000 in
theorem c_Mod_row (l : Launch) (D : va_G) (L0 : Nat) (ad : Nat → Nat) (β : Nat) (o : Ob) (f : Nat → Option va_E) (hA : hasO D ad β 6 shMod o f) (σ : Xs) (hR : xR σ) (hAR : AR σ) (hQ : Rl σ o) (kind : Int32) (load : Int64) (by_ : Int32) : Met l y_Mod_row (wd y_Mod_row b_Mod_row 5 (some .boolean)) { frames := 4, cells := 0, slots := 0, locals := 103 } (va_Pc [.ref (ad β), .int kind, .long load, .int by_] (cp D L0 ad (f))) (dt D L0 ad (some (.int (cif (rwP σ kind load by_) 1 0))) (obP D ad β 6 shMod (cif (rwP σ kind load by_) (mTl σ o 0 kind by_ load 0) o) f)) 0 0 (fun q => L0 ≤ q) := by
  refine hw_met (by decide) (Nat.le_of_ble_eq_true rfl) ?_
  intro p e s m below meth c ls F hr hlocks hnm hL hH hS hl
  replace hH := hH.to hA.symm
  have hX := xOK_of hR.1 hR.2.1
  have hC := hR.1.1
  have hTc := hR.1.2.2.2.2.2
  have hL_ := hQ.2.1
  have hn4 := hQ.2.2.1
  refine lv_aload_n F.1.1 F.1.2.1 d_Mod_row_0 rfl (lv_at hl 0 rfl) ?_
  refine gI ck_Mod F hH q_fl_Mod_115 (k := 4) (by decide) rfl d_Mod_row_1 ?_
  refine lv_sipush (v := 200) F.1.1 F.1.2.1 d_Mod_row_4 (by decide) ?_
  refine lv_icmp_eq (tgt := 51) F.1.1 F.1.2.1 d_Mod_row_7 (by decide) (fun c7 => ?_) (fun c7 => ?_)
  · rw [hn4] at c7
    have hfl : ¬ tc (xT σ) < 200 := by have := (nI_eq (by omega) (by omega)).mp (show nI (tc (xT σ)) = nI 200 from c7); omega
    refine lv_iconst (v := 0) F.1.1 F.1.2.1 d_Mod_row_51 (by decide) ?_
    exact hw_zret F hr hlocks hH hS d_Mod_row_52 (by first | decide | (split <;> decide) | (unfold cif; split <;> decide)) (cif_f (fun q => hfl q.2.2)).symm (by rw [cif_f (fun q => hfl q.2.2)])
  · rw [hn4] at c7
    have hfl : tc (xT σ) < 200 := by
      rcases Nat.lt_or_ge (tc (xT σ)) 200 with q | q
      · exact q
      · exact absurd (show nI (tc (xT σ)) = nI 200 from by rw [show tc (xT σ) = 200 by omega]) c7
    refine lv_iload_n F.1.1 F.1.2.1 d_Mod_row_10 rfl (lv_at hl 1 rfl) ?_
    refine hw_call1 (hw_runS F hL hS hH hl (c_Mod_isKind l D L0 ad _ _) q_ml_Mod_124 q_st_Mod_isKind q_in_Mod q_co_Mod_isKind rfl (k := 1) ⟨rfl, rfl, by decide +kernel, ⟨Nat.le_of_ble_eq_true rfl, Nat.le_of_ble_eq_true rfl⟩, Nat.le_of_ble_eq_true rfl⟩ rfl d_Mod_row_11 ⟨Nat.le_of_ble_eq_true rfl, Nat.le_of_ble_eq_true rfl⟩) hS (fun H locs hH hS => ?_)
    refine lv_if_eq (tgt := 51) F.1.1 F.1.2.1 d_Mod_row_14 (by decide) (fun c14 => ?_) (fun c14 => ?_)
    · refine lv_iconst (v := 0) F.1.1 F.1.2.1 d_Mod_row_51 (by decide) ?_
      exact hw_zret F hr hlocks hH hS d_Mod_row_52 (by first | decide | (split <;> decide) | (unfold cif; split <;> decide)) (cif_f (fun q => q.1 c14)).symm (by rw [cif_f (fun q => q.1 c14)])
    · obtain ⟨k, hk, rfl⟩ := ixK c14
      have h16 : oA o 16 k = nI (rc (xK σ k)) := by rw [(hL_.2.1 k hk).1]; exact (hX.2.2.2.2.2.2.1 k hk).1
      have hr4 := (hX.2.2.2.2.2.2.1 k hk).2
      refine lv_lload_n F.1.1 F.1.2.1 d_Mod_row_17 rfl (lv_at hl 2 rfl) ?_
      refine lv_lconst (v := 0) F.1.1 F.1.2.1 d_Mod_row_18 (by decide) ?_
      refine lv_ldc2 F.1.1 F.1.2.1 F.1.2.2.2.1 (F.1.2.2.2.2 _ q_cl_Mod_132) d_Mod_row_19 ?_
      refine hw_call1 (hw_runS F hL hS hH hl (c_Mod_isIn l D L0 ad _ _ _ _) q_ml_Mod_84 q_st_Mod_isIn q_in_Mod q_co_Mod_isIn rfl (k := 3) ⟨rfl, rfl, by decide +kernel, ⟨Nat.le_of_ble_eq_true rfl, Nat.le_of_ble_eq_true rfl⟩, Nat.le_of_ble_eq_true rfl⟩ rfl d_Mod_row_22 ⟨Nat.le_of_ble_eq_true rfl, Nat.le_of_ble_eq_true rfl⟩) hS (fun H locs hH hS => ?_)
      refine lv_if_eq (tgt := 51) F.1.1 F.1.2.1 d_Mod_row_25 (by decide) (fun c25 => ?_) (fun c25 => ?_)
      · refine lv_iconst (v := 0) F.1.1 F.1.2.1 d_Mod_row_51 (by decide) ?_
        exact hw_zret F hr hlocks hH hS d_Mod_row_52 (by first | decide | (split <;> decide) | (unfold cif; split <;> decide)) (cif_f (fun q => wi_0.mp c25 q.2.1.2.1)).symm (by rw [cif_f (fun q => wi_0.mp c25 q.2.1.2.1)])
      · refine lv_iload F.1.1 F.1.2.1 d_Mod_row_28 (lv_at hl 3 rfl) ?_
        refine lv_i2l F.1.1 F.1.2.1 d_Mod_row_30 rfl ?_
        refine lv_lconst (v := 0) F.1.1 F.1.2.1 d_Mod_row_31 (by decide) ?_
        refine lv_ldc2 F.1.1 F.1.2.1 F.1.2.2.2.1 (F.1.2.2.2.2 _ q_cl_Mod_134) d_Mod_row_32 ?_
        refine hw_call1 (hw_runS F hL hS hH hl (c_Mod_isIn l D L0 ad _ _ _ _) q_ml_Mod_84 q_st_Mod_isIn q_in_Mod q_co_Mod_isIn rfl (k := 3) ⟨rfl, rfl, by decide +kernel, ⟨Nat.le_of_ble_eq_true rfl, Nat.le_of_ble_eq_true rfl⟩, Nat.le_of_ble_eq_true rfl⟩ rfl d_Mod_row_35 ⟨Nat.le_of_ble_eq_true rfl, Nat.le_of_ble_eq_true rfl⟩) hS (fun H locs hH hS => ?_)
        refine lv_if_eq (tgt := 51) F.1.1 F.1.2.1 d_Mod_row_38 (by decide) (fun c38 => ?_) (fun c38 => ?_)
        · refine lv_iconst (v := 0) F.1.1 F.1.2.1 d_Mod_row_51 (by decide) ?_
          exact hw_zret F hr hlocks hH hS d_Mod_row_52 (by first | decide | (split <;> decide) | (unfold cif; split <;> decide)) (cif_f (fun q => wi_0.mp c38 q.2.1.2.2.1)).symm (by rw [cif_f (fun q => wi_0.mp c38 q.2.1.2.2.1)])
        · refine lv_aload_n F.1.1 F.1.2.1 d_Mod_row_41 rfl (lv_at hl 0 rfl) ?_
          refine gR ck_Mod F hH q_fl_Mod_50 (k := 16) (by decide) rfl (by decide) d_Mod_row_42 ?_
          refine lv_iload_n F.1.1 F.1.2.1 d_Mod_row_45 rfl (lv_at hl 1 rfl) ?_
          refine lA F hH rfl (vp_in_nI (by omega) (by omega)) d_Mod_row_46 ?_
          refine lv_iconst (v := 4) F.1.1 F.1.2.1 d_Mod_row_47 (by decide) ?_
          refine lv_icmp_ne (tgt := 53) F.1.1 F.1.2.1 d_Mod_row_48 (by decide) (fun c48 => ?_) (fun c48 => ?_)
          · rw [nI_clamp (by omega), h16] at c48
            have hrr : rc (xK σ k) < 4 := by
              rcases Nat.lt_or_ge (rc (xK σ k)) 4 with q | q
              · exact q
              · exact absurd (show nI (rc (xK σ k)) = nI 4 from by rw [show rc (xK σ k) = 4 by omega]) c48
            refine lv_aload_n F.1.1 F.1.2.1 d_Mod_row_53 rfl (lv_at hl 0 rfl) ?_
            refine gR ck_Mod F hH q_fl_Mod_50 (k := 16) (by decide) rfl (by decide) d_Mod_row_54 ?_
            refine lv_iload_n F.1.1 F.1.2.1 d_Mod_row_57 rfl (lv_at hl 1 rfl) ?_
            refine lA F hH rfl (vp_in_nI (by omega) (by omega)) d_Mod_row_58 ?_
            refine lv_if_le (tgt := 86) F.1.1 F.1.2.1 d_Mod_row_59 (by decide) (fun c59 => ?_) (fun c59 => ?_)
            · rw [nI_clamp (by omega), h16] at c59
              have hr0 : rc (xK σ k) = 0 := by have := (nI_leI (by omega) (by omega)).mp (show nI (rc (xK σ k)) ≤ nI 0 from c59); omega
              refine lv_aload_n F.1.1 F.1.2.1 d_Mod_row_86 rfl (lv_at hl 0 rfl) ?_
              refine lv_iconst (v := 0) F.1.1 F.1.2.1 d_Mod_row_87 (by decide) ?_
              refine lv_iload_n F.1.1 F.1.2.1 d_Mod_row_88 rfl (lv_at hl 1 rfl) ?_
              refine lv_iload F.1.1 F.1.2.1 d_Mod_row_89 (lv_at hl 3 rfl) ?_
              refine lv_lload_n F.1.1 F.1.2.1 d_Mod_row_91 rfl (lv_at hl 2 rfl) ?_
              refine lv_lconst (v := 0) F.1.1 F.1.2.1 d_Mod_row_92 (by decide) ?_
              refine hw_call0 (hw_runV F hL hS hH hl (c_Mod_tell l D L0 ad β o _ obP_id (tc (xT σ)) hn4 hfl 0 (nI k) by_ load 0 _ (tl_gd hR hfl (evR hR.2.1 hk hrr)) (ad_tc hfl) (tl_Hrel hQ.1)) ck_Mod obP_o rfl q_ml_Mod_136 q_im_Mod_tell q_se_Mod_tell q_in_Mod q_co_Mod_tell rfl (k := 5) ⟨rfl, rfl, by decide +kernel, ⟨Nat.le_of_ble_eq_true rfl, Nat.le_of_ble_eq_true rfl⟩, Nat.le_of_ble_eq_true rfl⟩ rfl d_Mod_row_93 ⟨Nat.le_of_ble_eq_true rfl, Nat.le_of_ble_eq_true rfl⟩) hS (fun H locs hH hS => ?_)
              replace hH := hH.to obP_obP
              refine lv_iconst (v := 1) F.1.1 F.1.2.1 d_Mod_row_96 (by decide) ?_
              exact hw_zret F hr hlocks hH hS d_Mod_row_97 (by first | decide | (split <;> decide) | (unfold cif; split <;> decide)) (cif_t ⟨c14, ⟨by rw [nI_clamp (by omega)]; exact hrr, wi_1.mp c25, wi_1.mp c38, by rw [nI_clamp (by omega)]; exact Or.inl hr0⟩, hfl⟩).symm (by rw [cif_t ⟨c14, ⟨by rw [nI_clamp (by omega)]; exact hrr, wi_1.mp c25, wi_1.mp c38, by rw [nI_clamp (by omega)]; exact Or.inl hr0⟩, hfl⟩]; rfl)
            · rw [nI_clamp (by omega), h16] at c59
              obtain ⟨r1, hr1⟩ : ∃ r1, rc (xK σ k) = r1 + 1 := ⟨rc (xK σ k) - 1, by have : rc (xK σ k) ≠ 0 := fun q => c59 (by rw [q]; decide); omega⟩
              refine lv_lload_n F.1.1 F.1.2.1 d_Mod_row_62 rfl (lv_at hl 2 rfl) ?_
              refine lv_aload_n F.1.1 F.1.2.1 d_Mod_row_63 rfl (lv_at hl 0 rfl) ?_
              refine gR ck_Mod F hH q_fl_Mod_53 (k := 17) (by decide) rfl (by decide) d_Mod_row_64 ?_
              refine lv_iconst (v := 4) F.1.1 F.1.2.1 d_Mod_row_67 (by decide) ?_
              refine lv_iload_n F.1.1 F.1.2.1 d_Mod_row_68 rfl (lv_at hl 1 rfl) ?_
              refine lv_imul F.1.1 F.1.2.1 d_Mod_row_69 ?_
              refine lv_aload_n F.1.1 F.1.2.1 d_Mod_row_70 rfl (lv_at hl 0 rfl) ?_
              refine gR ck_Mod F hH q_fl_Mod_50 (k := 16) (by decide) rfl (by decide) d_Mod_row_71 ?_
              refine lv_iload_n F.1.1 F.1.2.1 d_Mod_row_74 rfl (lv_at hl 1 rfl) ?_
              refine lA F hH rfl (vp_in_nI (by omega) (by omega)) d_Mod_row_75 ?_
              refine lv_iadd F.1.1 F.1.2.1 d_Mod_row_76 ?_
              refine lv_iconst (v := 1) F.1.1 F.1.2.1 d_Mod_row_77 (by decide) ?_
              refine lv_isub F.1.1 F.1.2.1 d_Mod_row_78 ?_
              rw [nI_clamp (show k < 2 ^ 31 by omega), h16, hr1, show (4 : Int32) * nI k + nI (r1 + 1) - 1 = nI (4 * k + r1) from by rw [show (4 : Int32) = nI 4 from rfl, pk_mul, nI_add, ← Nat.add_assoc, nI_pred]]
              refine lB F hH rfl (vp_in_nI (by omega) (by omega)) d_Mod_row_79 ?_
              refine W.lcmp F.1.1 F.1.2.1 d_Mod_row_80 ?_
              refine lv_if_gt (tgt := 86) F.1.1 F.1.2.1 d_Mod_row_81 (by decide) (fun c81 => ?_) (fun c81 => ?_)
              · rw [lg_cmp_gt, nI_clamp (by omega), ((hL_.2.1 k hk).2 r1 (by omega)).1] at c81
                refine lv_aload_n F.1.1 F.1.2.1 d_Mod_row_86 rfl (lv_at hl 0 rfl) ?_
                refine lv_iconst (v := 0) F.1.1 F.1.2.1 d_Mod_row_87 (by decide) ?_
                refine lv_iload_n F.1.1 F.1.2.1 d_Mod_row_88 rfl (lv_at hl 1 rfl) ?_
                refine lv_iload F.1.1 F.1.2.1 d_Mod_row_89 (lv_at hl 3 rfl) ?_
                refine lv_lload_n F.1.1 F.1.2.1 d_Mod_row_91 rfl (lv_at hl 2 rfl) ?_
                refine lv_lconst (v := 0) F.1.1 F.1.2.1 d_Mod_row_92 (by decide) ?_
                refine hw_call0 (hw_runV F hL hS hH hl (c_Mod_tell l D L0 ad β o _ obP_id (tc (xT σ)) hn4 hfl 0 (nI k) by_ load 0 _ (tl_gd hR hfl (evR hR.2.1 hk hrr)) (ad_tc hfl) (tl_Hrel hQ.1)) ck_Mod obP_o rfl q_ml_Mod_136 q_im_Mod_tell q_se_Mod_tell q_in_Mod q_co_Mod_tell rfl (k := 5) ⟨rfl, rfl, by decide +kernel, ⟨Nat.le_of_ble_eq_true rfl, Nat.le_of_ble_eq_true rfl⟩, Nat.le_of_ble_eq_true rfl⟩ rfl d_Mod_row_93 ⟨Nat.le_of_ble_eq_true rfl, Nat.le_of_ble_eq_true rfl⟩) hS (fun H locs hH hS => ?_)
                replace hH := hH.to obP_obP
                refine lv_iconst (v := 1) F.1.1 F.1.2.1 d_Mod_row_96 (by decide) ?_
                exact hw_zret F hr hlocks hH hS d_Mod_row_97 (by first | decide | (split <;> decide) | (unfold cif; split <;> decide)) (cif_t ⟨c14, ⟨by rw [nI_clamp (by omega)]; exact hrr, wi_1.mp c25, wi_1.mp c38, by rw [nI_clamp (by omega), hr1]; exact Or.inr c81⟩, hfl⟩).symm (by rw [cif_t ⟨c14, ⟨by rw [nI_clamp (by omega)]; exact hrr, wi_1.mp c25, wi_1.mp c38, by rw [nI_clamp (by omega), hr1]; exact Or.inr c81⟩, hfl⟩]; rfl)
              · rw [lg_cmp_gt, nI_clamp (by omega), ((hL_.2.1 k hk).2 r1 (by omega)).1] at c81
                refine lv_iconst (v := 0) F.1.1 F.1.2.1 d_Mod_row_84 (by decide) ?_
                exact hw_zret F hr hlocks hH hS d_Mod_row_85 (by first | decide | (split <;> decide) | (unfold cif; split <;> decide)) (cif_f (fun q => by have h9 := q.2.1.2.2.2; rw [nI_clamp (by omega), hr1] at h9; exact h9.elim (fun z => by omega) (fun z => c81 z))).symm (by rw [cif_f (fun q => by have h9 := q.2.1.2.2.2; rw [nI_clamp (by omega), hr1] at h9; exact h9.elim (fun z => by omega) (fun z => c81 z))])
          · rw [nI_clamp (by omega), h16] at c48
            have hrr : ¬ rc (xK σ k) < 4 := by have := (nI_eq (by omega) (by omega)).mp (show nI (rc (xK σ k)) = nI 4 from c48); omega
            refine lv_iconst (v := 0) F.1.1 F.1.2.1 d_Mod_row_51 (by decide) ?_
            exact hw_zret F hr hlocks hH hS d_Mod_row_52 (by first | decide | (split <;> decide) | (unfold cif; split <;> decide)) (cif_f (fun q => by have h9 := q.2.1.1; rw [nI_clamp (by omega)] at h9; exact hrr h9)).symm (by rw [cif_f (fun q => by have h9 := q.2.1.1; rw [nI_clamp (by omega)] at h9; exact hrr h9)])
set_option maxHeartbeats 1000000 in
theorem c_Mod_layer (l : Launch) (D : va_G) (L0 : Nat) (ad : Nat → Nat) (β : Nat) (o : Ob) (f : Nat → Option va_E) (hA : hasO D ad β 6 shMod o f) (σ : Xs) (hR : xR σ) (hAR : AR σ) (hQ : Rl σ o) (column kind : Int32) (kg : Int64) : Met l y_Mod_layer (wd y_Mod_layer b_Mod_layer 5 (some .int)) { frames := 4, cells := 0, slots := 0, locals := 103 } (va_Pc [.ref (ad β), .int column, .int kind, .long kg] (cp D L0 ad (f))) (dt D L0 ad (some (.int (cif (lyP σ column kind kg) (nI (lc (xL σ column.toNatClampNeg))) (-1)))) (obP D ad β 6 shMod (cif (lyP σ column kind kg) (mTl σ o 1 column kind kg (ftF σ kind.toNatClampNeg kg)) o) f)) 0 0 (fun q => L0 ≤ q) := by
  refine hw_met (by decide) (Nat.le_of_ble_eq_true rfl) ?_
  intro p e s m below meth c ls F hr hlocks hnm hL hH hS hl
  replace hH := hH.to hA.symm
  have hX := xOK_of hR.1 hR.2.1
  have hC := hR.1.1
  have hTc := hR.1.2.2.2.2.2
  have hL_ := hQ.2.1
  have hn4 := hQ.2.2.1
  refine lv_aload_n F.1.1 F.1.2.1 d_Mod_layer_0 rfl (lv_at hl 0 rfl) ?_
  refine gI ck_Mod F hH q_fl_Mod_115 (k := 4) (by decide) rfl d_Mod_layer_1 ?_
  refine lv_sipush (v := 200) F.1.1 F.1.2.1 d_Mod_layer_4 (by decide) ?_
  refine lv_icmp_eq (tgt := 47) F.1.1 F.1.2.1 d_Mod_layer_7 (by decide) (fun c7 => ?_) (fun c7 => ?_)
  · rw [hn4] at c7
    have hfl : ¬ tc (xT σ) < 200 := by have := (nI_eq (by omega) (by omega)).mp (show nI (tc (xT σ)) = nI 200 from c7); omega
    refine lv_iconst (v := -1) F.1.1 F.1.2.1 d_Mod_layer_47 (by decide) ?_
    exact hw_iret F hr hlocks hH hS d_Mod_layer_48 (cif_f (fun q => hfl q.2.2.2.2)).symm (by rw [cif_f (fun q => hfl q.2.2.2.2)])
  · rw [hn4] at c7
    have hfl : tc (xT σ) < 200 := by
      rcases Nat.lt_or_ge (tc (xT σ)) 200 with q | q
      · exact q
      · exact absurd (show nI (tc (xT σ)) = nI 200 from by rw [show tc (xT σ) = 200 by omega]) c7
    refine lv_aload_n F.1.1 F.1.2.1 d_Mod_layer_10 rfl (lv_at hl 0 rfl) ?_
    refine lv_iload_n F.1.1 F.1.2.1 d_Mod_layer_11 rfl (lv_at hl 1 rfl) ?_
    refine hw_call1 (hw_runV F hL hS hH hl (c_Mod_isColumn l D L0 ad β o _ obP_id (xC σ) hQ.1.1 hC.2 _) ck_Mod obP_o rfl q_ml_Mod_140 q_im_Mod_isColumn q_se_Mod_isColumn q_in_Mod q_co_Mod_isColumn rfl (k := 1) ⟨rfl, rfl, by decide +kernel, ⟨Nat.le_of_ble_eq_true rfl, Nat.le_of_ble_eq_true rfl⟩, Nat.le_of_ble_eq_true rfl⟩ rfl d_Mod_layer_12 ⟨Nat.le_of_ble_eq_true rfl, Nat.le_of_ble_eq_true rfl⟩) hS (fun H locs hH hS => ?_)
    refine lv_if_eq (tgt := 47) F.1.1 F.1.2.1 d_Mod_layer_15 (by decide) (fun c15 => ?_) (fun c15 => ?_)
    · refine lv_iconst (v := -1) F.1.1 F.1.2.1 d_Mod_layer_47 (by decide) ?_
      exact hw_iret F hr hlocks hH hS d_Mod_layer_48 (cif_f (fun q => q.1 c15)).symm (by rw [cif_f (fun q => q.1 c15)])
    · obtain ⟨i, hi, rfl⟩ := ixN (by omega) c15
      have hcl : oA o 10 i = nI (lc (xL σ i)) := by rw [(hL_.1 i hi).1]; exact (hX.2.2.2.2.2.1 i hi).1
      have hc10 := (hX.2.2.2.2.2.1 i hi).2
      refine lv_iload_n F.1.1 F.1.2.1 d_Mod_layer_18 rfl (lv_at hl 2 rfl) ?_
      refine hw_call1 (hw_runS F hL hS hH hl (c_Mod_isKind l D L0 ad _ _) q_ml_Mod_124 q_st_Mod_isKind q_in_Mod q_co_Mod_isKind rfl (k := 1) ⟨rfl, rfl, by decide +kernel, ⟨Nat.le_of_ble_eq_true rfl, Nat.le_of_ble_eq_true rfl⟩, Nat.le_of_ble_eq_true rfl⟩ rfl d_Mod_layer_19 ⟨Nat.le_of_ble_eq_true rfl, Nat.le_of_ble_eq_true rfl⟩) hS (fun H locs hH hS => ?_)
      refine lv_if_eq (tgt := 47) F.1.1 F.1.2.1 d_Mod_layer_22 (by decide) (fun c22 => ?_) (fun c22 => ?_)
      · refine lv_iconst (v := -1) F.1.1 F.1.2.1 d_Mod_layer_47 (by decide) ?_
        exact hw_iret F hr hlocks hH hS d_Mod_layer_48 (cif_f (fun q => q.2.1 c22)).symm (by rw [cif_f (fun q => q.2.1 c22)])
      · obtain ⟨k, hk, rfl⟩ := ixK c22
        refine lv_lload_n F.1.1 F.1.2.1 d_Mod_layer_25 rfl (lv_at hl 3 rfl) ?_
        refine lv_lconst (v := 1) F.1.1 F.1.2.1 d_Mod_layer_26 (by decide) ?_
        refine lv_ldc2 F.1.1 F.1.2.1 F.1.2.2.2.1 (F.1.2.2.2.2 _ q_cl_Mod_88) d_Mod_layer_27 ?_
        refine hw_call1 (hw_runS F hL hS hH hl (c_Mod_isIn l D L0 ad _ _ _ _) q_ml_Mod_84 q_st_Mod_isIn q_in_Mod q_co_Mod_isIn rfl (k := 3) ⟨rfl, rfl, by decide +kernel, ⟨Nat.le_of_ble_eq_true rfl, Nat.le_of_ble_eq_true rfl⟩, Nat.le_of_ble_eq_true rfl⟩ rfl d_Mod_layer_30 ⟨Nat.le_of_ble_eq_true rfl, Nat.le_of_ble_eq_true rfl⟩) hS (fun H locs hH hS => ?_)
        refine lv_if_eq (tgt := 47) F.1.1 F.1.2.1 d_Mod_layer_33 (by decide) (fun c33 => ?_) (fun c33 => ?_)
        · refine lv_iconst (v := -1) F.1.1 F.1.2.1 d_Mod_layer_47 (by decide) ?_
          exact hw_iret F hr hlocks hH hS d_Mod_layer_48 (cif_f (fun q => q.2.2.1 c33)).symm (by rw [cif_f (fun q => q.2.2.1 c33)])
        · refine lv_aload_n F.1.1 F.1.2.1 d_Mod_layer_36 rfl (lv_at hl 0 rfl) ?_
          refine gR ck_Mod F hH q_fl_Mod_32 (k := 10) (by decide) rfl (by decide) d_Mod_layer_37 ?_
          refine lv_iload_n F.1.1 F.1.2.1 d_Mod_layer_40 rfl (lv_at hl 1 rfl) ?_
          refine lA F hH rfl (vp_in_nI (by omega) (by omega)) d_Mod_layer_41 ?_
          refine lv_bipush (v := 10) F.1.1 F.1.2.1 d_Mod_layer_42 (by decide) ?_
          refine lv_icmp_ne (tgt := 49) F.1.1 F.1.2.1 d_Mod_layer_44 (by decide) (fun c44 => ?_) (fun c44 => ?_)
          · rw [nI_clamp (by omega), hcl] at c44
            have hrr : lc (xL σ i) < 10 := by
              rcases Nat.lt_or_ge (lc (xL σ i)) 10 with q | q
              · exact q
              · exact absurd (show nI (lc (xL σ i)) = nI 10 from by rw [show lc (xL σ i) = 10 by omega]) c44
            refine lv_aload_n F.1.1 F.1.2.1 d_Mod_layer_49 rfl (lv_at hl 0 rfl) ?_
            refine lv_iconst (v := 1) F.1.1 F.1.2.1 d_Mod_layer_50 (by decide) ?_
            refine lv_iload_n F.1.1 F.1.2.1 d_Mod_layer_51 rfl (lv_at hl 1 rfl) ?_
            refine lv_iload_n F.1.1 F.1.2.1 d_Mod_layer_52 rfl (lv_at hl 2 rfl) ?_
            refine lv_lload_n F.1.1 F.1.2.1 d_Mod_layer_53 rfl (lv_at hl 3 rfl) ?_
            refine lv_lload_n F.1.1 F.1.2.1 d_Mod_layer_54 rfl (lv_at hl 3 rfl) ?_
            refine lv_ldc2 F.1.1 F.1.2.1 F.1.2.2.2.1 (F.1.2.2.2.2 _ q_cl_Mod_88) d_Mod_layer_55 ?_
            refine lv_lmul F.1.1 F.1.2.1 d_Mod_layer_58 ?_
            refine lv_aload_n F.1.1 F.1.2.1 d_Mod_layer_59 rfl (lv_at hl 0 rfl) ?_
            refine gR ck_Mod F hH q_fl_Mod_7 (k := 2) (by decide) rfl (by decide) d_Mod_layer_60 ?_
            refine lv_iload_n F.1.1 F.1.2.1 d_Mod_layer_63 rfl (lv_at hl 2 rfl) ?_
            refine lA F hH rfl (vp_in_nI (by omega) (by omega)) d_Mod_layer_64 ?_
            refine lv_i2l F.1.1 F.1.2.1 d_Mod_layer_65 rfl ?_
            refine lv_aload_n F.1.1 F.1.2.1 d_Mod_layer_66 rfl (lv_at hl 0 rfl) ?_
            refine gI ck_Mod F hH q_fl_Mod_79 (k := 1) (by decide) rfl d_Mod_layer_67 ?_
            refine lv_i2l F.1.1 F.1.2.1 d_Mod_layer_70 rfl ?_
            refine lv_lmul F.1.1 F.1.2.1 d_Mod_layer_71 ?_
            refine lv_aload_n F.1.1 F.1.2.1 d_Mod_layer_72 rfl (lv_at hl 0 rfl) ?_
            refine gI ck_Mod F hH q_fl_Mod_79 (k := 1) (by decide) rfl d_Mod_layer_73 ?_
            refine lv_i2l F.1.1 F.1.2.1 d_Mod_layer_76 rfl ?_
            refine lv_lmul F.1.1 F.1.2.1 d_Mod_layer_77 ?_
            refine lv_ldiv F.1.1 F.1.2.1 d_Mod_layer_78 (by rw [nI_clamp (by omega), hQ.2.2.2.2.1 k hk, hQ.2.2.2.1]; exact xD_nz hR.2.2.2 hk) ?_
            rw [show kg * 1000000 / ((oA o 2 (nI k).toNatClampNeg).toInt64 * (oI o 1).toInt64 * (oI o 1).toInt64) = ftF σ k kg from by rw [nI_clamp (by omega), hQ.2.2.2.2.1 k hk, hQ.2.2.2.1]; rfl]
            refine hw_call0 (hw_runV F hL hS hH hl (c_Mod_tell l D L0 ad β o _ obP_id (tc (xT σ)) hn4 hfl 1 (nI i) (nI k) kg (ftF σ k kg) _ (tl_gd hR hfl (evL hR.2.1 hi hrr hk)) (ad_tc hfl) (tl_Hrel hQ.1)) ck_Mod obP_o rfl q_ml_Mod_136 q_im_Mod_tell q_se_Mod_tell q_in_Mod q_co_Mod_tell rfl (k := 5) ⟨rfl, rfl, by decide +kernel, ⟨Nat.le_of_ble_eq_true rfl, Nat.le_of_ble_eq_true rfl⟩, Nat.le_of_ble_eq_true rfl⟩ rfl d_Mod_layer_79 ⟨Nat.le_of_ble_eq_true rfl, Nat.le_of_ble_eq_true rfl⟩) hS (fun H locs hH hS => ?_)
            replace hH := hH.to obP_obP
            refine lv_aload_n F.1.1 F.1.2.1 d_Mod_layer_82 rfl (lv_at hl 0 rfl) ?_
            refine gR ck_Mod F hH q_fl_Mod_32 (k := 10) (by decide) rfl (by decide) d_Mod_layer_83 ?_
            refine lv_iload_n F.1.1 F.1.2.1 d_Mod_layer_86 rfl (lv_at hl 1 rfl) ?_
            refine lA F hH rfl (vp_in_nI (by omega) (by omega)) d_Mod_layer_87 ?_
            refine lv_iconst (v := 1) F.1.1 F.1.2.1 d_Mod_layer_88 (by decide) ?_
            refine lv_isub F.1.1 F.1.2.1 d_Mod_layer_89 ?_
            exact hw_iret F hr hlocks hH hS d_Mod_layer_90 (by rw [cif_t ⟨c15, c22, c33, by rw [nI_clamp (by omega)]; exact hrr, hfl⟩, nI_clamp (show i < 2 ^ 31 by omega)]; exact mtl_1 hR hAR hQ hfl (evL hR.2.1 hi hrr hk) hi) (by rw [cif_t ⟨c15, c22, c33, by rw [nI_clamp (by omega)]; exact hrr, hfl⟩, nI_clamp (show k < 2 ^ 31 by omega)]; rfl)
          · rw [nI_clamp (by omega), hcl] at c44
            have hrr : ¬ lc (xL σ i) < 10 := by have := (nI_eq (by omega) (by omega)).mp (show nI (lc (xL σ i)) = nI 10 from c44); omega
            refine lv_iconst (v := -1) F.1.1 F.1.2.1 d_Mod_layer_47 (by decide) ?_
            exact hw_iret F hr hlocks hH hS d_Mod_layer_48 (cif_f (fun q => by have h9 := q.2.2.2.1; rw [nI_clamp (by omega)] at h9; exact hrr h9)).symm (by rw [cif_f (fun q => by have h9 := q.2.2.2.1; rw [nI_clamp (by omega)] at h9; exact hrr h9)])
set_option maxHeartbeats 1000000 in
theorem c_Mod_roll (l : Launch) (D : va_G) (L0 : Nat) (ad : Nat → Nat) (β : Nat) (o : Ob) (f : Nat → Option va_E) (hA : hasO D ad β 6 shMod o f) (σ : Xs) (hR : xR σ) (hAR : AR σ) (hQ : Rl σ o) (column passes : Int32) : Met l y_Mod_roll (wd y_Mod_roll b_Mod_roll 3 (some .boolean)) { frames := 4, cells := 0, slots := 0, locals := 103 } (va_Pc [.ref (ad β), .int column, .int passes] (cp D L0 ad (f))) (dt D L0 ad (some (.int (cif (rlP σ column passes) 1 0))) (obP D ad β 6 shMod (cif (rlP σ column passes) (mTl σ o 2 column passes 0 0) o) f)) 0 0 (fun q => L0 ≤ q) := by
  refine hw_met (by decide) (Nat.le_of_ble_eq_true rfl) ?_
  intro p e s m below meth c ls F hr hlocks hnm hL hH hS hl
  replace hH := hH.to hA.symm
  have hX := xOK_of hR.1 hR.2.1
  have hC := hR.1.1
  have hTc := hR.1.2.2.2.2.2
  have hL_ := hQ.2.1
  have hn4 := hQ.2.2.1
  refine lv_aload_n F.1.1 F.1.2.1 d_Mod_roll_0 rfl (lv_at hl 0 rfl) ?_
  refine gI ck_Mod F hH q_fl_Mod_115 (k := 4) (by decide) rfl d_Mod_roll_1 ?_
  refine lv_sipush (v := 200) F.1.1 F.1.2.1 d_Mod_roll_4 (by decide) ?_
  refine lv_icmp_eq (tgt := 39) F.1.1 F.1.2.1 d_Mod_roll_7 (by decide) (fun c7 => ?_) (fun c7 => ?_)
  · rw [hn4] at c7
    have hfl : ¬ tc (xT σ) < 200 := by have := (nI_eq (by omega) (by omega)).mp (show nI (tc (xT σ)) = nI 200 from c7); omega
    refine lv_iconst (v := 0) F.1.1 F.1.2.1 d_Mod_roll_39 (by decide) ?_
    exact hw_zret F hr hlocks hH hS d_Mod_roll_40 (by first | decide | (split <;> decide) | (unfold cif; split <;> decide)) (cif_f (fun q => hfl q.2.2.2)).symm (by rw [cif_f (fun q => hfl q.2.2.2)])
  · rw [hn4] at c7
    have hfl : tc (xT σ) < 200 := by
      rcases Nat.lt_or_ge (tc (xT σ)) 200 with q | q
      · exact q
      · exact absurd (show nI (tc (xT σ)) = nI 200 from by rw [show tc (xT σ) = 200 by omega]) c7
    refine lv_aload_n F.1.1 F.1.2.1 d_Mod_roll_10 rfl (lv_at hl 0 rfl) ?_
    refine lv_iload_n F.1.1 F.1.2.1 d_Mod_roll_11 rfl (lv_at hl 1 rfl) ?_
    refine hw_call1 (hw_runV F hL hS hH hl (c_Mod_isColumn l D L0 ad β o _ obP_id (xC σ) hQ.1.1 hC.2 _) ck_Mod obP_o rfl q_ml_Mod_140 q_im_Mod_isColumn q_se_Mod_isColumn q_in_Mod q_co_Mod_isColumn rfl (k := 1) ⟨rfl, rfl, by decide +kernel, ⟨Nat.le_of_ble_eq_true rfl, Nat.le_of_ble_eq_true rfl⟩, Nat.le_of_ble_eq_true rfl⟩ rfl d_Mod_roll_12 ⟨Nat.le_of_ble_eq_true rfl, Nat.le_of_ble_eq_true rfl⟩) hS (fun H locs hH hS => ?_)
    refine lv_if_eq (tgt := 39) F.1.1 F.1.2.1 d_Mod_roll_15 (by decide) (fun c15 => ?_) (fun c15 => ?_)
    · refine lv_iconst (v := 0) F.1.1 F.1.2.1 d_Mod_roll_39 (by decide) ?_
      exact hw_zret F hr hlocks hH hS d_Mod_roll_40 (by first | decide | (split <;> decide) | (unfold cif; split <;> decide)) (cif_f (fun q => q.1 c15)).symm (by rw [cif_f (fun q => q.1 c15)])
    · obtain ⟨i, hi, rfl⟩ := ixN (by omega) c15
      have hcl : oA o 10 i = nI (lc (xL σ i)) := by rw [(hL_.1 i hi).1]; exact (hX.2.2.2.2.2.1 i hi).1
      have hc10 := (hX.2.2.2.2.2.1 i hi).2
      refine lv_iload_n F.1.1 F.1.2.1 d_Mod_roll_18 rfl (lv_at hl 2 rfl) ?_
      refine lv_i2l F.1.1 F.1.2.1 d_Mod_roll_19 rfl ?_
      refine lv_lconst (v := 1) F.1.1 F.1.2.1 d_Mod_roll_20 (by decide) ?_
      refine lv_ldc2 F.1.1 F.1.2.1 F.1.2.2.2.1 (F.1.2.2.2.2 _ q_cl_Mod_143) d_Mod_roll_21 ?_
      refine hw_call1 (hw_runS F hL hS hH hl (c_Mod_isIn l D L0 ad _ _ _ _) q_ml_Mod_84 q_st_Mod_isIn q_in_Mod q_co_Mod_isIn rfl (k := 3) ⟨rfl, rfl, by decide +kernel, ⟨Nat.le_of_ble_eq_true rfl, Nat.le_of_ble_eq_true rfl⟩, Nat.le_of_ble_eq_true rfl⟩ rfl d_Mod_roll_24 ⟨Nat.le_of_ble_eq_true rfl, Nat.le_of_ble_eq_true rfl⟩) hS (fun H locs hH hS => ?_)
      refine lv_if_eq (tgt := 39) F.1.1 F.1.2.1 d_Mod_roll_27 (by decide) (fun c27 => ?_) (fun c27 => ?_)
      · refine lv_iconst (v := 0) F.1.1 F.1.2.1 d_Mod_roll_39 (by decide) ?_
        exact hw_zret F hr hlocks hH hS d_Mod_roll_40 (by first | decide | (split <;> decide) | (unfold cif; split <;> decide)) (cif_f (fun q => q.2.2.1 c27)).symm (by rw [cif_f (fun q => q.2.2.1 c27)])
      · obtain ⟨t, ht, rfl⟩ := ixM (m := 20) (b := 20) rfl (h := c27)
        refine lv_aload_n F.1.1 F.1.2.1 d_Mod_roll_30 rfl (lv_at hl 0 rfl) ?_
        refine gR ck_Mod F hH q_fl_Mod_32 (k := 10) (by decide) rfl (by decide) d_Mod_roll_31 ?_
        refine lv_iload_n F.1.1 F.1.2.1 d_Mod_roll_34 rfl (lv_at hl 1 rfl) ?_
        refine lA F hH rfl (vp_in_nI (by omega) (by omega)) d_Mod_roll_35 ?_
        refine lv_if_ne (tgt := 41) F.1.1 F.1.2.1 d_Mod_roll_36 (by decide) (fun c36 => ?_) (fun c36 => ?_)
        · rw [nI_clamp (by omega), (hL_.1 i hi).1] at c36
          refine lv_aload_n F.1.1 F.1.2.1 d_Mod_roll_41 rfl (lv_at hl 0 rfl) ?_
          refine lv_iconst (v := 2) F.1.1 F.1.2.1 d_Mod_roll_42 (by decide) ?_
          refine lv_iload_n F.1.1 F.1.2.1 d_Mod_roll_43 rfl (lv_at hl 1 rfl) ?_
          refine lv_iload_n F.1.1 F.1.2.1 d_Mod_roll_44 rfl (lv_at hl 2 rfl) ?_
          refine lv_lconst (v := 0) F.1.1 F.1.2.1 d_Mod_roll_45 (by decide) ?_
          refine lv_lconst (v := 0) F.1.1 F.1.2.1 d_Mod_roll_46 (by decide) ?_
          refine hw_call0 (hw_runV F hL hS hH hl (c_Mod_tell l D L0 ad β o _ obP_id (tc (xT σ)) hn4 hfl 2 (nI i) (nI t) 0 0 _ (tl_gd hR hfl (evP hR.2.1 hi (lc_pos (hX.2.2.2.2.2.1 i hi).1 hc10 c36) ht)) (ad_tc hfl) (tl_Hrel hQ.1)) ck_Mod obP_o rfl q_ml_Mod_136 q_im_Mod_tell q_se_Mod_tell q_in_Mod q_co_Mod_tell rfl (k := 5) ⟨rfl, rfl, by decide +kernel, ⟨Nat.le_of_ble_eq_true rfl, Nat.le_of_ble_eq_true rfl⟩, Nat.le_of_ble_eq_true rfl⟩ rfl d_Mod_roll_47 ⟨Nat.le_of_ble_eq_true rfl, Nat.le_of_ble_eq_true rfl⟩) hS (fun H locs hH hS => ?_)
          replace hH := hH.to obP_obP
          refine lv_iconst (v := 1) F.1.1 F.1.2.1 d_Mod_roll_50 (by decide) ?_
          exact hw_zret F hr hlocks hH hS d_Mod_roll_51 (by first | decide | (split <;> decide) | (unfold cif; split <;> decide)) (cif_t ⟨c15, by rw [nI_clamp (by omega)]; exact c36, c27, hfl⟩).symm (by rw [cif_t ⟨c15, by rw [nI_clamp (by omega)]; exact c36, c27, hfl⟩]; rfl)
        · rw [nI_clamp (by omega), (hL_.1 i hi).1] at c36
          refine lv_iconst (v := 0) F.1.1 F.1.2.1 d_Mod_roll_39 (by decide) ?_
          exact hw_zret F hr hlocks hH hS d_Mod_roll_40 (by first | decide | (split <;> decide) | (unfold cif; split <;> decide)) (cif_f (fun q => q.2.1 (by rw [nI_clamp (by omega)]; exact c36))).symm (by rw [cif_f (fun q => q.2.1 (by rw [nI_clamp (by omega)]; exact c36))])
set_option maxHeartbeats 1000000 in
theorem c_Mod_run (l : Launch) (D : va_G) (L0 : Nat) (ad : Nat → Nat) (β : Nat) (o : Ob) (f : Nat → Option va_E) (hA : hasO D ad β 6 shMod o f) (σ : Xs) (hR : xR σ) (hAR : AR σ) (hQ : Rl σ o) (years : Int32) : Met l y_Mod_run (wd y_Mod_run b_Mod_run 2 (some .int)) { frames := 4, cells := 0, slots := 0, locals := 103 } (va_Pc [.ref (ad β), .int years] (cp D L0 ad (f))) (dt D L0 ad (some (.int (cif (rnP σ years) (oI (xE σ) 8 + years) (-1)))) (obP D ad β 6 shMod (cif (rnP σ years) (mTl σ o 3 0 years 0 0) o) f)) 0 0 (fun q => L0 ≤ q) := by
  refine hw_met (by decide) (Nat.le_of_ble_eq_true rfl) ?_
  intro p e s m below meth c ls F hr hlocks hnm hL hH hS hl
  replace hH := hH.to hA.symm
  have hX := xOK_of hR.1 hR.2.1
  have hC := hR.1.1
  have hTc := hR.1.2.2.2.2.2
  have hL_ := hQ.2.1
  have hn4 := hQ.2.2.1
  refine lv_aload_n F.1.1 F.1.2.1 d_Mod_run_0 rfl (lv_at hl 0 rfl) ?_
  refine gI ck_Mod F hH q_fl_Mod_115 (k := 4) (by decide) rfl d_Mod_run_1 ?_
  refine lv_sipush (v := 200) F.1.1 F.1.2.1 d_Mod_run_4 (by decide) ?_
  refine lv_icmp_eq (tgt := 33) F.1.1 F.1.2.1 d_Mod_run_7 (by decide) (fun c7 => ?_) (fun c7 => ?_)
  · rw [hn4] at c7
    have hfl : ¬ tc (xT σ) < 200 := by have := (nI_eq (by omega) (by omega)).mp (show nI (tc (xT σ)) = nI 200 from c7); omega
    refine lv_iconst (v := -1) F.1.1 F.1.2.1 d_Mod_run_33 (by decide) ?_
    exact hw_iret F hr hlocks hH hS d_Mod_run_34 (cif_f (fun q => hfl q.2.2)).symm (by rw [cif_f (fun q => hfl q.2.2)])
  · rw [hn4] at c7
    have hfl : tc (xT σ) < 200 := by
      rcases Nat.lt_or_ge (tc (xT σ)) 200 with q | q
      · exact q
      · exact absurd (show nI (tc (xT σ)) = nI 200 from by rw [show tc (xT σ) = 200 by omega]) c7
    refine lv_iload_n F.1.1 F.1.2.1 d_Mod_run_10 rfl (lv_at hl 1 rfl) ?_
    refine lv_i2l F.1.1 F.1.2.1 d_Mod_run_11 rfl ?_
    refine lv_lconst (v := 1) F.1.1 F.1.2.1 d_Mod_run_12 (by decide) ?_
    refine lv_ldc2 F.1.1 F.1.2.1 F.1.2.2.2.1 (F.1.2.2.2.2 _ q_cl_Mod_145) d_Mod_run_13 ?_
    refine hw_call1 (hw_runS F hL hS hH hl (c_Mod_isIn l D L0 ad _ _ _ _) q_ml_Mod_84 q_st_Mod_isIn q_in_Mod q_co_Mod_isIn rfl (k := 3) ⟨rfl, rfl, by decide +kernel, ⟨Nat.le_of_ble_eq_true rfl, Nat.le_of_ble_eq_true rfl⟩, Nat.le_of_ble_eq_true rfl⟩ rfl d_Mod_run_16 ⟨Nat.le_of_ble_eq_true rfl, Nat.le_of_ble_eq_true rfl⟩) hS (fun H locs hH hS => ?_)
    refine lv_if_eq (tgt := 33) F.1.1 F.1.2.1 d_Mod_run_19 (by decide) (fun c19 => ?_) (fun c19 => ?_)
    · refine lv_iconst (v := -1) F.1.1 F.1.2.1 d_Mod_run_33 (by decide) ?_
      exact hw_iret F hr hlocks hH hS d_Mod_run_34 (cif_f (fun q => q.1 c19)).symm (by rw [cif_f (fun q => q.1 c19)])
    · obtain ⟨t, ht, rfl⟩ := ixM (m := 50) (b := 50) rfl (h := c19)
      refine lv_aload_n F.1.1 F.1.2.1 d_Mod_run_22 rfl (lv_at hl 0 rfl) ?_
      refine gI ck_Mod F hH q_fl_Mod_90 (k := 19) (by decide) rfl d_Mod_run_23 ?_
      refine lv_iload_n F.1.1 F.1.2.1 d_Mod_run_26 rfl (lv_at hl 1 rfl) ?_
      refine lv_iadd F.1.1 F.1.2.1 d_Mod_run_27 ?_
      refine lv_bipush (v := 100) F.1.1 F.1.2.1 d_Mod_run_28 (by decide) ?_
      refine lv_icmp_le (tgt := 35) F.1.1 F.1.2.1 d_Mod_run_30 (by decide) (fun c30 => ?_) (fun c30 => ?_)
      · rw [hL_.2.2.1] at c30
        refine lv_aload_n F.1.1 F.1.2.1 d_Mod_run_35 rfl (lv_at hl 0 rfl) ?_
        refine lv_iconst (v := 3) F.1.1 F.1.2.1 d_Mod_run_36 (by decide) ?_
        refine lv_iconst (v := 0) F.1.1 F.1.2.1 d_Mod_run_37 (by decide) ?_
        refine lv_iload_n F.1.1 F.1.2.1 d_Mod_run_38 rfl (lv_at hl 1 rfl) ?_
        refine lv_lconst (v := 0) F.1.1 F.1.2.1 d_Mod_run_39 (by decide) ?_
        refine lv_lconst (v := 0) F.1.1 F.1.2.1 d_Mod_run_40 (by decide) ?_
        refine hw_call0 (hw_runV F hL hS hH hl (c_Mod_tell l D L0 ad β o _ obP_id (tc (xT σ)) hn4 hfl 3 0 (nI t) 0 0 _ (tl_gd hR hfl (evY ht)) (ad_tc hfl) (tl_Hrel hQ.1)) ck_Mod obP_o rfl q_ml_Mod_136 q_im_Mod_tell q_se_Mod_tell q_in_Mod q_co_Mod_tell rfl (k := 5) ⟨rfl, rfl, by decide +kernel, ⟨Nat.le_of_ble_eq_true rfl, Nat.le_of_ble_eq_true rfl⟩, Nat.le_of_ble_eq_true rfl⟩ rfl d_Mod_run_41 ⟨Nat.le_of_ble_eq_true rfl, Nat.le_of_ble_eq_true rfl⟩) hS (fun H locs hH hS => ?_)
        replace hH := hH.to obP_obP
        refine lv_aload_n F.1.1 F.1.2.1 d_Mod_run_44 rfl (lv_at hl 0 rfl) ?_
        refine gI ck_Mod F hH q_fl_Mod_90 (k := 19) (by decide) rfl d_Mod_run_45 ?_
        exact hw_iret F hr hlocks hH hS d_Mod_run_48 (by rw [cif_t ⟨c19, Int32.not_lt.mpr c30, hfl⟩, ← tl_3 (σ := σ) (pl := 0) (am := 0) (th := 0) (by omega)]; exact mtl_3 hR hAR hQ hfl (evY ht)) (by rw [cif_t ⟨c19, Int32.not_lt.mpr c30, hfl⟩]; rfl)
      · rw [hL_.2.2.1] at c30
        refine lv_iconst (v := -1) F.1.1 F.1.2.1 d_Mod_run_33 (by decide) ?_
        exact hw_iret F hr hlocks hH hS d_Mod_run_34 (cif_f (fun q => q.2.1 (Int32.not_le.mp c30))).symm (by rw [cif_f (fun q => q.2.1 (Int32.not_le.mp c30))])
set_option maxHeartbeats 1000000 in
theorem c_Mod_cover (l : Launch) (D : va_G) (L0 : Nat) (ad : Nat → Nat) (β : Nat) (o : Ob) (f : Nat → Option va_E) (hA : hasO D ad β 6 shMod o f) (σ : Xs) (hR : xR σ) (hAR : AR σ) (hQ : Rl σ o) (column mm : Int32) : Met l y_Mod_cover (wd y_Mod_cover b_Mod_cover 3 (some .boolean)) { frames := 4, cells := 0, slots := 0, locals := 103 } (va_Pc [.ref (ad β), .int column, .int mm] (cp D L0 ad (f))) (dt D L0 ad (some (.int (cif (cvP σ column mm) 1 0))) (obP D ad β 6 shMod (cif (cvP σ column mm) (mTl σ o 4 column mm 0 0) o) f)) 0 0 (fun q => L0 ≤ q) := by
  refine hw_met (by decide) (Nat.le_of_ble_eq_true rfl) ?_
  intro p e s m below meth c ls F hr hlocks hnm hL hH hS hl
  replace hH := hH.to hA.symm
  have hX := xOK_of hR.1 hR.2.1
  have hC := hR.1.1
  have hTc := hR.1.2.2.2.2.2
  have hL_ := hQ.2.1
  have hn4 := hQ.2.2.1
  refine lv_aload_n F.1.1 F.1.2.1 d_Mod_cover_0 rfl (lv_at hl 0 rfl) ?_
  refine gI ck_Mod F hH q_fl_Mod_115 (k := 4) (by decide) rfl d_Mod_cover_1 ?_
  refine lv_sipush (v := 200) F.1.1 F.1.2.1 d_Mod_cover_4 (by decide) ?_
  refine lv_icmp_eq (tgt := 30) F.1.1 F.1.2.1 d_Mod_cover_7 (by decide) (fun c7 => ?_) (fun c7 => ?_)
  · rw [hn4] at c7
    have hfl : ¬ tc (xT σ) < 200 := by have := (nI_eq (by omega) (by omega)).mp (show nI (tc (xT σ)) = nI 200 from c7); omega
    refine lv_iconst (v := 0) F.1.1 F.1.2.1 d_Mod_cover_30 (by decide) ?_
    exact hw_zret F hr hlocks hH hS d_Mod_cover_31 (by first | decide | (split <;> decide) | (unfold cif; split <;> decide)) (cif_f (fun q => hfl q.2.2)).symm (by rw [cif_f (fun q => hfl q.2.2)])
  · rw [hn4] at c7
    have hfl : tc (xT σ) < 200 := by
      rcases Nat.lt_or_ge (tc (xT σ)) 200 with q | q
      · exact q
      · exact absurd (show nI (tc (xT σ)) = nI 200 from by rw [show tc (xT σ) = 200 by omega]) c7
    refine lv_aload_n F.1.1 F.1.2.1 d_Mod_cover_10 rfl (lv_at hl 0 rfl) ?_
    refine lv_iload_n F.1.1 F.1.2.1 d_Mod_cover_11 rfl (lv_at hl 1 rfl) ?_
    refine hw_call1 (hw_runV F hL hS hH hl (c_Mod_isColumn l D L0 ad β o _ obP_id (xC σ) hQ.1.1 hC.2 _) ck_Mod obP_o rfl q_ml_Mod_140 q_im_Mod_isColumn q_se_Mod_isColumn q_in_Mod q_co_Mod_isColumn rfl (k := 1) ⟨rfl, rfl, by decide +kernel, ⟨Nat.le_of_ble_eq_true rfl, Nat.le_of_ble_eq_true rfl⟩, Nat.le_of_ble_eq_true rfl⟩ rfl d_Mod_cover_12 ⟨Nat.le_of_ble_eq_true rfl, Nat.le_of_ble_eq_true rfl⟩) hS (fun H locs hH hS => ?_)
    refine lv_if_eq (tgt := 30) F.1.1 F.1.2.1 d_Mod_cover_15 (by decide) (fun c15 => ?_) (fun c15 => ?_)
    · refine lv_iconst (v := 0) F.1.1 F.1.2.1 d_Mod_cover_30 (by decide) ?_
      exact hw_zret F hr hlocks hH hS d_Mod_cover_31 (by first | decide | (split <;> decide) | (unfold cif; split <;> decide)) (cif_f (fun q => q.1 c15)).symm (by rw [cif_f (fun q => q.1 c15)])
    · obtain ⟨i, hi, rfl⟩ := ixN (by omega) c15
      refine lv_iload_n F.1.1 F.1.2.1 d_Mod_cover_18 rfl (lv_at hl 2 rfl) ?_
      refine lv_i2l F.1.1 F.1.2.1 d_Mod_cover_19 rfl ?_
      refine lv_lconst (v := 1) F.1.1 F.1.2.1 d_Mod_cover_20 (by decide) ?_
      refine lv_ldc2 F.1.1 F.1.2.1 F.1.2.2.2.1 (F.1.2.2.2.2 _ q_cl_Mod_147) d_Mod_cover_21 ?_
      refine hw_call1 (hw_runS F hL hS hH hl (c_Mod_isIn l D L0 ad _ _ _ _) q_ml_Mod_84 q_st_Mod_isIn q_in_Mod q_co_Mod_isIn rfl (k := 3) ⟨rfl, rfl, by decide +kernel, ⟨Nat.le_of_ble_eq_true rfl, Nat.le_of_ble_eq_true rfl⟩, Nat.le_of_ble_eq_true rfl⟩ rfl d_Mod_cover_24 ⟨Nat.le_of_ble_eq_true rfl, Nat.le_of_ble_eq_true rfl⟩) hS (fun H locs hH hS => ?_)
      refine lv_if_ne (tgt := 32) F.1.1 F.1.2.1 d_Mod_cover_27 (by decide) (fun c27 => ?_) (fun c27 => ?_)
      · refine lv_aload_n F.1.1 F.1.2.1 d_Mod_cover_32 rfl (lv_at hl 0 rfl) ?_
        refine lv_iconst (v := 4) F.1.1 F.1.2.1 d_Mod_cover_33 (by decide) ?_
        refine lv_iload_n F.1.1 F.1.2.1 d_Mod_cover_34 rfl (lv_at hl 1 rfl) ?_
        refine lv_iload_n F.1.1 F.1.2.1 d_Mod_cover_35 rfl (lv_at hl 2 rfl) ?_
        refine lv_lconst (v := 0) F.1.1 F.1.2.1 d_Mod_cover_36 (by decide) ?_
        refine lv_lconst (v := 0) F.1.1 F.1.2.1 d_Mod_cover_37 (by decide) ?_
        refine hw_call0 (hw_runV F hL hS hH hl (c_Mod_tell l D L0 ad β o _ obP_id (tc (xT σ)) hn4 hfl 4 (nI i) mm 0 0 _ (tl_gd hR hfl (evC hi)) (ad_tc hfl) (tl_Hrel hQ.1)) ck_Mod obP_o rfl q_ml_Mod_136 q_im_Mod_tell q_se_Mod_tell q_in_Mod q_co_Mod_tell rfl (k := 5) ⟨rfl, rfl, by decide +kernel, ⟨Nat.le_of_ble_eq_true rfl, Nat.le_of_ble_eq_true rfl⟩, Nat.le_of_ble_eq_true rfl⟩ rfl d_Mod_cover_38 ⟨Nat.le_of_ble_eq_true rfl, Nat.le_of_ble_eq_true rfl⟩) hS (fun H locs hH hS => ?_)
        replace hH := hH.to obP_obP
        refine lv_iconst (v := 1) F.1.1 F.1.2.1 d_Mod_cover_41 (by decide) ?_
        exact hw_zret F hr hlocks hH hS d_Mod_cover_42 (by first | decide | (split <;> decide) | (unfold cif; split <;> decide)) (cif_t ⟨c15, c27, hfl⟩).symm (by rw [cif_t ⟨c15, c27, hfl⟩]; rfl)
      · refine lv_iconst (v := 0) F.1.1 F.1.2.1 d_Mod_cover_30 (by decide) ?_
        exact hw_zret F hr hlocks hH hS d_Mod_cover_31 (by first | decide | (split <;> decide) | (unfold cif; split <;> decide)) (cif_f (fun q => q.2.1 c27)).symm (by rw [cif_f (fun q => q.2.1 c27)])
set_option maxHeartbeats 1000000 in
theorem c_Mod_survey (l : Launch) (D : va_G) (L0 : Nat) (ad : Nat → Nat) (β : Nat) (o : Ob) (f : Nat → Option va_E) (hA : hasO D ad β 6 shMod o f) (σ : Xs) (hR : xR σ) (hAR : AR σ) (hQ : Rl σ o) (hsv : ¬ 12 < oI (xE σ) 9) (column : Int32) (mm : Int64) : Met l y_Mod_survey (wd y_Mod_survey b_Mod_survey 4 (some .int)) { frames := 4, cells := 0, slots := 0, locals := 103 } (va_Pc [.ref (ad β), .int column, .long mm] (cp D L0 ad (f))) (dt D L0 ad (some (.int (cif (svP σ column mm) (oI (xE σ) 9) (-1)))) (obP D ad β 6 shMod (cif (svP σ column mm) (mTl σ o 5 column 0 mm 0) o) f)) 0 0 (fun q => L0 ≤ q) := by
  refine hw_met (by decide) (Nat.le_of_ble_eq_true rfl) ?_
  intro p e s m below meth c ls F hr hlocks hnm hL hH hS hl
  replace hH := hH.to hA.symm
  have hX := xOK_of hR.1 hR.2.1
  have hC := hR.1.1
  have hTc := hR.1.2.2.2.2.2
  have hL_ := hQ.2.1
  have hn4 := hQ.2.2.1
  refine lv_aload_n F.1.1 F.1.2.1 d_Mod_survey_0 rfl (lv_at hl 0 rfl) ?_
  refine gI ck_Mod F hH q_fl_Mod_115 (k := 4) (by decide) rfl d_Mod_survey_1 ?_
  refine lv_sipush (v := 200) F.1.1 F.1.2.1 d_Mod_survey_4 (by decide) ?_
  refine lv_icmp_eq (tgt := 38) F.1.1 F.1.2.1 d_Mod_survey_7 (by decide) (fun c7 => ?_) (fun c7 => ?_)
  · rw [hn4] at c7
    have hfl : ¬ tc (xT σ) < 200 := by have := (nI_eq (by omega) (by omega)).mp (show nI (tc (xT σ)) = nI 200 from c7); omega
    refine lv_iconst (v := -1) F.1.1 F.1.2.1 d_Mod_survey_38 (by decide) ?_
    exact hw_iret F hr hlocks hH hS d_Mod_survey_39 (cif_f (fun q => hfl q.2.2.2)).symm (by rw [cif_f (fun q => hfl q.2.2.2)])
  · rw [hn4] at c7
    have hfl : tc (xT σ) < 200 := by
      rcases Nat.lt_or_ge (tc (xT σ)) 200 with q | q
      · exact q
      · exact absurd (show nI (tc (xT σ)) = nI 200 from by rw [show tc (xT σ) = 200 by omega]) c7
    refine lv_aload_n F.1.1 F.1.2.1 d_Mod_survey_10 rfl (lv_at hl 0 rfl) ?_
    refine gI ck_Mod F hH q_fl_Mod_112 (k := 20) (by decide) rfl d_Mod_survey_11 ?_
    refine lv_bipush (v := 12) F.1.1 F.1.2.1 d_Mod_survey_14 (by decide) ?_
    refine lv_icmp_eq (tgt := 38) F.1.1 F.1.2.1 d_Mod_survey_16 (by decide) (fun c16 => ?_) (fun c16 => ?_)
    · rw [hL_.2.2.2.1] at c16
      refine lv_iconst (v := -1) F.1.1 F.1.2.1 d_Mod_survey_38 (by decide) ?_
      exact hw_iret F hr hlocks hH hS d_Mod_survey_39 (cif_f (fun q => q.2.2.1 (by rw [c16]; decide))).symm (by rw [cif_f (fun q => q.2.2.1 (by rw [c16]; decide))])
    · rw [hL_.2.2.2.1] at c16
      refine lv_aload_n F.1.1 F.1.2.1 d_Mod_survey_19 rfl (lv_at hl 0 rfl) ?_
      refine lv_iload_n F.1.1 F.1.2.1 d_Mod_survey_20 rfl (lv_at hl 1 rfl) ?_
      refine hw_call1 (hw_runV F hL hS hH hl (c_Mod_isColumn l D L0 ad β o _ obP_id (xC σ) hQ.1.1 hC.2 _) ck_Mod obP_o rfl q_ml_Mod_140 q_im_Mod_isColumn q_se_Mod_isColumn q_in_Mod q_co_Mod_isColumn rfl (k := 1) ⟨rfl, rfl, by decide +kernel, ⟨Nat.le_of_ble_eq_true rfl, Nat.le_of_ble_eq_true rfl⟩, Nat.le_of_ble_eq_true rfl⟩ rfl d_Mod_survey_21 ⟨Nat.le_of_ble_eq_true rfl, Nat.le_of_ble_eq_true rfl⟩) hS (fun H locs hH hS => ?_)
      refine lv_if_eq (tgt := 38) F.1.1 F.1.2.1 d_Mod_survey_24 (by decide) (fun c24 => ?_) (fun c24 => ?_)
      · refine lv_iconst (v := -1) F.1.1 F.1.2.1 d_Mod_survey_38 (by decide) ?_
        exact hw_iret F hr hlocks hH hS d_Mod_survey_39 (cif_f (fun q => q.1 c24)).symm (by rw [cif_f (fun q => q.1 c24)])
      · obtain ⟨i, hi, rfl⟩ := ixN (by omega) c24
        refine lv_lload_n F.1.1 F.1.2.1 d_Mod_survey_27 rfl (lv_at hl 2 rfl) ?_
        refine lv_lconst (v := 0) F.1.1 F.1.2.1 d_Mod_survey_28 (by decide) ?_
        refine lv_ldc2 F.1.1 F.1.2.1 F.1.2.2.2.1 (F.1.2.2.2.2 _ q_cl_Mod_149) d_Mod_survey_29 ?_
        refine hw_call1 (hw_runS F hL hS hH hl (c_Mod_isIn l D L0 ad _ _ _ _) q_ml_Mod_84 q_st_Mod_isIn q_in_Mod q_co_Mod_isIn rfl (k := 3) ⟨rfl, rfl, by decide +kernel, ⟨Nat.le_of_ble_eq_true rfl, Nat.le_of_ble_eq_true rfl⟩, Nat.le_of_ble_eq_true rfl⟩ rfl d_Mod_survey_32 ⟨Nat.le_of_ble_eq_true rfl, Nat.le_of_ble_eq_true rfl⟩) hS (fun H locs hH hS => ?_)
        refine lv_if_ne (tgt := 40) F.1.1 F.1.2.1 d_Mod_survey_35 (by decide) (fun c35 => ?_) (fun c35 => ?_)
        · refine lv_aload_n F.1.1 F.1.2.1 d_Mod_survey_40 rfl (lv_at hl 0 rfl) ?_
          refine lv_iconst (v := 5) F.1.1 F.1.2.1 d_Mod_survey_41 (by decide) ?_
          refine lv_iload_n F.1.1 F.1.2.1 d_Mod_survey_42 rfl (lv_at hl 1 rfl) ?_
          refine lv_iconst (v := 0) F.1.1 F.1.2.1 d_Mod_survey_43 (by decide) ?_
          refine lv_lload_n F.1.1 F.1.2.1 d_Mod_survey_44 rfl (lv_at hl 2 rfl) ?_
          refine lv_lconst (v := 0) F.1.1 F.1.2.1 d_Mod_survey_45 (by decide) ?_
          refine hw_call0 (hw_runV F hL hS hH hl (c_Mod_tell l D L0 ad β o _ obP_id (tc (xT σ)) hn4 hfl 5 (nI i) 0 mm 0 _ (tl_gd hR hfl (evV hi)) (ad_tc hfl) (tl_Hrel hQ.1)) ck_Mod obP_o rfl q_ml_Mod_136 q_im_Mod_tell q_se_Mod_tell q_in_Mod q_co_Mod_tell rfl (k := 5) ⟨rfl, rfl, by decide +kernel, ⟨Nat.le_of_ble_eq_true rfl, Nat.le_of_ble_eq_true rfl⟩, Nat.le_of_ble_eq_true rfl⟩ rfl d_Mod_survey_46 ⟨Nat.le_of_ble_eq_true rfl, Nat.le_of_ble_eq_true rfl⟩) hS (fun H locs hH hS => ?_)
          replace hH := hH.to obP_obP
          refine lv_aload_n F.1.1 F.1.2.1 d_Mod_survey_49 rfl (lv_at hl 0 rfl) ?_
          refine gI ck_Mod F hH q_fl_Mod_112 (k := 20) (by decide) rfl d_Mod_survey_50 ?_
          refine lv_iconst (v := 1) F.1.1 F.1.2.1 d_Mod_survey_53 (by decide) ?_
          refine lv_isub F.1.1 F.1.2.1 d_Mod_survey_54 ?_
          exact hw_iret F hr hlocks hH hS d_Mod_survey_55 (by rw [cif_t ⟨c24, c35, fun q => c16 (Int32.le_antisymm (Int32.not_lt.mp hsv) q), hfl⟩]; exact (congrArg (· - 1) (mtl_5 hR hAR hQ hfl (evV hi))).trans (Int32.add_sub_cancel _ _)) (by rw [cif_t ⟨c24, c35, fun q => c16 (Int32.le_antisymm (Int32.not_lt.mp hsv) q), hfl⟩]; rfl)
        · refine lv_iconst (v := -1) F.1.1 F.1.2.1 d_Mod_survey_38 (by decide) ?_
          exact hw_iret F hr hlocks hH hS d_Mod_survey_39 (cif_f (fun q => q.2.1 c35)).symm (by rw [cif_f (fun q => q.2.1 c35)])
