/-! CellSettling: points, room, phases kept, cracks; printed by wip/gen/celd.py -/
theorem isP_0 {x y : Int32} : (if wi x.toInt64 0 4 = 0 ∨ wi y.toInt64 0 4 = 0 then (0 : Int32) else 1) = 0 ↔ (wi x.toInt64 0 (lN 5 - 1) = 0 ∨ wi y.toInt64 0 (lN 5 - 1) = 0) := by
  rw [show lN 5 - 1 = 4 from rfl]
  split <;> simp_all
def ptP (σ : Xs) (su x y z : Int32) : Prop := ¬ wi su.toInt64 0 (lN (xSc σ) - 1) = 0 ∧ ¬ wi x.toInt64 0 (lN 5 - 1) = 0 ∧ ¬ wi y.toInt64 0 (lN 5 - 1) = 0 ∧ ¬ wi z.toInt64 (-100000) 100000 = 0
def shF (n : Int64) : Int64 := ((if n - n / 2 * 2 = 0 then (2 : Int32) else 1) * (if n - n / 3 * 3 = 0 then 3 else 1)).toInt64
theorem shF_nz {n : Int64} : ¬ shF n = 0 := by
  unfold shF
  split <;> split <;> decide
def rmP (σ : Xs) (su sv part : Int32) : Prop := ¬ wi su.toInt64 0 (lN (xSc σ) - 1) = 0 ∧ ¬ wi sv.toInt64 0 (lN (xSc σ) - 1) = 0 ∧ ¬ wi part.toInt64 0 1 = 0
def rmF (σ : Xs) (a b : Nat) (part : Int32) : Int64 := if part = 0 then sixF (xS σ a) (xS σ b) 4 * (oI (xE σ) 0).toInt64 * (oI (xE σ) 0).toInt64 / shF (sixF (xS σ a) (xS σ b) 4 * (oI (xE σ) 0).toInt64 * (oI (xE σ) 0).toInt64) else 6 / shF (sixF (xS σ a) (xS σ b) 4 * (oI (xE σ) 0).toInt64 * (oI (xE σ) 0).toInt64)
def xPh (σ : Xs) : Prop := ∀ k, k < xPc σ → ∃ a b, a ≤ b ∧ b < xC σ ∧ oI (xP σ k) 0 = nI a ∧ oI (xP σ k) 1 = nI b
def kpP (σ : Xs) (ph : Int32) : Prop := ¬ wi ph.toInt64 0 (lN (xPc σ) - 1) = 0 ∧ ∀ j, (oI (xP σ ph.toNatClampNeg) 0).toNatClampNeg ≤ j → j < (oI (xP σ ph.toNatClampNeg) 1).toNatClampNeg → ¬ oJ (xP σ ph.toNatClampNeg) 2 < spF σ j
def crk (g : Nat → Int64) (ap : Int64) (k : Int32) : Nat → Nat → Int32 → Int32
  | 0, _, _ => -1
  | n + 1, i, sn => if ap < g i then (if sn = k then nI i else crk g ap k n (i + 1) (sn + 1)) else crk g ap k n (i + 1) sn
theorem crk_n {g : Nat → Int64} {ap : Int64} {k : Int32} {N i : Nat} {sn : Int32} (hi : i < N) (h : ¬ ap < g i) : crk g ap k (N - i) i sn = crk g ap k (N - (i + 1)) (i + 1) sn := by
  rw [show N - i = (N - (i + 1)) + 1 by omega]; exact if_neg h
theorem crk_y {g : Nat → Int64} {ap : Int64} {k : Int32} {N i : Nat} {sn : Int32} (hi : i < N) (h : ap < g i) (h2 : sn = k) : crk g ap k (N - i) i sn = nI i := by
  rw [show N - i = (N - (i + 1)) + 1 by omega]; exact (if_pos h).trans (if_pos h2)
theorem crk_s {g : Nat → Int64} {ap : Int64} {k : Int32} {N i : Nat} {sn : Int32} (hi : i < N) (h : ap < g i) (h2 : ¬ sn = k) : crk g ap k (N - i) i sn = crk g ap k (N - (i + 1)) (i + 1) (sn + 1) := by
  rw [show N - i = (N - (i + 1)) + 1 by omega]; exact (if_pos h).trans (if_neg h2)
set_option maxHeartbeats 1000000 in
theorem c_Cel_point (l : Launch) (D : va_G) (L0 : Nat) (ad : Nat → Nat) (σ : Xs) (f0 : Nat → Option va_E) (hX : xOK σ) (su x y z : Int32) : Met l y_Cel_point (wd y_Cel_point b_Cel_point 6 (some .boolean)) { frames := 2, cells := 0, slots := 0, locals := 46 } (va_Pc [.ref (ad 0), .int su, .int x, .int y, .int z] (cp D L0 ad (celP D ad σ f0))) (dt D L0 ad (some (.int (cif (ptP σ su x y z) 1 0))) (celP D ad (cif (ptP σ su x y z) (xsS σ su.toNatClampNeg (ptF (xS σ su.toNatClampNeg) (x.toNatClampNeg * 5 + y.toNatClampNeg) z)) σ) f0)) 0 0 (fun q => L0 ≤ q) := by
  refine hw_met (by decide) (Nat.le_of_ble_eq_true rfl) ?_
  intro p e s m below meth c ls F hr hlocks hnm hL hH hS hl
  have hC := hX.2.1
  refine lv_aload_n F.1.1 F.1.2.1 d_Cel_point_0 rfl (lv_at hl 0 rfl) ?_
  refine lv_iload_n F.1.1 F.1.2.1 d_Cel_point_1 rfl (lv_at hl 1 rfl) ?_
  refine hw_call1 (hw_runV F hL hS hH hl (c_Cel_surfaceAt l D L0 ad σ f0 hX _) ck_Cel (hasO_o celE) rfl q_ml_Cel_124 q_im_Cel_surfaceAt q_se_Cel_surfaceAt q_in_Cel q_co_Cel_surfaceAt rfl (k := 1) ⟨rfl, rfl, by decide +kernel, ⟨Nat.le_of_ble_eq_true rfl, Nat.le_of_ble_eq_true rfl⟩, Nat.le_of_ble_eq_true rfl⟩ rfl d_Cel_point_2 ⟨Nat.le_of_ble_eq_true rfl, Nat.le_of_ble_eq_true rfl⟩) hS (fun H locs hH hS => ?_)
  by_cases hs0 : wi su.toInt64 0 (lN (xSc σ) - 1) = 0
  · refine W_top (if_pos hs0) ?_
    refine lv_astoreN F.1.1 F.1.2.1 d_Cel_point_5 hl (by decide) rfl (fun ls hl => ?_)
    refine lv_aloadN F.1.1 F.1.2.1 d_Cel_point_7 (lv_at hl 0 rfl) ?_
    refine lv_ifnullN (tgt := 35) F.1.1 F.1.2.1 d_Cel_point_9 (by decide) ?_
    refine lv_iconst (v := 0) F.1.1 F.1.2.1 d_Cel_point_35 (by decide) ?_
    exact hw_zret F hr hlocks hH hS d_Cel_point_36 (by first | decide | (split <;> decide) | (unfold cif; split <;> decide)) (cif_f (fun q => q.1 hs0)).symm (by rw [cif_f (fun q => q.1 hs0)])
  · obtain ⟨a, ha, rfl⟩ := ixN (by omega) hs0
    refine W_top (v' := .ref (ad (128 + 8 * a))) (by rw [if_neg hs0, nI_clamp (by omega)]) ?_
    refine lv_astore F.1.1 F.1.2.1 d_Cel_point_5 hl (by decide) rfl (fun ls hl => ?_)
    refine lv_aload F.1.1 F.1.2.1 d_Cel_point_7 (lv_at hl 0 rfl) ?_
    refine lv_ifnull F.1.1 F.1.2.1 d_Cel_point_9 ?_
    refine lv_iload_n F.1.1 F.1.2.1 d_Cel_point_12 rfl (lv_at hl 3 rfl) ?_
    refine lv_iload_n F.1.1 F.1.2.1 d_Cel_point_13 rfl (lv_at hl 4 rfl) ?_
    refine hw_call1 (hw_runS F hL hS hH hl (c_Sur_isPlace l D L0 ad x y _) q_ml_Cel_128 q_st_Sur_isPlace q_in_Sur q_co_Sur_isPlace rfl (k := 2) ⟨rfl, rfl, by decide +kernel, ⟨Nat.le_of_ble_eq_true rfl, Nat.le_of_ble_eq_true rfl⟩, Nat.le_of_ble_eq_true rfl⟩ rfl d_Cel_point_14 ⟨Nat.le_of_ble_eq_true rfl, Nat.le_of_ble_eq_true rfl⟩) hS (fun H locs hH hS => ?_)
    refine lv_if_eq (tgt := 35) F.1.1 F.1.2.1 d_Cel_point_17 (by decide) (fun c17 => ?_) (fun c17 => ?_)
    · rw [isP_0] at c17
      refine lv_iconst (v := 0) F.1.1 F.1.2.1 d_Cel_point_35 (by decide) ?_
      exact hw_zret F hr hlocks hH hS d_Cel_point_36 (by first | decide | (split <;> decide) | (unfold cif; split <;> decide)) (cif_f (fun q => c17.elim q.2.1 q.2.2.1)).symm (by rw [cif_f (fun q => c17.elim q.2.1 q.2.2.1)])
    · rw [isP_0, not_or] at c17
      obtain ⟨i, hi5, rfl⟩ := ixN (n := 5) (by omega) c17.1
      obtain ⟨j, hj5, rfl⟩ := ixN (n := 5) (by omega) c17.2
      refine lv_iload F.1.1 F.1.2.1 d_Cel_point_20 (lv_at hl 5 rfl) ?_
      refine lv_i2l F.1.1 F.1.2.1 d_Cel_point_22 rfl ?_
      refine lv_ldc2 F.1.1 F.1.2.1 F.1.2.2.2.1 (F.1.2.2.2.2 _ q_cl_Cel_132) d_Cel_point_23 ?_
      refine lv_ldc2 F.1.1 F.1.2.1 F.1.2.2.2.1 (F.1.2.2.2.2 _ q_cl_Cel_134) d_Cel_point_26 ?_
      refine hw_call1 (hw_runS F hL hS hH hl (c_Cel_isWithin l D L0 ad _ _ _ _) q_ml_Cel_11 q_st_Cel_isWithin q_in_Cel q_co_Cel_isWithin rfl (k := 3) ⟨rfl, rfl, by decide +kernel, ⟨Nat.le_of_ble_eq_true rfl, Nat.le_of_ble_eq_true rfl⟩, Nat.le_of_ble_eq_true rfl⟩ rfl d_Cel_point_29 ⟨Nat.le_of_ble_eq_true rfl, Nat.le_of_ble_eq_true rfl⟩) hS (fun H locs hH hS => ?_)
      refine lv_if_ne (tgt := 37) F.1.1 F.1.2.1 d_Cel_point_32 (by decide) (fun c32 => ?_) (fun c32 => ?_)
      · refine lv_aload F.1.1 F.1.2.1 d_Cel_point_37 (lv_at hl 0 rfl) ?_
        refine lv_iload_n F.1.1 F.1.2.1 d_Cel_point_39 rfl (lv_at hl 3 rfl) ?_
        refine lv_iload_n F.1.1 F.1.2.1 d_Cel_point_40 rfl (lv_at hl 4 rfl) ?_
        refine lv_iload F.1.1 F.1.2.1 d_Cel_point_41 (lv_at hl 5 rfl) ?_
        refine hw_call0 (hw_runV F hL hS hH hl (c_Sur_put l D L0 ad (128 + 8 * a) (xS σ a) _ (celS ha hC) i j hi5 hj5 z) ck_Sur (hasO_o (celS ha hC)) rfl q_ml_Cel_136 q_im_Sur_put q_se_Sur_put q_in_Sur q_co_Sur_put rfl (k := 3) ⟨rfl, rfl, by decide +kernel, ⟨Nat.le_of_ble_eq_true rfl, Nat.le_of_ble_eq_true rfl⟩, Nat.le_of_ble_eq_true rfl⟩ rfl d_Cel_point_43 ⟨Nat.le_of_ble_eq_true rfl, Nat.le_of_ble_eq_true rfl⟩) hS (fun H locs hH hS => ?_)
        replace hH := hH.to (cel_S ha hC)
        refine lv_iconst (v := 1) F.1.1 F.1.2.1 d_Cel_point_46 (by decide) ?_
        exact hw_zret F hr hlocks hH hS d_Cel_point_47 (by first | decide | (split <;> decide) | (unfold cif; split <;> decide)) (cif_t ⟨hs0, c17.1, c17.2, c32⟩).symm (by rw [cif_t ⟨hs0, c17.1, c17.2, c32⟩, nI_clamp (show a < 2 ^ 31 by omega), nI_clamp (show i < 2 ^ 31 by omega), nI_clamp (show j < 2 ^ 31 by omega)])
      · refine lv_iconst (v := 0) F.1.1 F.1.2.1 d_Cel_point_35 (by decide) ?_
        exact hw_zret F hr hlocks hH hS d_Cel_point_36 (by first | decide | (split <;> decide) | (unfold cif; split <;> decide)) (cif_f (fun q => q.2.2.2 c32)).symm (by rw [cif_f (fun q => q.2.2.2 c32)])
set_option maxHeartbeats 1000000 in
theorem c_Cel_sharedWithSix (l : Launch) (D : va_G) (L0 : Nat) (ad : Nat → Nat) (n : Int64) (f : Nat → Option va_E) : Met l y_Cel_sharedWithSix (wd y_Cel_sharedWithSix b_Cel_sharedWithSix 2 (some .long)) { frames := 0, cells := 0, slots := 0, locals := 0 } (va_Pc [.long n] (cp D L0 ad (f))) (dt D L0 ad (some (.long (shF n))) (f)) 0 0 (fun q => L0 ≤ q) := by
  refine hw_met (by decide) (Nat.le_of_ble_eq_true rfl) ?_
  intro p e s m below meth c ls F hr hlocks hnm hL hH hS hl
  refine lv_lload_n F.1.1 F.1.2.1 d_Cel_sharedWithSix_0 rfl (lv_at hl 0 rfl) ?_
  refine lv_ldc2 F.1.1 F.1.2.1 F.1.2.2.2.1 (F.1.2.2.2.2 _ q_cl_Cel_261) d_Cel_sharedWithSix_1 ?_
  refine lv_lrem F.1.1 F.1.2.1 d_Cel_sharedWithSix_4 (by decide) ?_
  refine lv_lconst (v := 0) F.1.1 F.1.2.1 d_Cel_sharedWithSix_5 (by decide) ?_
  refine W.lcmp F.1.1 F.1.2.1 d_Cel_sharedWithSix_6 ?_
  refine lv_if_ne (tgt := 14) F.1.1 F.1.2.1 d_Cel_sharedWithSix_7 (by decide) (fun c7 => ?_) (fun c7 => ?_)
  · rw [lg_cmp_eq] at c7
    refine lv_iconst (v := 1) F.1.1 F.1.2.1 d_Cel_sharedWithSix_14 (by decide) ?_
    refine lv_lload_n F.1.1 F.1.2.1 d_Cel_sharedWithSix_15 rfl (lv_at hl 0 rfl) ?_
    refine lv_ldc2 F.1.1 F.1.2.1 F.1.2.2.2.1 (F.1.2.2.2.2 _ q_cl_Cel_259) d_Cel_sharedWithSix_16 ?_
    refine lv_lrem F.1.1 F.1.2.1 d_Cel_sharedWithSix_19 (by decide) ?_
    refine lv_lconst (v := 0) F.1.1 F.1.2.1 d_Cel_sharedWithSix_20 (by decide) ?_
    refine W.lcmp F.1.1 F.1.2.1 d_Cel_sharedWithSix_21 ?_
    refine lv_if_ne (tgt := 29) F.1.1 F.1.2.1 d_Cel_sharedWithSix_22 (by decide) (fun c22 => ?_) (fun c22 => ?_)
    · rw [lg_cmp_eq] at c22
      refine lv_iconst (v := 1) F.1.1 F.1.2.1 d_Cel_sharedWithSix_29 (by decide) ?_
      refine lv_imul F.1.1 F.1.2.1 d_Cel_sharedWithSix_30 ?_
      refine lv_i2l F.1.1 F.1.2.1 d_Cel_sharedWithSix_31 rfl ?_
      exact hw_lret F hr hlocks hH hS d_Cel_sharedWithSix_32 (by unfold shF; rw [if_neg c7, if_neg c22]) rfl
    · rw [lg_cmp_eq] at c22
      refine lv_iconst (v := 3) F.1.1 F.1.2.1 d_Cel_sharedWithSix_25 (by decide) ?_
      refine lv_goto (tgt := 30) F.1.1 F.1.2.1 d_Cel_sharedWithSix_26 (by decide) ?_
      refine lv_imul F.1.1 F.1.2.1 d_Cel_sharedWithSix_30 ?_
      refine lv_i2l F.1.1 F.1.2.1 d_Cel_sharedWithSix_31 rfl ?_
      exact hw_lret F hr hlocks hH hS d_Cel_sharedWithSix_32 (by unfold shF; rw [if_neg c7, if_pos c22]) rfl
  · rw [lg_cmp_eq] at c7
    refine lv_iconst (v := 2) F.1.1 F.1.2.1 d_Cel_sharedWithSix_10 (by decide) ?_
    refine lv_goto (tgt := 15) F.1.1 F.1.2.1 d_Cel_sharedWithSix_11 (by decide) ?_
    refine lv_lload_n F.1.1 F.1.2.1 d_Cel_sharedWithSix_15 rfl (lv_at hl 0 rfl) ?_
    refine lv_ldc2 F.1.1 F.1.2.1 F.1.2.2.2.1 (F.1.2.2.2.2 _ q_cl_Cel_259) d_Cel_sharedWithSix_16 ?_
    refine lv_lrem F.1.1 F.1.2.1 d_Cel_sharedWithSix_19 (by decide) ?_
    refine lv_lconst (v := 0) F.1.1 F.1.2.1 d_Cel_sharedWithSix_20 (by decide) ?_
    refine W.lcmp F.1.1 F.1.2.1 d_Cel_sharedWithSix_21 ?_
    refine lv_if_ne (tgt := 29) F.1.1 F.1.2.1 d_Cel_sharedWithSix_22 (by decide) (fun c22 => ?_) (fun c22 => ?_)
    · rw [lg_cmp_eq] at c22
      refine lv_iconst (v := 1) F.1.1 F.1.2.1 d_Cel_sharedWithSix_29 (by decide) ?_
      refine lv_imul F.1.1 F.1.2.1 d_Cel_sharedWithSix_30 ?_
      refine lv_i2l F.1.1 F.1.2.1 d_Cel_sharedWithSix_31 rfl ?_
      exact hw_lret F hr hlocks hH hS d_Cel_sharedWithSix_32 (by unfold shF; rw [if_pos c7, if_neg c22]) rfl
    · rw [lg_cmp_eq] at c22
      refine lv_iconst (v := 3) F.1.1 F.1.2.1 d_Cel_sharedWithSix_25 (by decide) ?_
      refine lv_goto (tgt := 30) F.1.1 F.1.2.1 d_Cel_sharedWithSix_26 (by decide) ?_
      refine lv_imul F.1.1 F.1.2.1 d_Cel_sharedWithSix_30 ?_
      refine lv_i2l F.1.1 F.1.2.1 d_Cel_sharedWithSix_31 rfl ?_
      exact hw_lret F hr hlocks hH hS d_Cel_sharedWithSix_32 (by unfold shF; rw [if_pos c7, if_pos c22]) rfl
set_option maxHeartbeats 1000000 in
theorem c_Cel_room (l : Launch) (D : va_G) (L0 : Nat) (ad : Nat → Nat) (σ : Xs) (f0 : Nat → Option va_E) (hX : xOK σ) (su sv part : Int32) : Met l y_Cel_room (wd y_Cel_room b_Cel_room 10 (some .long)) { frames := 3, cells := 0, slots := 0, locals := 72 } (va_Pc [.ref (ad 0), .int su, .int sv, .int part] (cp D L0 ad (celP D ad σ f0))) (dt D L0 ad (some (.long (cif (rmP σ su sv part) (rmF σ su.toNatClampNeg sv.toNatClampNeg part) (-9223372036854775808)))) (celP D ad σ f0)) 0 0 (fun q => L0 ≤ q) := by
  refine hw_met (by decide) (Nat.le_of_ble_eq_true rfl) ?_
  intro p e s m below meth c ls F hr hlocks hnm hL hH hS hl
  have hC := hX.2.1
  refine lv_aload_n F.1.1 F.1.2.1 d_Cel_room_0 rfl (lv_at hl 0 rfl) ?_
  refine lv_iload_n F.1.1 F.1.2.1 d_Cel_room_1 rfl (lv_at hl 1 rfl) ?_
  refine hw_call1 (hw_runV F hL hS hH hl (c_Cel_surfaceAt l D L0 ad σ f0 hX _) ck_Cel (hasO_o celE) rfl q_ml_Cel_124 q_im_Cel_surfaceAt q_se_Cel_surfaceAt q_in_Cel q_co_Cel_surfaceAt rfl (k := 1) ⟨rfl, rfl, by decide +kernel, ⟨Nat.le_of_ble_eq_true rfl, Nat.le_of_ble_eq_true rfl⟩, Nat.le_of_ble_eq_true rfl⟩ rfl d_Cel_room_2 ⟨Nat.le_of_ble_eq_true rfl, Nat.le_of_ble_eq_true rfl⟩) hS (fun H locs hH hS => ?_)
  by_cases hs0 : wi su.toInt64 0 (lN (xSc σ) - 1) = 0
  · refine W_top (if_pos hs0) ?_
    refine lv_astoreN F.1.1 F.1.2.1 d_Cel_room_5 hl (by decide) rfl (fun ls hl => ?_)
    refine lv_aload_n F.1.1 F.1.2.1 d_Cel_room_7 rfl (lv_at hl 1 rfl) ?_
    refine lv_iload_n F.1.1 F.1.2.1 d_Cel_room_8 rfl (lv_at hl 3 rfl) ?_
    refine hw_call1 (hw_runV F hL hS hH hl (c_Cel_surfaceAt l D L0 ad σ f0 hX _) ck_Cel (hasO_o celE) rfl q_ml_Cel_124 q_im_Cel_surfaceAt q_se_Cel_surfaceAt q_in_Cel q_co_Cel_surfaceAt rfl (k := 1) ⟨rfl, rfl, by decide +kernel, ⟨Nat.le_of_ble_eq_true rfl, Nat.le_of_ble_eq_true rfl⟩, Nat.le_of_ble_eq_true rfl⟩ rfl d_Cel_room_9 ⟨Nat.le_of_ble_eq_true rfl, Nat.le_of_ble_eq_true rfl⟩) hS (fun H locs hH hS => ?_)
    by_cases ht0 : wi sv.toInt64 0 (lN (xSc σ) - 1) = 0
    · refine W_top (if_pos ht0) ?_
      refine lv_astoreN F.1.1 F.1.2.1 d_Cel_room_12 hl (by decide) rfl (fun ls hl => ?_)
      refine lv_aloadN F.1.1 F.1.2.1 d_Cel_room_14 (lv_at hl 1 rfl) ?_
      refine lv_ifnullN (tgt := 34) F.1.1 F.1.2.1 d_Cel_room_16 (by decide) ?_
      refine lv_ldc2 F.1.1 F.1.2.1 F.1.2.2.2.1 (F.1.2.2.2.2 _ q_cl_Cel_142) d_Cel_room_34 ?_
      exact hw_lret F hr hlocks hH hS d_Cel_room_37 (cif_f (fun q => q.1 hs0)).symm rfl
    · obtain ⟨b, hb, rfl⟩ := ixN (by omega) ht0
      refine W_top (v' := .ref (ad (128 + 8 * b))) (by rw [if_neg ht0, nI_clamp (by omega)]) ?_
      refine lv_astore F.1.1 F.1.2.1 d_Cel_room_12 hl (by decide) rfl (fun ls hl => ?_)
      refine lv_aloadN F.1.1 F.1.2.1 d_Cel_room_14 (lv_at hl 1 rfl) ?_
      refine lv_ifnullN (tgt := 34) F.1.1 F.1.2.1 d_Cel_room_16 (by decide) ?_
      refine lv_ldc2 F.1.1 F.1.2.1 F.1.2.2.2.1 (F.1.2.2.2.2 _ q_cl_Cel_142) d_Cel_room_34 ?_
      exact hw_lret F hr hlocks hH hS d_Cel_room_37 (cif_f (fun q => q.1 hs0)).symm rfl
  · obtain ⟨a, ha, rfl⟩ := ixN (by omega) hs0
    refine W_top (v' := .ref (ad (128 + 8 * a))) (by rw [if_neg hs0, nI_clamp (by omega)]) ?_
    refine lv_astore F.1.1 F.1.2.1 d_Cel_room_5 hl (by decide) rfl (fun ls hl => ?_)
    refine lv_aload_n F.1.1 F.1.2.1 d_Cel_room_7 rfl (lv_at hl 1 rfl) ?_
    refine lv_iload_n F.1.1 F.1.2.1 d_Cel_room_8 rfl (lv_at hl 3 rfl) ?_
    refine hw_call1 (hw_runV F hL hS hH hl (c_Cel_surfaceAt l D L0 ad σ f0 hX _) ck_Cel (hasO_o celE) rfl q_ml_Cel_124 q_im_Cel_surfaceAt q_se_Cel_surfaceAt q_in_Cel q_co_Cel_surfaceAt rfl (k := 1) ⟨rfl, rfl, by decide +kernel, ⟨Nat.le_of_ble_eq_true rfl, Nat.le_of_ble_eq_true rfl⟩, Nat.le_of_ble_eq_true rfl⟩ rfl d_Cel_room_9 ⟨Nat.le_of_ble_eq_true rfl, Nat.le_of_ble_eq_true rfl⟩) hS (fun H locs hH hS => ?_)
    by_cases ht0 : wi sv.toInt64 0 (lN (xSc σ) - 1) = 0
    · refine W_top (if_pos ht0) ?_
      refine lv_astoreN F.1.1 F.1.2.1 d_Cel_room_12 hl (by decide) rfl (fun ls hl => ?_)
      refine lv_aload F.1.1 F.1.2.1 d_Cel_room_14 (lv_at hl 1 rfl) ?_
      refine lv_ifnull F.1.1 F.1.2.1 d_Cel_room_16 ?_
      refine lv_aloadN F.1.1 F.1.2.1 d_Cel_room_19 (lv_at hl 0 rfl) ?_
      refine lv_ifnullN (tgt := 34) F.1.1 F.1.2.1 d_Cel_room_21 (by decide) ?_
      refine lv_ldc2 F.1.1 F.1.2.1 F.1.2.2.2.1 (F.1.2.2.2.2 _ q_cl_Cel_142) d_Cel_room_34 ?_
      exact hw_lret F hr hlocks hH hS d_Cel_room_37 (cif_f (fun q => q.2.1 ht0)).symm rfl
    · obtain ⟨b, hb, rfl⟩ := ixN (by omega) ht0
      refine W_top (v' := .ref (ad (128 + 8 * b))) (by rw [if_neg ht0, nI_clamp (by omega)]) ?_
      refine lv_astore F.1.1 F.1.2.1 d_Cel_room_12 hl (by decide) rfl (fun ls hl => ?_)
      refine lv_aload F.1.1 F.1.2.1 d_Cel_room_14 (lv_at hl 1 rfl) ?_
      refine lv_ifnull F.1.1 F.1.2.1 d_Cel_room_16 ?_
      refine lv_aload F.1.1 F.1.2.1 d_Cel_room_19 (lv_at hl 0 rfl) ?_
      refine lv_ifnull F.1.1 F.1.2.1 d_Cel_room_21 ?_
      refine lv_iload_n F.1.1 F.1.2.1 d_Cel_room_24 rfl (lv_at hl 5 rfl) ?_
      refine lv_i2l F.1.1 F.1.2.1 d_Cel_room_25 rfl ?_
      refine lv_lconst (v := 0) F.1.1 F.1.2.1 d_Cel_room_26 (by decide) ?_
      refine lv_lconst (v := 1) F.1.1 F.1.2.1 d_Cel_room_27 (by decide) ?_
      refine hw_call1 (hw_runS F hL hS hH hl (c_Cel_isWithin l D L0 ad _ _ _ _) q_ml_Cel_11 q_st_Cel_isWithin q_in_Cel q_co_Cel_isWithin rfl (k := 3) ⟨rfl, rfl, by decide +kernel, ⟨Nat.le_of_ble_eq_true rfl, Nat.le_of_ble_eq_true rfl⟩, Nat.le_of_ble_eq_true rfl⟩ rfl d_Cel_room_28 ⟨Nat.le_of_ble_eq_true rfl, Nat.le_of_ble_eq_true rfl⟩) hS (fun H locs hH hS => ?_)
      refine lv_if_ne (tgt := 38) F.1.1 F.1.2.1 d_Cel_room_31 (by decide) (fun c31 => ?_) (fun c31 => ?_)
      · refine lv_aload F.1.1 F.1.2.1 d_Cel_room_38 (lv_at hl 1 rfl) ?_
        refine lv_aload F.1.1 F.1.2.1 d_Cel_room_40 (lv_at hl 0 rfl) ?_
        refine hw_call1 (hw_runV F hL hS hH hl (c_Sur_sixfoldTo l D L0 ad (128 + 8 * a) (128 + 8 * b) (xS σ a) (xS σ b) _ (celS ha hC) (celS hb hC)) ck_Sur (hasO_o (celS ha hC)) rfl q_ml_Cel_144 q_im_Sur_sixfoldTo q_se_Sur_sixfoldTo q_in_Sur q_co_Sur_sixfoldTo rfl (k := 1) ⟨rfl, rfl, by decide +kernel, ⟨Nat.le_of_ble_eq_true rfl, Nat.le_of_ble_eq_true rfl⟩, Nat.le_of_ble_eq_true rfl⟩ rfl d_Cel_room_42 ⟨Nat.le_of_ble_eq_true rfl, Nat.le_of_ble_eq_true rfl⟩) hS (fun H locs hH hS => ?_)
        refine lv_aload_n F.1.1 F.1.2.1 d_Cel_room_45 rfl (lv_at hl 2 rfl) ?_
        refine gI ck_Cel F (hH.to celE.symm) q_fl_Cel_15 (k := 0) (by decide) rfl d_Cel_room_46 ?_
        refine lv_i2l F.1.1 F.1.2.1 d_Cel_room_49 rfl ?_
        refine lv_lmul F.1.1 F.1.2.1 d_Cel_room_50 ?_
        refine lv_aload_n F.1.1 F.1.2.1 d_Cel_room_51 rfl (lv_at hl 2 rfl) ?_
        refine gI ck_Cel F (hH.to celE.symm) q_fl_Cel_15 (k := 0) (by decide) rfl d_Cel_room_52 ?_
        refine lv_i2l F.1.1 F.1.2.1 d_Cel_room_55 rfl ?_
        refine lv_lmul F.1.1 F.1.2.1 d_Cel_room_56 ?_
        refine lv_lstore F.1.1 F.1.2.1 d_Cel_room_57 hl (by decide) rfl (fun ls hl => ?_)
        refine lv_lload F.1.1 F.1.2.1 d_Cel_room_59 (lv_at hl 0 rfl) ?_
        refine hw_call1 (hw_runS F hL hS hH hl (c_Cel_sharedWithSix l D L0 ad _ _) q_ml_Cel_148 q_st_Cel_sharedWithSix q_in_Cel q_co_Cel_sharedWithSix rfl (k := 1) ⟨rfl, rfl, by decide +kernel, ⟨Nat.le_of_ble_eq_true rfl, Nat.le_of_ble_eq_true rfl⟩, Nat.le_of_ble_eq_true rfl⟩ rfl d_Cel_room_61 ⟨Nat.le_of_ble_eq_true rfl, Nat.le_of_ble_eq_true rfl⟩) hS (fun H locs hH hS => ?_)
        refine lv_lstore F.1.1 F.1.2.1 d_Cel_room_64 hl (by decide) rfl (fun ls hl => ?_)
        refine lv_iload_n F.1.1 F.1.2.1 d_Cel_room_66 rfl (lv_at hl 7 rfl) ?_
        refine lv_if_ne (tgt := 78) F.1.1 F.1.2.1 d_Cel_room_67 (by decide) (fun c67 => ?_) (fun c67 => ?_)
        · refine lv_ldc2 F.1.1 F.1.2.1 F.1.2.2.2.1 (F.1.2.2.2.2 _ q_cl_Cel_152) d_Cel_room_78 ?_
          refine lv_lload F.1.1 F.1.2.1 d_Cel_room_81 (lv_at hl 0 rfl) ?_
          refine lv_ldiv F.1.1 F.1.2.1 d_Cel_room_83 shF_nz ?_
          exact hw_lret F hr hlocks hH hS d_Cel_room_84 (by rw [cif_t ⟨hs0, ht0, c31⟩, nI_clamp (show a < 2 ^ 31 by omega), nI_clamp (show b < 2 ^ 31 by omega)]; unfold rmF; rw [if_neg c67]) rfl
        · refine lv_lload F.1.1 F.1.2.1 d_Cel_room_70 (lv_at hl 1 rfl) ?_
          refine lv_lload F.1.1 F.1.2.1 d_Cel_room_72 (lv_at hl 0 rfl) ?_
          refine lv_ldiv F.1.1 F.1.2.1 d_Cel_room_74 shF_nz ?_
          refine lv_goto (tgt := 84) F.1.1 F.1.2.1 d_Cel_room_75 (by decide) ?_
          exact hw_lret F hr hlocks hH hS d_Cel_room_84 (by rw [cif_t ⟨hs0, ht0, c31⟩, nI_clamp (show a < 2 ^ 31 by omega), nI_clamp (show b < 2 ^ 31 by omega)]; unfold rmF; rw [if_pos c67]) rfl
      · refine lv_ldc2 F.1.1 F.1.2.1 F.1.2.2.2.1 (F.1.2.2.2.2 _ q_cl_Cel_142) d_Cel_room_34 ?_
        exact hw_lret F hr hlocks hH hS d_Cel_room_37 (cif_f (fun q => q.2.2 c31)).symm rfl
set_option maxHeartbeats 1000000 in
theorem c_Cel_kept (l : Launch) (D : va_G) (L0 : Nat) (ad : Nat → Nat) (σ : Xs) (f0 : Nat → Option va_E) (hX : xOK σ) (hP : xPh σ) (ph : Int32) : Met l y_Cel_kept (wd y_Cel_kept b_Cel_kept 4 (some .boolean)) { frames := 2, cells := 0, slots := 0, locals := 46 } (va_Pc [.ref (ad 0), .int ph] (cp D L0 ad (celP D ad σ f0))) (dt D L0 ad (some (.int (cif (kpP σ ph) 1 0))) (celP D ad σ f0)) 0 0 (fun q => L0 ≤ q) := by
  refine hw_met (by decide) (Nat.le_of_ble_eq_true rfl) ?_
  intro p e s m below meth c ls F hr hlocks hnm hL hH hS hl
  have hC := hX.2.2.1
  have hC8 := hX.1.2
  refine lv_aload_n F.1.1 F.1.2.1 d_Cel_kept_0 rfl (lv_at hl 0 rfl) ?_
  refine lv_iload_n F.1.1 F.1.2.1 d_Cel_kept_1 rfl (lv_at hl 1 rfl) ?_
  refine hw_call1 (hw_runV F hL hS hH hl (c_Cel_phaseAt l D L0 ad σ f0 hX _) ck_Cel (hasO_o celE) rfl q_ml_Cel_160 q_im_Cel_phaseAt q_se_Cel_phaseAt q_in_Cel q_co_Cel_phaseAt rfl (k := 1) ⟨rfl, rfl, by decide +kernel, ⟨Nat.le_of_ble_eq_true rfl, Nat.le_of_ble_eq_true rfl⟩, Nat.le_of_ble_eq_true rfl⟩ rfl d_Cel_kept_2 ⟨Nat.le_of_ble_eq_true rfl, Nat.le_of_ble_eq_true rfl⟩) hS (fun H locs hH hS => ?_)
  by_cases hp0 : wi ph.toInt64 0 (lN (xPc σ) - 1) = 0
  · refine W_top (if_pos hp0) ?_
    refine lv_astore_nN F.1.1 F.1.2.1 d_Cel_kept_5 rfl hl (by decide) rfl (fun ls hl => ?_)
    refine lv_aload_nN F.1.1 F.1.2.1 d_Cel_kept_6 rfl (lv_at hl 0 rfl) ?_
    refine lv_ifnonnullN F.1.1 F.1.2.1 d_Cel_kept_7 ?_
    refine lv_iconst (v := 0) F.1.1 F.1.2.1 d_Cel_kept_10 (by decide) ?_
    exact hw_zret F hr hlocks hH hS d_Cel_kept_11 (by first | decide | (split <;> decide) | (unfold cif; split <;> decide)) (cif_f (fun q => q.1 hp0)).symm rfl
  · obtain ⟨k, hk, rfl⟩ := ixN (by omega) hp0
    obtain ⟨a, b, hab, hbC, ea, eb⟩ := hP k hk
    refine W_top (v' := .ref (ad (160 + 8 * k))) (by rw [if_neg hp0, nI_clamp (by omega)]) ?_
    refine lv_astore_n F.1.1 F.1.2.1 d_Cel_kept_5 rfl hl (by decide) rfl (fun ls hl => ?_)
    refine lv_aload_n F.1.1 F.1.2.1 d_Cel_kept_6 rfl (lv_at hl 0 rfl) ?_
    refine lv_ifnonnull (tgt := 12) F.1.1 F.1.2.1 d_Cel_kept_7 (by decide) ?_
    refine lv_aload_n F.1.1 F.1.2.1 d_Cel_kept_12 rfl (lv_at hl 0 rfl) ?_
    refine gIN ck_Pha F (hH.to (celPh hk hC).symm) q_fn_Cel_164 (k := 0) (by decide) rfl d_Cel_kept_13 ?_
    refine lv_istore_n F.1.1 F.1.2.1 d_Cel_kept_16 rfl hl (by decide) rfl (fun ls hl => ?_)
    have L17 : ∀ (u : Nat) (j : Nat) (H : Heap) (locs : List Loc) (ls : Array Slot), (a ≤ j ∧ j ≤ b) → (∀ i, a ≤ i → i < j → ¬ oJ (xP σ k) 2 < spF σ i) → b - j < u → hw D L0 ad (celP D ad σ f0) H → va_S (fun q => L0 ≤ q) s.heap H locs → lv_has ls 4 [(0, .ref (ad 0)), (1, .int (nI k)), (2, .ref (ad (160 + 8 * k))), (3, .int (nI j))] → W p l e { frames := 2, cells := 0, slots := 0, locals := 46 } s m [.ref (ad 0), .int (nI k)].toArray below meth c H locs 0 0 (MQ below (dt D L0 ad (some (.int (cif (kpP σ (nI k)) 1 0))) (celP D ad σ f0)) [.ref (ad 0), .int (nI k)].toArray s 0 0 (fun q => L0 ≤ q)) (F0 m 17 ls []) := by
      intro u
      induction u with
      | zero => intros; exact absurd ‹(_ : Nat) < 0› (Nat.not_lt_zero _)
      | succ u ih17 =>
        intro j H locs ls hj hkp hu hH hS hl
        refine lv_iload_n F.1.1 F.1.2.1 d_Cel_kept_17 rfl (lv_at hl 3 rfl) ?_
        refine lv_aload_n F.1.1 F.1.2.1 d_Cel_kept_18 rfl (lv_at hl 2 rfl) ?_
        refine gIN ck_Pha F (hH.to (celPh hk hC).symm) q_fn_Cel_167 (k := 1) (by decide) rfl d_Cel_kept_19 ?_
        refine lv_icmp_ge (tgt := 46) F.1.1 F.1.2.1 d_Cel_kept_22 (by decide) (fun c22 => ?_) (fun c22 => ?_)
        · rw [eb] at c22
          have hin := (nI_leI (by omega) (by omega)).mp c22
          refine lv_iconst (v := 1) F.1.1 F.1.2.1 d_Cel_kept_46 (by decide) ?_
          exact hw_zret F hr hlocks hH hS d_Cel_kept_47 (by first | decide | (split <;> decide) | (unfold cif; split <;> decide)) (cif_t ⟨hp0, by rw [nI_clamp (by omega), ea, eb, nI_clamp (by omega), nI_clamp (by omega)]; exact fun i h1 h2 => hkp i h1 (by omega)⟩).symm rfl
        · rw [eb] at c22
          have hin : j < b := by
            rcases Nat.lt_or_ge j b with q | q
            · exact q
            · exact absurd (nI_le q (by omega)) c22
          refine lv_aload_n F.1.1 F.1.2.1 d_Cel_kept_25 rfl (lv_at hl 0 rfl) ?_
          refine lv_iload_n F.1.1 F.1.2.1 d_Cel_kept_26 rfl (lv_at hl 3 rfl) ?_
          refine hw_call1 (hw_runV F hL hS hH hl (c_Cel_stepBehind l D L0 ad σ f0 hX j (by omega)) ck_Cel (hasO_o celE) rfl q_ml_Cel_170 q_im_Cel_stepBehind q_se_Cel_stepBehind q_in_Cel q_co_Cel_stepBehind rfl (k := 1) ⟨rfl, rfl, by decide +kernel, ⟨Nat.le_of_ble_eq_true rfl, Nat.le_of_ble_eq_true rfl⟩, Nat.le_of_ble_eq_true rfl⟩ rfl d_Cel_kept_27 ⟨Nat.le_of_ble_eq_true rfl, Nat.le_of_ble_eq_true rfl⟩) hS (fun H locs hH hS => ?_)
          refine lv_aload_n F.1.1 F.1.2.1 d_Cel_kept_30 rfl (lv_at hl 2 rfl) ?_
          refine gJN ck_Pha F (hH.to (celPh hk hC).symm) q_fn_Cel_173 (k := 2) (by decide) rfl d_Cel_kept_31 ?_
          refine W.lcmp F.1.1 F.1.2.1 d_Cel_kept_34 ?_
          refine lv_if_le (tgt := 40) F.1.1 F.1.2.1 d_Cel_kept_35 (by decide) (fun c35 => ?_) (fun c35 => ?_)
          · rw [lg_cmp_le] at c35
            refine lv_iinc F.1.1 F.1.2.1 d_Cel_kept_40 hl (k := 3) rfl rfl (by decide) rfl (fun ls hl => ?_)
            refine lv_goto (tgt := 17) F.1.1 F.1.2.1 d_Cel_kept_43 (by decide) ?_
            refine ih17 (j + 1) H locs ls (by omega) (fun i h1 h2 => ?_) (by omega) hH hS (lv_sub hl [1, 2, 3, 0] ?_)
            · rcases Nat.lt_or_ge i j with q | q
              · exact hkp i h1 q
              · rw [show i = j by omega]; exact Int64.not_lt.mpr c35
            · show [_, _, _, _] = [_, _, _, _]
              rw [ii1]
              first | done | rfl
          · rw [lg_cmp_le] at c35
            refine lv_iconst (v := 0) F.1.1 F.1.2.1 d_Cel_kept_38 (by decide) ?_
            exact hw_zret F hr hlocks hH hS d_Cel_kept_39 (by first | decide | (split <;> decide) | (unfold cif; split <;> decide)) (cif_f (fun q => (by have := q.2; rw [nI_clamp (by omega), ea, eb, nI_clamp (by omega), nI_clamp (by omega)] at this; exact this j hj.1 hin (Int64.not_le.mp c35)))).symm rfl
    refine L17 (b - a + 1) a H locs ls ⟨Nat.le_refl _, hab⟩ (fun i h1 h2 => absurd h2 (by omega)) (Nat.lt_succ_self _) hH hS (lv_sub hl [2, 3, 1, 0] ?_)
    show [_, _, _, _] = [_, _, _, _]
    rw [ea]
    first | done | rfl
set_option maxHeartbeats 1000000 in
theorem c_Cel_crack (l : Launch) (D : va_G) (L0 : Nat) (ad : Nat → Nat) (σ : Xs) (f0 : Nat → Option va_E) (hX : xOK σ) (k : Int32) (ap : Int64) : Met l y_Cel_crack (wd y_Cel_crack b_Cel_crack 6 (some .int)) { frames := 2, cells := 0, slots := 0, locals := 45 } (va_Pc [.ref (ad 0), .int k, .long ap] (cp D L0 ad (celP D ad σ f0))) (dt D L0 ad (some (.int (if k < 0 ∨ ap < 0 then -1 else crk (spF σ) ap k (xC σ - 1) 0 0))) (celP D ad σ f0)) 0 0 (fun q => L0 ≤ q) := by
  refine hw_met (by decide) (Nat.le_of_ble_eq_true rfl) ?_
  intro p e s m below meth c ls F hr hlocks hnm hL hH hS hl
  have hC := hX.1
  refine lv_iload_n F.1.1 F.1.2.1 d_Cel_crack_0 rfl (lv_at hl 1 rfl) ?_
  refine lv_if_lt (tgt := 10) F.1.1 F.1.2.1 d_Cel_crack_1 (by decide) (fun c1 => ?_) (fun c1 => ?_)
  · refine lv_iconst (v := -1) F.1.1 F.1.2.1 d_Cel_crack_10 (by decide) ?_
    exact hw_iret F hr hlocks hH hS d_Cel_crack_11 (by rw [if_pos (Or.inl c1)]) rfl
  · refine lv_lload_n F.1.1 F.1.2.1 d_Cel_crack_4 rfl (lv_at hl 2 rfl) ?_
    refine lv_lconst (v := 0) F.1.1 F.1.2.1 d_Cel_crack_5 (by decide) ?_
    refine W.lcmp F.1.1 F.1.2.1 d_Cel_crack_6 ?_
    refine lv_if_ge (tgt := 12) F.1.1 F.1.2.1 d_Cel_crack_7 (by decide) (fun c7 => ?_) (fun c7 => ?_)
    · rw [lg_cmp_ge] at c7
      refine lv_iconst (v := 0) F.1.1 F.1.2.1 d_Cel_crack_12 (by decide) ?_
      refine lv_istore F.1.1 F.1.2.1 d_Cel_crack_13 hl (by decide) rfl (fun ls hl => ?_)
      refine lv_iconst (v := 0) F.1.1 F.1.2.1 d_Cel_crack_15 (by decide) ?_
      refine lv_istore F.1.1 F.1.2.1 d_Cel_crack_16 hl (by decide) rfl (fun ls hl => ?_)
      have L18 : ∀ (u : Nat) (i : Nat) (sn : Int32) (H : Heap) (locs : List Loc) (ls : Array Slot), (i ≤ xC σ - 1) → (crk (spF σ) ap k (xC σ - 1 - i) i sn = crk (spF σ) ap k (xC σ - 1) 0 0) → xC σ - 1 - i < u → hw D L0 ad (celP D ad σ f0) H → va_S (fun q => L0 ≤ q) s.heap H locs → lv_has ls 6 [(0, .ref (ad 0)), (1, .int k), (2, .long ap), (4, .int sn), (5, .int (nI i))] → W p l e { frames := 2, cells := 0, slots := 0, locals := 45 } s m [.ref (ad 0), .int k, .long ap].toArray below meth c H locs 0 0 (MQ below (dt D L0 ad (some (.int (if k < 0 ∨ ap < 0 then -1 else crk (spF σ) ap k (xC σ - 1) 0 0))) (celP D ad σ f0)) [.ref (ad 0), .int k, .long ap].toArray s 0 0 (fun q => L0 ≤ q)) (F0 m 18 ls []) := by
        intro u
        induction u with
        | zero => intros; exact absurd ‹(_ : Nat) < 0› (Nat.not_lt_zero _)
        | succ u ih18 =>
          intro i sn H locs ls hi he hu hH hS hl
          refine lv_iload F.1.1 F.1.2.1 d_Cel_crack_18 (lv_at hl 4 rfl) ?_
          refine lv_aload_n F.1.1 F.1.2.1 d_Cel_crack_20 rfl (lv_at hl 0 rfl) ?_
          refine gX ck_Cel F (hH.to celE.symm) q_fl_Cel_23 (k := 1) (by decide) rfl d_Cel_crack_21 ?_
          refine hw_alen F hH (tysOf_obj D (j := 0) rfl) celP_2 (v := nI (xC σ)) rfl d_Cel_crack_24 ?_
          refine lv_iconst (v := 1) F.1.1 F.1.2.1 d_Cel_crack_25 (by decide) ?_
          refine lv_isub F.1.1 F.1.2.1 d_Cel_crack_26 ?_
          rw [show nI (xC σ) - 1 = nI (xC σ - 1) from by rw [show nI (xC σ) = nI ((xC σ - 1) + 1) from by congr 1; omega, nI_pred]]
          refine lv_icmp_ge (tgt := 59) F.1.1 F.1.2.1 d_Cel_crack_27 (by decide) (fun c27 => ?_) (fun c27 => ?_)
          · have hin := (nI_leI (by omega) (by omega)).mp c27
            refine lv_iconst (v := -1) F.1.1 F.1.2.1 d_Cel_crack_59 (by decide) ?_
            exact hw_iret F hr hlocks hH hS d_Cel_crack_60 (by rw [if_neg (fun q => q.elim c1 (fun z => absurd z (Int64.not_lt.mpr c7))), ← he, show xC σ - 1 - i = 0 by omega]; rfl) rfl
          · have hin : i < xC σ - 1 := by
              rcases Nat.lt_or_ge (i) (xC σ - 1) with q | q
              · exact q
              · exact absurd (nI_le q (by omega)) c27
            refine lv_aload_n F.1.1 F.1.2.1 d_Cel_crack_30 rfl (lv_at hl 0 rfl) ?_
            refine lv_iload F.1.1 F.1.2.1 d_Cel_crack_31 (lv_at hl 4 rfl) ?_
            refine hw_call1 (hw_runV F hL hS hH hl (c_Cel_stepBehind l D L0 ad σ f0 hX i (by omega)) ck_Cel (hasO_o celE) rfl q_ml_Cel_170 q_im_Cel_stepBehind q_se_Cel_stepBehind q_in_Cel q_co_Cel_stepBehind rfl (k := 1) ⟨rfl, rfl, by decide +kernel, ⟨Nat.le_of_ble_eq_true rfl, Nat.le_of_ble_eq_true rfl⟩, Nat.le_of_ble_eq_true rfl⟩ rfl d_Cel_crack_33 ⟨Nat.le_of_ble_eq_true rfl, Nat.le_of_ble_eq_true rfl⟩) hS (fun H locs hH hS => ?_)
            refine lv_lload_n F.1.1 F.1.2.1 d_Cel_crack_36 rfl (lv_at hl 2 rfl) ?_
            refine W.lcmp F.1.1 F.1.2.1 d_Cel_crack_37 ?_
            refine lv_if_le (tgt := 53) F.1.1 F.1.2.1 d_Cel_crack_38 (by decide) (fun c38 => ?_) (fun c38 => ?_)
            · rw [lg_cmp_le] at c38
              refine lv_iinc F.1.1 F.1.2.1 d_Cel_crack_53 hl (k := 4) rfl rfl (by decide) rfl (fun ls hl => ?_)
              refine lv_goto (tgt := 18) F.1.1 F.1.2.1 d_Cel_crack_56 (by decide) ?_
              refine ih18 (i + 1) sn H locs ls (by omega) (by rw [← he, crk_n hin (Int64.not_lt.mpr c38)]) (by omega) hH hS (lv_sub hl [1, 2, 3, 4, 0] ?_)
              show [_, _, _, _, _] = [_, _, _, _, _]
              rw [ii1]
              first | done | rfl
            · rw [lg_cmp_le] at c38
              refine lv_iload F.1.1 F.1.2.1 d_Cel_crack_41 (lv_at hl 3 rfl) ?_
              refine lv_iload_n F.1.1 F.1.2.1 d_Cel_crack_43 rfl (lv_at hl 1 rfl) ?_
              refine lv_icmp_ne (tgt := 50) F.1.1 F.1.2.1 d_Cel_crack_44 (by decide) (fun c44 => ?_) (fun c44 => ?_)
              · refine lv_iinc F.1.1 F.1.2.1 d_Cel_crack_50 hl (k := 3) rfl rfl (by decide) rfl (fun ls hl => ?_)
                refine lv_iinc F.1.1 F.1.2.1 d_Cel_crack_53 hl (k := 4) rfl rfl (by decide) rfl (fun ls hl => ?_)
                refine lv_goto (tgt := 18) F.1.1 F.1.2.1 d_Cel_crack_56 (by decide) ?_
                refine ih18 (i + 1) (sn + 1) H locs ls (by omega) (by rw [← he, crk_s hin (Int64.not_le.mp c38) c44]) (by omega) hH hS (lv_sub hl [2, 3, 4, 1, 0] ?_)
                show [_, _, _, _, _] = [_, _, _, _, _]
                rw [ii1]
                first | done | rfl
              · refine lv_iload F.1.1 F.1.2.1 d_Cel_crack_47 (lv_at hl 4 rfl) ?_
                exact hw_iret F hr hlocks hH hS d_Cel_crack_49 (by rw [if_neg (fun q => q.elim c1 (fun z => absurd z (Int64.not_lt.mpr c7))), ← he, crk_y hin (Int64.not_le.mp c38) c44]) rfl
      exact L18 (xC σ - 1 - 0 + 1) 0 0 s.heap [] ls (Nat.zero_le _) rfl (Nat.lt_succ_self _) hH hS (lv_sub hl [2, 3, 4, 1, 0] rfl)
    · rw [lg_cmp_ge] at c7
      refine lv_iconst (v := -1) F.1.1 F.1.2.1 d_Cel_crack_10 (by decide) ?_
      exact hw_iret F hr hlocks hH hS d_Cel_crack_11 (by rw [if_pos (Or.inr (Int64.not_le.mp c7))]) rfl
