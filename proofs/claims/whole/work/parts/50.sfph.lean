/-! CellSettling: surface(), phase(..) -/
def sfX (σ : Xs) : Xs := xsE (xnS σ) (sI (xE σ) 6 (nI (xSc σ + 1)))
def pfX (σ : Xs) (a b : Int32) (w : Int64) : Xs := xsE (xnP σ (phO a b w)) (sI (xE σ) 7 (nI (xPc σ + 1)))
def phP (σ : Xs) (a b : Int32) (w : Int64) : Prop := ¬ wi a.toInt64 0 (lN (xC σ) - 1) = 0 ∧ ¬ wi b.toInt64 0 (lN (xC σ) - 1) = 0 ∧ a ≤ b ∧ ¬ wi w 0 1000000000 = 0 ∧ xPc σ < 4
set_option maxHeartbeats 2000000 in
theorem c_Cel_surface (l : Launch) (D : va_G) (L0 : Nat) (ad : Nat → Nat) (σ : Xs) (f0 : Nat → Option va_E) (hX : xOK σ) : Met l y_Cel_surface (wd y_Cel_surface b_Cel_surface 1 (some .int)) { frames := 2, cells := 3, slots := 52, locals := 64 } (va_Pc [.ref (ad 0)] (cp D L0 ad (celP D ad σ f0))) (da D L0 (some (.int (cif (xSc σ < 4) (nI (xSc σ)) (-1)))) (fun ad' f' => (∀ x, ¬ (128 + 8 * xSc σ ≤ x ∧ x < 160) → ad' x = ad x) ∧ f' = celP D ad' (cif (xSc σ < 4) (sfX σ) σ) f0)) 3 52 (fun q => L0 ≤ q) := by
  refine hw_met (by decide) (Nat.le_of_ble_eq_true rfl) ?_
  intro p e s m below meth c ls F hr hlocks hnm hL hH hS hl
  have hC := hX.2.1
  have hCe := hX.2.2.2.1
  refine lv_aload_n F.1.1 F.1.2.1 d_Cel_surface_0 rfl (lv_at hl 0 rfl) ?_
  refine gI ck_Cel F (hH.to celE.symm) q_fl_Cel_120 (k := 6) (by decide) rfl d_Cel_surface_1 ?_
  refine lv_iconst (v := 4) F.1.1 F.1.2.1 d_Cel_surface_4 (by decide) ?_
  refine lv_icmp_lt (tgt := 10) F.1.1 F.1.2.1 d_Cel_surface_5 (by decide) (fun c5 => ?_) (fun c5 => ?_)
  · rw [hCe] at c5
    have hs : xSc σ < 4 := (nI_ltI (by omega) (by omega)).mp (show nI (xSc σ) < nI 4 from c5)
    have hbn : ∀ k, k < 8 → celP D ad σ f0 (128 + 8 * xSc σ + k) = none := fun k hk => by rw [cr4 σ (by omega) (by omega), show (128 + 8 * xSc σ + k - 128) / 8 = xSc σ by omega, if_neg (by omega)]
    refine lv_aload_n F.1.1 F.1.2.1 d_Cel_surface_10 rfl (lv_at hl 0 rfl) ?_
    refine gX ck_Cel F (hH.to celE.symm) q_fl_Cel_44 (k := 4) (by decide) rfl d_Cel_surface_11 ?_
    refine lv_aload_n F.1.1 F.1.2.1 d_Cel_surface_14 rfl (lv_at hl 0 rfl) ?_
    refine gI ck_Cel F (hH.to celE.symm) q_fl_Cel_120 (k := 6) (by decide) rfl d_Cel_surface_15 ?_
    refine hw_obj (C := R_Sur) (T := T_Sur) (N := 2) (ci := 3) F hH hS hL ck_Sur.2.1 v_Sur ck_Sur.2.2.1 rfl q_kl_Cel_42 q_mk_Sur q_in_Sur (128 + 8 * xSc σ) (hbn 0 (by omega)) (fs := [.null, .null]) (fun j hj => by rcases (show j = 0 ∨ j = 1 by omega) with rfl | rfl <;> rfl) (Nat.le_of_ble_eq_true rfl) (Nat.le_of_ble_eq_true rfl) d_Cel_surface_18 (fun ad1 H hx1 hH hS => ?_)
    replace hH := hH.to (obT_0 (D := D) (ad := ad1) (sh := shSur))
    refine lv_dup F.1.1 F.1.2.1 d_Cel_surface_21 rfl ?_
    refine hw_callA (hw_runIN (n := 0) F hL hS hH hl (c_Sur_init l D L0 ad1 (128 + 8 * xSc σ) (celP D ad σ f0) (fun k hk => by rw [Nat.add_assoc]; exact hbn (1 + k) (by omega))) q_mn_Cel_123 q_im_Sur_init q_in_Sur q_co_Sur_init rfl rfl ⟨rfl, rfl, by decide +kernel, ⟨Nat.le_of_ble_eq_true rfl, Nat.le_of_ble_eq_true rfl⟩, Nat.le_of_ble_eq_true rfl⟩ rfl d_Cel_surface_22 ⟨Nat.le_of_ble_eq_true rfl, Nat.le_of_ble_eq_true rfl⟩) hS (fun ad2 f2 H locs hB hH hS => ?_)
    obtain ⟨hx2, rfl⟩ := hB
    have hx : ∀ x, ¬ (128 + 8 * xSc σ ≤ x ∧ x < 160) → ad2 x = ad x := fun x hx => (hx2 x (by omega)).trans (hx1 x (by omega))
    refine hw_aastA (r := 5) (r2 := 128 + 8 * xSc σ) F hH hS (hx 5 (by omega)) (hx2 _ (by omega)) ((obP_out (Or.inl (by omega))).trans celP_5) obP_o (j := 2) rfl rfl (by rw [hCe]; exact vp_in_nI (by omega) (by omega)) d_Cel_surface_25 (fun H locs hH hS => ?_)
    replace hH := hH.to (by rw [hCe, nI_clamp (by omega), rfA_ad (ad' := ad2) (fun i hi => hx _ (by omega)), rfA_up, celP_ad (ad' := ad2) hX.1.2 hC hX.2.2.1 (fun x hh => hx x (by omega)), cel_nS hs])
    refine lv_aload_n F.1.1 F.1.2.1 d_Cel_surface_26 rfl (lv_at hl 0 rfl) ?_
    refine lv_dup F.1.1 F.1.2.1 d_Cel_surface_27 rfl ?_
    refine gIa (hx 0 (by omega)) ck_Cel F (hH.to celE.symm) q_fl_Cel_120 (k := 6) (by decide) rfl d_Cel_surface_28 ?_
    refine lv_iconst (v := 1) F.1.1 F.1.2.1 d_Cel_surface_31 (by decide) ?_
    refine lv_iadd F.1.1 F.1.2.1 d_Cel_surface_32 ?_
    refine pIa (hx 0 (by omega)) ck_Cel F (hH.to celE.symm) hS q_fl_Cel_120 (k := 6) (by decide) rfl rfl rfl d_Cel_surface_33 (fun H locs hH hS => ?_)
    replace hH := hH.to cel_E
    refine lv_aload_n F.1.1 F.1.2.1 d_Cel_surface_36 rfl (lv_at hl 0 rfl) ?_
    refine gIa (hx 0 (by omega)) ck_Cel F (hH.to celE.symm) q_fl_Cel_120 (k := 6) (by decide) rfl d_Cel_surface_37 ?_
    refine lv_iconst (v := 1) F.1.1 F.1.2.1 d_Cel_surface_40 (by decide) ?_
    refine lv_isub F.1.1 F.1.2.1 d_Cel_surface_41 ?_
    refine hw_iretA F hr hlocks hH hS d_Cel_surface_42 ⟨hx, ?_⟩ ?_
    · rw [cif_t hs]
      show celP D ad2 (xsE (xnS σ) (sI (xE σ) 6 (oI (xE σ) 6 + 1))) f0 = _
      rw [hCe, nI_1]; rfl
    · rw [cif_t hs]
      show oI (xE σ) 6 + 1 - 1 = _
      rw [hCe]; exact Int32.add_sub_cancel _ _
  · rw [hCe] at c5
    have hs : ¬ xSc σ < 4 := fun q => c5 (show nI (xSc σ) < nI 4 from nI_lt q (by omega))
    refine W.widen (k := 3) (n := 52) (by omega) (by omega) ?_
    refine lv_iconst (v := -1) F.1.1 F.1.2.1 d_Cel_surface_8 (by decide) ?_
    exact hw_iretA F hr hlocks hH hS d_Cel_surface_9 ⟨fun _ _ => rfl, by rw [cif_f hs]⟩ (cif_f hs).symm
set_option maxHeartbeats 2000000 in
theorem c_Cel_phase (l : Launch) (D : va_G) (L0 : Nat) (ad : Nat → Nat) (σ : Xs) (f0 : Nat → Option va_E) (hX : xOK σ) (a b : Int32) (w : Int64) : Met l y_Cel_phase (wd y_Cel_phase b_Cel_phase 5 (some .int)) { frames := 2, cells := 1, slots := 3, locals := 64 } (va_Pc [.ref (ad 0), .int a, .int b, .long w] (cp D L0 ad (celP D ad σ f0))) (da D L0 (some (.int (cif (phP σ a b w) (nI (xPc σ)) (-1)))) (fun ad' f' => (∀ x, ¬ (160 + 8 * xPc σ ≤ x ∧ x < 192) → ad' x = ad x) ∧ f' = celP D ad' (cif (phP σ a b w) (pfX σ a b w) σ) f0)) 1 3 (fun q => L0 ≤ q) := by
  refine hw_met (by decide) (Nat.le_of_ble_eq_true rfl) ?_
  intro p e s m below meth c ls F hr hlocks hnm hL hH hS hl
  have hC := hX.2.2.1
  have hC8 := hX.1
  have hCe := hX.2.2.2.2.1
  have hno : ∀ (H : Heap) (locs : List Loc) (ls : Array Slot) (pc : Nat), (decode b_Cel_phase pc = .ok (.iconst (-1), 1)) → (decode b_Cel_phase (pc + 1) = .ok (.ireturn, 1)) → hw D L0 ad (celP D ad σ f0) H → va_S (fun q => L0 ≤ q) s.heap H locs → ¬ phP σ a b w → W p l e { frames := 2, cells := 1, slots := 3, locals := 64 } s m [Value.ref (ad 0), .int a, .int b, .long w].toArray below meth c H locs 0 0 (MQ below (da D L0 (some (.int (cif (phP σ a b w) (nI (xPc σ)) (-1)))) (fun ad' f' => (∀ x, ¬ (160 + 8 * xPc σ ≤ x ∧ x < 192) → ad' x = ad x) ∧ f' = celP D ad' (cif (phP σ a b w) (pfX σ a b w) σ) f0)) [Value.ref (ad 0), .int a, .int b, .long w].toArray s 1 3 (fun q => L0 ≤ q)) (F0 m pc ls []) := by
    intro H locs ls pc hd1 hd2 hH hS hq
    refine W.widen (k := 1) (n := 3) (by omega) (by omega) ?_
    refine lv_iconst (v := -1) F.1.1 F.1.2.1 hd1 (by decide) ?_
    exact hw_iretA F hr hlocks hH hS hd2 ⟨fun _ _ => rfl, by rw [cif_f hq]⟩ (cif_f hq).symm
  refine lv_aload_n F.1.1 F.1.2.1 d_Cel_phase_0 rfl (lv_at hl 0 rfl) ?_
  refine lv_iload_n F.1.1 F.1.2.1 d_Cel_phase_1 rfl (lv_at hl 1 rfl) ?_
  refine hw_call1 (hw_runV F hL hS hH hl (c_Cel_columnAt l D L0 ad σ f0 hX _) ck_Cel (hasO_o celE) rfl q_ml_Cel_75 q_im_Cel_columnAt q_se_Cel_columnAt q_in_Cel q_co_Cel_columnAt rfl (k := 1) ⟨rfl, rfl, by decide +kernel, ⟨Nat.le_of_ble_eq_true rfl, Nat.le_of_ble_eq_true rfl⟩, Nat.le_of_ble_eq_true rfl⟩ rfl d_Cel_phase_2 ⟨Nat.le_of_ble_eq_true rfl, Nat.le_of_ble_eq_true rfl⟩) hS (fun H locs hH hS => ?_)
  by_cases ha0 : wi a.toInt64 0 (lN (xC σ) - 1) = 0
  · refine W_top (if_pos ha0) ?_
    refine lv_ifnullN (tgt := 21) F.1.1 F.1.2.1 d_Cel_phase_5 (by decide) ?_
    exact hno _ _ _ 21 d_Cel_phase_21 d_Cel_phase_22 hH hS (fun q => q.1 ha0)
  refine W_top (if_neg ha0) ?_
  refine lv_ifnull F.1.1 F.1.2.1 d_Cel_phase_5 ?_
  refine lv_aload_n F.1.1 F.1.2.1 d_Cel_phase_8 rfl (lv_at hl 0 rfl) ?_
  refine lv_iload_n F.1.1 F.1.2.1 d_Cel_phase_9 rfl (lv_at hl 2 rfl) ?_
  refine hw_call1 (hw_runV F hL hS hH hl (c_Cel_columnAt l D L0 ad σ f0 hX _) ck_Cel (hasO_o celE) rfl q_ml_Cel_75 q_im_Cel_columnAt q_se_Cel_columnAt q_in_Cel q_co_Cel_columnAt rfl (k := 1) ⟨rfl, rfl, by decide +kernel, ⟨Nat.le_of_ble_eq_true rfl, Nat.le_of_ble_eq_true rfl⟩, Nat.le_of_ble_eq_true rfl⟩ rfl d_Cel_phase_10 ⟨Nat.le_of_ble_eq_true rfl, Nat.le_of_ble_eq_true rfl⟩) hS (fun H locs hH hS => ?_)
  by_cases hb0 : wi b.toInt64 0 (lN (xC σ) - 1) = 0
  · refine W_top (if_pos hb0) ?_
    refine lv_ifnullN (tgt := 21) F.1.1 F.1.2.1 d_Cel_phase_13 (by decide) ?_
    exact hno _ _ _ 21 d_Cel_phase_21 d_Cel_phase_22 hH hS (fun q => q.2.1 hb0)
  refine W_top (if_neg hb0) ?_
  refine lv_ifnull F.1.1 F.1.2.1 d_Cel_phase_13 ?_
  refine lv_iload_n F.1.1 F.1.2.1 d_Cel_phase_16 rfl (lv_at hl 1 rfl) ?_
  refine lv_iload_n F.1.1 F.1.2.1 d_Cel_phase_17 rfl (lv_at hl 2 rfl) ?_
  refine lv_icmp_le (tgt := 23) F.1.1 F.1.2.1 d_Cel_phase_18 (by decide) (fun c18 => ?_) (fun c18 => ?_)
  rotate_left
  · exact hno _ _ _ 21 d_Cel_phase_21 d_Cel_phase_22 hH hS (fun q => c18 q.2.2.1)
  refine lv_lload_n F.1.1 F.1.2.1 d_Cel_phase_23 rfl (lv_at hl 3 rfl) ?_
  refine lv_lconst (v := 0) F.1.1 F.1.2.1 d_Cel_phase_24 (by decide) ?_
  refine lv_ldc2 F.1.1 F.1.2.1 F.1.2.2.2.1 (F.1.2.2.2.2 _ q_cl_Cel_98) d_Cel_phase_25 ?_
  refine hw_call1 (hw_runS F hL hS hH hl (c_Cel_isWithin l D L0 ad _ _ _ _) q_ml_Cel_11 q_st_Cel_isWithin q_in_Cel q_co_Cel_isWithin rfl (k := 3) ⟨rfl, rfl, by decide +kernel, ⟨Nat.le_of_ble_eq_true rfl, Nat.le_of_ble_eq_true rfl⟩, Nat.le_of_ble_eq_true rfl⟩ rfl d_Cel_phase_28 ⟨Nat.le_of_ble_eq_true rfl, Nat.le_of_ble_eq_true rfl⟩) hS (fun H locs hH hS => ?_)
  refine lv_if_eq (tgt := 42) F.1.1 F.1.2.1 d_Cel_phase_31 (by decide) (fun c31 => ?_) (fun c31 => ?_)
  · exact hno _ _ _ 42 d_Cel_phase_42 d_Cel_phase_43 hH hS (fun q => q.2.2.2.1 c31)
  refine lv_aload_n F.1.1 F.1.2.1 d_Cel_phase_34 rfl (lv_at hl 0 rfl) ?_
  refine gI ck_Cel F (hH.to celE.symm) q_fl_Cel_154 (k := 7) (by decide) rfl d_Cel_phase_35 ?_
  refine lv_iconst (v := 4) F.1.1 F.1.2.1 d_Cel_phase_38 (by decide) ?_
  refine lv_icmp_lt (tgt := 44) F.1.1 F.1.2.1 d_Cel_phase_39 (by decide) (fun c39 => ?_) (fun c39 => ?_)
  rotate_left
  · rw [hCe] at c39
    exact hno _ _ _ 42 d_Cel_phase_42 d_Cel_phase_43 hH hS (fun q => c39 (show nI (xPc σ) < nI 4 from nI_lt q.2.2.2.2 (by omega)))
  rw [hCe] at c39
  have hs : xPc σ < 4 := (nI_ltI (by omega) (by omega)).mp (show nI (xPc σ) < nI 4 from c39)
  have hP : phP σ a b w := ⟨ha0, hb0, c18, c31, hs⟩
  have hbn : ∀ k, k < 8 → celP D ad σ f0 (160 + 8 * xPc σ + k) = none := fun k hk => by rw [cr5 σ (by omega) (by omega), show (160 + 8 * xPc σ + k - 160) / 8 = xPc σ by omega, if_neg (by omega)]
  refine lv_aload_n F.1.1 F.1.2.1 d_Cel_phase_44 rfl (lv_at hl 0 rfl) ?_
  refine gX ck_Cel F (hH.to celE.symm) q_fl_Cel_50 (k := 5) (by decide) rfl d_Cel_phase_45 ?_
  refine lv_aload_n F.1.1 F.1.2.1 d_Cel_phase_48 rfl (lv_at hl 0 rfl) ?_
  refine gI ck_Cel F (hH.to celE.symm) q_fl_Cel_154 (k := 7) (by decide) rfl d_Cel_phase_49 ?_
  refine hw_obj (C := R_Pha) (T := T_Pha) (N := 3) (ci := 2) F hH hS hL ck_Pha.2.1 v_Pha ck_Pha.2.2.1 rfl q_kl_Cel_48 q_mk_Pha q_in_Pha (160 + 8 * xPc σ) (hbn 0 (by omega)) (fs := [.int 0, .int 0, .long 0]) (fun j hj => by rcases (show j = 0 ∨ j = 1 ∨ j = 2 by omega) with rfl | rfl | rfl <;> rfl) (Nat.le_of_ble_eq_true rfl) (Nat.le_of_ble_eq_true rfl) d_Cel_phase_52 (fun ad1 H hx1 hH hS => ?_)
  replace hH := hH.to (obT_0 (D := D) (ad := ad1) (sh := shPha))
  replace hH := hH.to (obT_num (j := 0) rfl (Or.inl rfl))
  replace hH := hH.to (obT_num (j := 1) rfl (Or.inl rfl))
  replace hH := hH.to (obT_num (j := 2) rfl (Or.inr rfl))
  replace hH := hH.to obT_end
  refine lv_dup F.1.1 F.1.2.1 d_Cel_phase_55 rfl ?_
  refine lv_iload_n F.1.1 F.1.2.1 d_Cel_phase_56 rfl (lv_at hl 1 rfl) ?_
  refine lv_iload_n F.1.1 F.1.2.1 d_Cel_phase_57 rfl (lv_at hl 2 rfl) ?_
  refine lv_lload_n F.1.1 F.1.2.1 d_Cel_phase_58 rfl (lv_at hl 3 rfl) ?_
  refine hw_callA (hw_runI (n := 3) F hL hS hH hl (c_Pha_init l D L0 ad1 (160 + 8 * xPc σ) (celP D ad σ f0) a b w) q_ml_Cel_157 q_im_Pha_init q_in_Pha q_co_Pha_init rfl rfl ⟨rfl, rfl, by decide +kernel, ⟨Nat.le_of_ble_eq_true rfl, Nat.le_of_ble_eq_true rfl⟩, Nat.le_of_ble_eq_true rfl⟩ rfl d_Cel_phase_59 ⟨Nat.le_of_ble_eq_true rfl, Nat.le_of_ble_eq_true rfl⟩) hS (fun ad2 f2 H locs hB hH hS => ?_)
  obtain ⟨rfl, rfl⟩ := hB
  have hx : ∀ x, ¬ (160 + 8 * xPc σ ≤ x ∧ x < 192) → ad2 x = ad x := fun x hx => hx1 x (by omega)
  refine hw_aastA (r := 6) (r2 := 160 + 8 * xPc σ) F hH hS (hx 6 (by omega)) rfl ((obP_out (Or.inl (by omega))).trans celP_6) obP_o (j := 3) rfl rfl (by rw [hCe]; exact vp_in_nI (by omega) (by omega)) d_Cel_phase_62 (fun H locs hH hS => ?_)
  replace hH := hH.to (by rw [hCe, nI_clamp (by omega), rfA_ad (ad' := ad2) (fun i hi => hx _ (by omega)), rfA_up, celP_ad (ad' := ad2) hX.1.2 hX.2.1 hC (fun x hh => hx x (by have := hX.2.1; omega)), cel_nP hs])
  refine lv_aload_n F.1.1 F.1.2.1 d_Cel_phase_63 rfl (lv_at hl 0 rfl) ?_
  refine lv_dup F.1.1 F.1.2.1 d_Cel_phase_64 rfl ?_
  refine gIa (hx 0 (by omega)) ck_Cel F (hH.to celE.symm) q_fl_Cel_154 (k := 7) (by decide) rfl d_Cel_phase_65 ?_
  refine lv_iconst (v := 1) F.1.1 F.1.2.1 d_Cel_phase_68 (by decide) ?_
  refine lv_iadd F.1.1 F.1.2.1 d_Cel_phase_69 ?_
  refine pIa (hx 0 (by omega)) ck_Cel F (hH.to celE.symm) hS q_fl_Cel_154 (k := 7) (by decide) rfl rfl rfl d_Cel_phase_70 (fun H locs hH hS => ?_)
  replace hH := hH.to cel_E
  refine lv_aload_n F.1.1 F.1.2.1 d_Cel_phase_73 rfl (lv_at hl 0 rfl) ?_
  refine gIa (hx 0 (by omega)) ck_Cel F (hH.to celE.symm) q_fl_Cel_154 (k := 7) (by decide) rfl d_Cel_phase_74 ?_
  refine lv_iconst (v := 1) F.1.1 F.1.2.1 d_Cel_phase_77 (by decide) ?_
  refine lv_isub F.1.1 F.1.2.1 d_Cel_phase_78 ?_
  refine hw_iretA F hr hlocks hH hS d_Cel_phase_79 ⟨hx, ?_⟩ ?_
  · rw [cif_t hP]
    show celP D ad2 (xsE (xnP σ (phO a b w)) (sI (xE σ) 7 (oI (xE σ) 7 + 1))) f0 = _
    rw [hCe, nI_1]; rfl
  · rw [cif_t hP]
    show oI (xE σ) 7 + 1 - 1 = _
    rw [hCe]; exact Int32.add_sub_cancel _ _
