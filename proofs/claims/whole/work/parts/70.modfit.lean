/-! CellSettlingModel: isBetter, fit; printed by wip/gen/modg.py -/
section MF
variable {ρ : Xs} {o q y : Ob} {C N k r i cn : Nat} {v w : Int32}
theorem fa_pre (hF : Fr C N ρ o) : gd (sF ρ k v) ∧ oI (sA o 3 (upd (oA o 3) k v)) 4 = nI (tc (xT (sF ρ k v))) ∧ Hrel (sF ρ k v) (sA o 3 (upd (oA o 3) k v)) (tc (xT (sF ρ k v))) := by
  refine ⟨(hF.2.1.kp kp_sF).1, hF.2.2.1.2.2.1, ((hF.2.2.1.kp kp_sF).km keepM.rf).Hrel ?_⟩
  intro j hj
  show upd (oA o 3) k v j = oI (if j = k then sI (xK ρ k) 4 v else xK ρ j) 4
  by_cases e : j = k
  · subst e; rw [pk_us, if_pos rfl]; rfl
  · rw [pk_un e, if_neg e]; exact hF.2.2.2.1 j hj
theorem wi3 {x : Int32} : wi x.toInt64 0 3000 = 0 ↔ (x < 0 ∨ ¬ x ≤ 3000) := by
  have h0 : (0 : Int32).toInt = 0 := by decide
  have h1 : (3000 : Int32).toInt = 3000 := by decide
  have h2 : (0 : Int64).toInt = 0 := by decide
  have h3 : (3000 : Int64).toInt = 3000 := by decide
  rw [wi_0, Int64_le, Int64_le, i2l_toInt, Int32.lt_iff_toInt_lt, Int32.le_iff_toInt_le, h0, h1, h2, h3]
  omega
theorem bt_o (h : wi (oA o 3 k + w).toInt64 0 3000 = 0) : mBt o C N k w = (false, o) := if_pos h
theorem bt_y (h : ¬ wi (oA o 3 k + w).toInt64 0 3000 = 0) (h2 : oJ (mFa o C N k (oA o 3 k + w)) 21 < oJ o 21) : mBt o C N k w = (true, mFa o C N k (oA o 3 k + w)) := (if_neg h).trans (if_pos h2)
theorem bt_n (h : ¬ wi (oA o 3 k + w).toInt64 0 3000 = 0) (h2 : ¬ oJ (mFa o C N k (oA o 3 k + w)) 21 < oJ o 21) : mBt o C N k w = (false, mFa (mFa o C N k (oA o 3 k + w)) C N k (oA o 3 k)) := (if_neg h).trans (if_neg h2)
theorem bif1 {b : Bool} (h : ¬ (if b = true then (1 : Int32) else 0) = 0) : b = true := by
  cases b
  · exact absurd rfl h
  · rfl
theorem bif0 {b : Bool} (h : (if b = true then (1 : Int32) else 0) = 0) : ¬ b = true := by
  cases b
  · exact Bool.false_ne_true
  · exact absurd h (by decide)
theorem bt_Fr (hk : k < 4) (hF : Fr C N ρ o) : ∃ ρ2, Fr C N ρ2 (mBt o C N k w).2 := by
  have F1 : Fr C N (sF ρ k (oA o 3 k + w)) (mFa o C N k (oA o 3 k + w)) := fa_Fr hF.1 hF.2.1 hF.2.2.1 (fun j hj _ => hF.2.2.2.1 j hj)
  by_cases h1 : wi (oA o 3 k + w).toInt64 0 3000 = 0
  · rw [bt_o h1]; exact ⟨ρ, hF⟩
  · by_cases h2 : oJ (mFa o C N k (oA o 3 k + w)) 21 < oJ o 21
    · rw [bt_y h1 h2]; exact ⟨_, F1⟩
    · rw [bt_n h1 h2]; exact ⟨_, fa_Fr F1.1 F1.2.1 F1.2.2.1 (fun j hj _ => F1.2.2.2.1 j hj)⟩
theorem lb2_1 (h : (mBt o C N k 50).1 = true) : mLb C N k 2 o = (true, (mBt o C N k 50).2) := by
  show (if (mBt o C N k 50).1 = true then (true, (mBt o C N k 50).2) else mLb C N k 1 (mBt o C N k 50).2) = _
  rw [if_pos h]
theorem lb1_s : mLb C N k 1 o = (if (mBt o C N k (-50)).1 = true then (true, (mBt o C N k (-50)).2) else (false, (mBt o C N k (-50)).2)) := rfl
theorem lb2_2 (h : ¬ (mBt o C N k 50).1 = true) (h2 : (mBt (mBt o C N k 50).2 C N k (-50)).1 = true) : mLb C N k 2 o = (true, (mBt (mBt o C N k 50).2 C N k (-50)).2) := by
  show (if (mBt o C N k 50).1 = true then (true, (mBt o C N k 50).2) else mLb C N k 1 (mBt o C N k 50).2) = _
  rw [if_neg h, lb1_s, if_pos h2]
theorem lb2_3 (h : ¬ (mBt o C N k 50).1 = true) (h2 : ¬ (mBt (mBt o C N k 50).2 C N k (-50)).1 = true) : mLb C N k 2 o = (false, (mBt (mBt o C N k 50).2 C N k (-50)).2) := by
  show (if (mBt o C N k 50).1 = true then (true, (mBt o C N k 50).2) else mLb C N k 1 (mBt o C N k 50).2) = _
  rw [if_neg h, lb1_s, if_neg h2]
theorem fk_1 (h : mLb C N k 2 (mFk C N q k).2 = (true, y)) : mFk C N q (k + 1) = (true, y) := by
  show ((mLb C N k 2 (mFk C N q k).2).1 || (mFk C N q k).1, (mLb C N k 2 (mFk C N q k).2).2) = _
  rw [h]; rfl
theorem fk_0 (h : mLb C N k 2 (mFk C N q k).2 = (false, y)) : mFk C N q (k + 1) = ((mFk C N q k).1, y) := by
  show ((mLb C N k 2 (mFk C N q k).2).1 || (mFk C N q k).1, (mLb C N k 2 (mFk C N q k).2).2) = _
  rw [h]; rfl
theorem fk_Fr {b : Bool} (h : mFk C N q (k + 1) = (b, y)) (hy : ∃ ρ2, Fr C N ρ2 y) : ∃ ρ2, Fr C N ρ2 (mFk C N q (k + 1)).2 := by rw [h]; exact hy
theorem fk_p {b : Bool} (h : mFk C N q (k + 1) = (b, y)) : (mFk C N q (k + 1)).2 = y := by rw [h]
theorem fk_q {b : Bool} (h : mFk C N q (k + 1) = (b, y)) : (mFk C N q (k + 1)).1 = b := by rw [h]
theorem frM_y (hi : i < r) (h : (mFk C N q 4).1 = true) : mFr C N (r - i) q cn = mFr C N (r - (i + 1)) (mFk C N q 4).2 (cn + 1) := by
  rw [show r - i = (r - (i + 1)) + 1 by omega]; exact if_pos h
theorem frM_n (hi : i < r) (h : ¬ (mFk C N q 4).1 = true) : mFr C N (r - i) q cn = ((mFk C N q 4).2, cn) := by
  rw [show r - i = (r - (i + 1)) + 1 by omega]; exact if_neg h
end MF
set_option maxHeartbeats 1000000 in
theorem c_Mod_isBetter (l : Launch) (D : va_G) (L0 : Nat) (ad : Nat → Nat) (β : Nat) (o : Ob) (f : Nat → Option va_E) (hA : hasO D ad β 6 shMod o f) (ρ : Xs) (C N : Nat) (hF : Fr C N ρ o) (k : Nat) (hk : k < 4) (w : Int32) : Met l y_Mod_isBetter (wd y_Mod_isBetter b_Mod_isBetter 6 (some .boolean)) { frames := 3, cells := 0, slots := 0, locals := 76 } (va_Pc [.ref (ad β), .int (nI k), .int w] (cp D L0 ad (f))) (dt D L0 ad (some (.int (if (mBt o C N k w).1 = true then 1 else 0))) (obP D ad β 6 shMod (mBt o C N k w).2 f)) 0 0 (fun q => L0 ≤ q) := by
  refine hw_met (by decide) (Nat.le_of_ble_eq_true rfl) ?_
  intro p e s m below meth c ls F hr hlocks hnm hL hH hS hl
  replace hH := hH.to hA.symm
  have F1 : Fr C N (sF ρ k (oA o 3 k + w)) (mFa o C N k (oA o 3 k + w)) := fa_Fr hF.1 hF.2.1 hF.2.2.1 (fun j hj _ => hF.2.2.2.1 j hj)
  refine lv_aload_n F.1.1 F.1.2.1 d_Mod_isBetter_0 rfl (lv_at hl 0 rfl) ?_
  refine gR ck_Mod F hH q_fl_Mod_13 (k := 3) (by decide) rfl (by decide) d_Mod_isBetter_1 ?_
  refine lv_iload_n F.1.1 F.1.2.1 d_Mod_isBetter_4 rfl (lv_at hl 1 rfl) ?_
  refine lA F hH rfl (vp_in_nI (by omega) (by omega)) d_Mod_isBetter_5 ?_
  rw [nI_clamp (show k < 2 ^ 31 by omega)]
  refine lv_istore_n F.1.1 F.1.2.1 d_Mod_isBetter_6 rfl hl (by decide) rfl (fun ls hl => ?_)
  refine lv_aload_n F.1.1 F.1.2.1 d_Mod_isBetter_7 rfl (lv_at hl 1 rfl) ?_
  refine gJ ck_Mod F hH q_fl_Mod_108 (k := 21) (by decide) rfl d_Mod_isBetter_8 ?_
  refine lv_lstore F.1.1 F.1.2.1 d_Mod_isBetter_11 hl (by decide) rfl (fun ls hl => ?_)
  refine lv_iload_n F.1.1 F.1.2.1 d_Mod_isBetter_13 rfl (lv_at hl 1 rfl) ?_
  refine lv_iload_n F.1.1 F.1.2.1 d_Mod_isBetter_14 rfl (lv_at hl 4 rfl) ?_
  refine lv_iadd F.1.1 F.1.2.1 d_Mod_isBetter_15 ?_
  refine lv_if_lt (tgt := 28) F.1.1 F.1.2.1 d_Mod_isBetter_16 (by decide) (fun c16 => ?_) (fun c16 => ?_)
  · refine lv_iconst (v := 0) F.1.1 F.1.2.1 d_Mod_isBetter_28 (by decide) ?_
    exact hw_zret F hr hlocks hH hS d_Mod_isBetter_29 (by first | decide | (split <;> decide) | (unfold cif; split <;> decide)) (by rw [bt_o (wi3.mpr (Or.inl c16))]; rfl) (by rw [bt_o (wi3.mpr (Or.inl c16))])
  · refine lv_iload_n F.1.1 F.1.2.1 d_Mod_isBetter_19 rfl (lv_at hl 1 rfl) ?_
    refine lv_iload_n F.1.1 F.1.2.1 d_Mod_isBetter_20 rfl (lv_at hl 4 rfl) ?_
    refine lv_iadd F.1.1 F.1.2.1 d_Mod_isBetter_21 ?_
    refine lv_sipush (v := 3000) F.1.1 F.1.2.1 d_Mod_isBetter_22 (by decide) ?_
    refine lv_icmp_le (tgt := 30) F.1.1 F.1.2.1 d_Mod_isBetter_25 (by decide) (fun c25 => ?_) (fun c25 => ?_)
    · refine lv_aload_n F.1.1 F.1.2.1 d_Mod_isBetter_30 rfl (lv_at hl 2 rfl) ?_
      refine gR ck_Mod F hH q_fl_Mod_13 (k := 3) (by decide) rfl (by decide) d_Mod_isBetter_31 ?_
      refine lv_iload_n F.1.1 F.1.2.1 d_Mod_isBetter_34 rfl (lv_at hl 3 rfl) ?_
      refine lv_iload_n F.1.1 F.1.2.1 d_Mod_isBetter_35 rfl (lv_at hl 1 rfl) ?_
      refine lv_iload_n F.1.1 F.1.2.1 d_Mod_isBetter_36 rfl (lv_at hl 4 rfl) ?_
      refine lv_iadd F.1.1 F.1.2.1 d_Mod_isBetter_37 ?_
      refine tA F hH hS rfl (vp_in_nI (by omega) (by omega)) d_Mod_isBetter_38 (fun H locs hH hS => ?_)
      rw [nI_clamp (show k < 2 ^ 31 by omega)] at hH
      refine lv_aload_n F.1.1 F.1.2.1 d_Mod_isBetter_39 rfl (lv_at hl 2 rfl) ?_
      refine hw_call0 (hw_runV F hL hS hH hl (c_Mod_doAnew l D L0 ad β (sA o 3 (upd (oA o 3) k (oA o 3 k + w))) _ obP_id (sF ρ k (oA o 3 k + w)) (fa_pre hF).1 (fa_pre hF).2.1 (fa_pre hF).2.2) ck_Mod obP_o rfl q_ml_Mod_121 q_im_Mod_doAnew q_se_Mod_doAnew q_in_Mod q_co_Mod_doAnew rfl (k := 0) ⟨rfl, rfl, by decide +kernel, ⟨Nat.le_of_ble_eq_true rfl, Nat.le_of_ble_eq_true rfl⟩, Nat.le_of_ble_eq_true rfl⟩ rfl d_Mod_isBetter_40 ⟨Nat.le_of_ble_eq_true rfl, Nat.le_of_ble_eq_true rfl⟩) hS (fun H locs hH hS => ?_)
      replace hH := hH.to (obP_obP.trans (congrArg (fun o => obP D ad β 6 shMod o f) (show mRep (sA o 3 (upd (oA o 3) k (oA o 3 k + w))) _ _ = mFa o C N k (oA o 3 k + w) from by rw [show xC (sF ρ k (oA o 3 k + w)) = C from hF.1.1, show tc (xT (sF ρ k (oA o 3 k + w))) = N from hF.1.2]; rfl)))
      refine lv_aload_n F.1.1 F.1.2.1 d_Mod_isBetter_43 rfl (lv_at hl 2 rfl) ?_
      refine gJ ck_Mod F hH q_fl_Mod_108 (k := 21) (by decide) rfl d_Mod_isBetter_44 ?_
      refine lv_lload F.1.1 F.1.2.1 d_Mod_isBetter_47 (lv_at hl 0 rfl) ?_
      refine W.lcmp F.1.1 F.1.2.1 d_Mod_isBetter_49 ?_
      refine lv_if_ge (tgt := 55) F.1.1 F.1.2.1 d_Mod_isBetter_50 (by decide) (fun c50 => ?_) (fun c50 => ?_)
      · rw [lg_cmp_ge] at c50
        refine lv_aload_n F.1.1 F.1.2.1 d_Mod_isBetter_55 rfl (lv_at hl 2 rfl) ?_
        refine gR ck_Mod F hH q_fl_Mod_13 (k := 3) (by decide) rfl (by decide) d_Mod_isBetter_56 ?_
        refine lv_iload_n F.1.1 F.1.2.1 d_Mod_isBetter_59 rfl (lv_at hl 3 rfl) ?_
        refine lv_iload_n F.1.1 F.1.2.1 d_Mod_isBetter_60 rfl (lv_at hl 1 rfl) ?_
        refine tA F hH hS rfl (vp_in_nI (by omega) (by omega)) d_Mod_isBetter_61 (fun H locs hH hS => ?_)
        rw [nI_clamp (show k < 2 ^ 31 by omega)] at hH
        refine lv_aload_n F.1.1 F.1.2.1 d_Mod_isBetter_62 rfl (lv_at hl 2 rfl) ?_
        refine hw_call0 (hw_runV F hL hS hH hl (c_Mod_doAnew l D L0 ad β (sA (mFa o C N k (oA o 3 k + w)) 3 (upd (oA (mFa o C N k (oA o 3 k + w)) 3) k (oA o 3 k))) _ obP_id (sF (sF ρ k (oA o 3 k + w)) k (oA o 3 k)) (fa_pre F1).1 (fa_pre F1).2.1 (fa_pre F1).2.2) ck_Mod obP_o rfl q_ml_Mod_121 q_im_Mod_doAnew q_se_Mod_doAnew q_in_Mod q_co_Mod_doAnew rfl (k := 0) ⟨rfl, rfl, by decide +kernel, ⟨Nat.le_of_ble_eq_true rfl, Nat.le_of_ble_eq_true rfl⟩, Nat.le_of_ble_eq_true rfl⟩ rfl d_Mod_isBetter_63 ⟨Nat.le_of_ble_eq_true rfl, Nat.le_of_ble_eq_true rfl⟩) hS (fun H locs hH hS => ?_)
        replace hH := hH.to (obP_obP.trans (congrArg (fun o => obP D ad β 6 shMod o f) (show mRep (sA (mFa o C N k (oA o 3 k + w)) 3 (upd (oA (mFa o C N k (oA o 3 k + w)) 3) k (oA o 3 k))) _ _ = mFa (mFa o C N k (oA o 3 k + w)) C N k (oA o 3 k) from by rw [show xC (sF (sF ρ k (oA o 3 k + w)) k (oA o 3 k)) = C from hF.1.1, show tc (xT (sF (sF ρ k (oA o 3 k + w)) k (oA o 3 k))) = N from hF.1.2]; rfl)))
        refine lv_iconst (v := 0) F.1.1 F.1.2.1 d_Mod_isBetter_66 (by decide) ?_
        exact hw_zret F hr hlocks hH hS d_Mod_isBetter_67 (by first | decide | (split <;> decide) | (unfold cif; split <;> decide)) (by rw [bt_n (fun q => (wi3.mp q).elim c16 (fun z => z c25)) (Int64.not_lt.mpr c50)]; rfl) (by rw [bt_n (fun q => (wi3.mp q).elim c16 (fun z => z c25)) (Int64.not_lt.mpr c50)])
      · rw [lg_cmp_ge] at c50
        refine lv_iconst (v := 1) F.1.1 F.1.2.1 d_Mod_isBetter_53 (by decide) ?_
        exact hw_zret F hr hlocks hH hS d_Mod_isBetter_54 (by first | decide | (split <;> decide) | (unfold cif; split <;> decide)) (by rw [bt_y (fun q => (wi3.mp q).elim c16 (fun z => z c25)) (Int64.not_le.mp c50)]; rfl) (by rw [bt_y (fun q => (wi3.mp q).elim c16 (fun z => z c25)) (Int64.not_le.mp c50)])
    · refine lv_iconst (v := 0) F.1.1 F.1.2.1 d_Mod_isBetter_28 (by decide) ?_
      exact hw_zret F hr hlocks hH hS d_Mod_isBetter_29 (by first | decide | (split <;> decide) | (unfold cif; split <;> decide)) (by rw [bt_o (wi3.mpr (Or.inr c25))]; rfl) (by rw [bt_o (wi3.mpr (Or.inr c25))])
set_option maxHeartbeats 1000000 in
theorem c_Mod_fit (l : Launch) (D : va_G) (L0 : Nat) (ad : Nat → Nat) (β : Nat) (o : Ob) (f : Nat → Option va_E) (hA : hasO D ad β 6 shMod o f) (ρ : Xs) (C N : Nat) (hF : Fr C N ρ o) (rounds : Int32) : Met l y_Mod_fit (wd y_Mod_fit b_Mod_fit 6 (some .int)) { frames := 4, cells := 0, slots := 0, locals := 101 } (va_Pc [.ref (ad β), .int rounds] (cp D L0 ad (f))) (dt D L0 ad (some (.int (if wi rounds.toInt64 1 5 = 0 then -1 else nI (mFr C N rounds.toNatClampNeg o 0).2))) (obP D ad β 6 shMod (if wi rounds.toInt64 1 5 = 0 then o else (mFr C N rounds.toNatClampNeg o 0).1) f)) 0 0 (fun q => L0 ≤ q) := by
  refine hw_met (by decide) (Nat.le_of_ble_eq_true rfl) ?_
  intro p e s m below meth c ls F hr hlocks hnm hL hH hS hl
  replace hH := hH.to hA.symm
  refine lv_iload_n F.1.1 F.1.2.1 d_Mod_fit_0 rfl (lv_at hl 1 rfl) ?_
  refine lv_i2l F.1.1 F.1.2.1 d_Mod_fit_1 rfl ?_
  refine lv_lconst (v := 1) F.1.1 F.1.2.1 d_Mod_fit_2 (by decide) ?_
  refine lv_ldc2 F.1.1 F.1.2.1 F.1.2.2.2.1 (F.1.2.2.2.2 _ q_cl_Mod_189) d_Mod_fit_3 ?_
  refine hw_call1 (hw_runS F hL hS hH hl (c_Mod_isIn l D L0 ad _ _ _ _) q_ml_Mod_84 q_st_Mod_isIn q_in_Mod q_co_Mod_isIn rfl (k := 3) ⟨rfl, rfl, by decide +kernel, ⟨Nat.le_of_ble_eq_true rfl, Nat.le_of_ble_eq_true rfl⟩, Nat.le_of_ble_eq_true rfl⟩ rfl d_Mod_fit_6 ⟨Nat.le_of_ble_eq_true rfl, Nat.le_of_ble_eq_true rfl⟩) hS (fun H locs hH hS => ?_)
  refine lv_if_ne (tgt := 14) F.1.1 F.1.2.1 d_Mod_fit_9 (by decide) (fun c9 => ?_) (fun c9 => ?_)
  · obtain ⟨r, hr5, rfl⟩ := ix15 c9
    refine lv_iconst (v := 0) F.1.1 F.1.2.1 d_Mod_fit_14 (by decide) ?_
    refine lv_istore_n F.1.1 F.1.2.1 d_Mod_fit_15 rfl hl (by decide) rfl (fun ls hl => ?_)
    refine lv_iconst (v := 1) F.1.1 F.1.2.1 d_Mod_fit_16 (by decide) ?_
    refine lv_istore_n F.1.1 F.1.2.1 d_Mod_fit_17 rfl hl (by decide) rfl (fun ls hl => ?_)
    refine lv_iconst (v := 0) F.1.1 F.1.2.1 d_Mod_fit_18 (by decide) ?_
    refine lv_istore F.1.1 F.1.2.1 d_Mod_fit_19 hl (by decide) rfl (fun ls hl => ?_)
    have L21 : ∀ (u : Nat) (i cn : Nat) (q : Ob) (b : Bool) (H : Heap) (locs : List Loc) (ls : Array Slot), (i ≤ r) → (∃ ρ2, Fr C N ρ2 q) → ((if b = true then mFr C N (r - i) q cn else (q, cn)) = mFr C N r o 0) → r - i < u → hw D L0 ad (obP D ad β 6 shMod q f) H → va_S (fun q => L0 ≤ q) s.heap H locs → lv_has ls 6 [(0, .ref (ad β)), (1, .int (nI r)), (2, .int (nI cn)), (3, .int (if b = true then 1 else 0)), (4, .int (nI i))] → W p l e { frames := 4, cells := 0, slots := 0, locals := 101 } s m [.ref (ad β), .int (nI r)].toArray below meth c H locs 0 0 (MQ below (dt D L0 ad (some (.int (if wi (nI r).toInt64 1 5 = 0 then -1 else nI (mFr C N (nI r).toNatClampNeg o 0).2))) (obP D ad β 6 shMod (if wi (nI r).toInt64 1 5 = 0 then o else (mFr C N (nI r).toNatClampNeg o 0).1) f)) [.ref (ad β), .int (nI r)].toArray s 0 0 (fun q => L0 ≤ q)) (F0 m 21 ls []) := by
      intro u
      induction u with
      | zero => intros; exact absurd ‹(_ : Nat) < 0› (Nat.not_lt_zero _)
      | succ u ih21 =>
        intro i cn q b H locs ls hi hFq he hu hH hS hl
        refine lv_iload F.1.1 F.1.2.1 d_Mod_fit_21 (lv_at hl 4 rfl) ?_
        refine lv_iload_n F.1.1 F.1.2.1 d_Mod_fit_23 rfl (lv_at hl 1 rfl) ?_
        refine lv_icmp_ge (tgt := 98) F.1.1 F.1.2.1 d_Mod_fit_24 (by decide) (fun c24 => ?_) (fun c24 => ?_)
        · have hin := (nI_leI (by omega) (by omega)).mp c24
          have hend : (q, cn) = mFr C N r o 0 := by rw [← he, show r - i = 0 by omega]; cases b <;> rfl
          refine lv_iload_n F.1.1 F.1.2.1 d_Mod_fit_98 rfl (lv_at hl 2 rfl) ?_
          exact hw_iret F hr hlocks hH hS d_Mod_fit_99 (by rw [if_neg c9, nI_clamp (by omega), ← hend]) (by rw [if_neg c9, nI_clamp (by omega), ← hend])
        · have hin : i < r := by
            rcases Nat.lt_or_ge i r with q | q
            · exact q
            · exact absurd (nI_le q (by omega)) c24
          refine lv_iload_n F.1.1 F.1.2.1 d_Mod_fit_27 rfl (lv_at hl 3 rfl) ?_
          refine lv_if_eq (tgt := 98) F.1.1 F.1.2.1 d_Mod_fit_28 (by decide) (fun c28 => ?_) (fun c28 => ?_)
          · have hend : (q, cn) = mFr C N r o 0 := by rw [← he, if_neg (bif0 c28)]
            refine lv_iload_n F.1.1 F.1.2.1 d_Mod_fit_98 rfl (lv_at hl 2 rfl) ?_
            exact hw_iret F hr hlocks hH hS d_Mod_fit_99 (by rw [if_neg c9, nI_clamp (by omega), ← hend]) (by rw [if_neg c9, nI_clamp (by omega), ← hend])
          · rw [if_pos (bif1 c28)] at he
            refine lv_iconst (v := 0) F.1.1 F.1.2.1 d_Mod_fit_31 (by decide) ?_
            refine lv_istore_n F.1.1 F.1.2.1 d_Mod_fit_32 rfl hl (by decide) rfl (fun ls hl => ?_)
            refine lv_iconst (v := 0) F.1.1 F.1.2.1 d_Mod_fit_33 (by decide) ?_
            refine lv_istore F.1.1 F.1.2.1 d_Mod_fit_34 hl (by decide) rfl (fun ls hl => ?_)
            have L36 : ∀ (u : Nat) (k : Nat) (H : Heap) (locs : List Loc) (ls : Array Slot), (k ≤ 4) → (∃ ρ2, Fr C N ρ2 (mFk C N q k).2) → 4 - k < u → hw D L0 ad (obP D ad β 6 shMod (mFk C N q k).2 f) H → va_S (fun q => L0 ≤ q) s.heap H locs → lv_has ls 6 [(0, .ref (ad β)), (1, .int (nI r)), (2, .int (nI cn)), (3, .int (if (mFk C N q k).1 = true then 1 else 0)), (4, .int (nI i)), (5, .int (nI k))] → W p l e { frames := 4, cells := 0, slots := 0, locals := 101 } s m [.ref (ad β), .int (nI r)].toArray below meth c H locs 0 0 (MQ below (dt D L0 ad (some (.int (if wi (nI r).toInt64 1 5 = 0 then -1 else nI (mFr C N (nI r).toNatClampNeg o 0).2))) (obP D ad β 6 shMod (if wi (nI r).toInt64 1 5 = 0 then o else (mFr C N (nI r).toNatClampNeg o 0).1) f)) [.ref (ad β), .int (nI r)].toArray s 0 0 (fun q => L0 ≤ q)) (F0 m 36 ls []) := by
              intro u
              induction u with
              | zero => intros; exact absurd ‹(_ : Nat) < 0› (Nat.not_lt_zero _)
              | succ u ih36 =>
                intro k H locs ls hk hFk hu hH hS hl
                refine lv_iload F.1.1 F.1.2.1 d_Mod_fit_36 (lv_at hl 5 rfl) ?_
                refine lv_iconst (v := 4) F.1.1 F.1.2.1 d_Mod_fit_38 (by decide) ?_
                refine lv_icmp_ge (tgt := 80) F.1.1 F.1.2.1 d_Mod_fit_39 (by decide) (fun c39 => ?_) (fun c39 => ?_)
                · have hin4 : 4 ≤ k := (nI_leI (by omega) (by omega)).mp (show nI 4 ≤ nI k from c39)
                  have hk4 : k = 4 := by omega
                  subst hk4
                  refine lv_iload_n F.1.1 F.1.2.1 d_Mod_fit_80 rfl (lv_at hl 2 rfl) ?_
                  refine lv_iload_n F.1.1 F.1.2.1 d_Mod_fit_81 rfl (lv_at hl 3 rfl) ?_
                  refine lv_if_eq (tgt := 89) F.1.1 F.1.2.1 d_Mod_fit_82 (by decide) (fun c82 => ?_) (fun c82 => ?_)
                  · have hb82 := bif0 c82
                    refine lv_iconst (v := 0) F.1.1 F.1.2.1 d_Mod_fit_89 (by decide) ?_
                    refine lv_iadd F.1.1 F.1.2.1 d_Mod_fit_90 ?_
                    refine lv_istore_n F.1.1 F.1.2.1 d_Mod_fit_91 rfl hl (by decide) rfl (fun ls hl => ?_)
                    refine lv_iinc F.1.1 F.1.2.1 d_Mod_fit_92 hl (k := 4) rfl rfl (by decide) rfl (fun ls hl => ?_)
                    refine lv_goto (tgt := 21) F.1.1 F.1.2.1 d_Mod_fit_95 (by decide) ?_
                    refine ih21 (i + 1) cn _ false H locs ls (by omega) hFk (by rw [if_neg Bool.false_ne_true, ← he, frM_n hin hb82]) (by omega) hH hS (lv_sub hl [2, 3, 1, 4, 0] ?_)
                    show [_, _, _, _, _] = [_, _, _, _, _]
                    rw [ii1, if_neg hb82, if_neg Bool.false_ne_true, Int32.add_zero]
                    first | done | rfl
                  · have hb82 := bif1 c82
                    refine lv_iconst (v := 1) F.1.1 F.1.2.1 d_Mod_fit_85 (by decide) ?_
                    refine lv_goto (tgt := 90) F.1.1 F.1.2.1 d_Mod_fit_86 (by decide) ?_
                    refine lv_iadd F.1.1 F.1.2.1 d_Mod_fit_90 ?_
                    refine lv_istore_n F.1.1 F.1.2.1 d_Mod_fit_91 rfl hl (by decide) rfl (fun ls hl => ?_)
                    refine lv_iinc F.1.1 F.1.2.1 d_Mod_fit_92 hl (k := 4) rfl rfl (by decide) rfl (fun ls hl => ?_)
                    refine lv_goto (tgt := 21) F.1.1 F.1.2.1 d_Mod_fit_95 (by decide) ?_
                    refine ih21 (i + 1) (cn + 1) _ true H locs ls (by omega) hFk (by rw [if_pos rfl, ← he, frM_y hin hb82]) (by omega) hH hS (lv_sub hl [2, 3, 1, 4, 0] ?_)
                    show [_, _, _, _, _] = [_, _, _, _, _]
                    rw [ii1, if_pos hb82, if_pos rfl, nI_1]
                    first | done | rfl
                · have hin4 : k < 4 := by
                    rcases Nat.lt_or_ge k 4 with q | q
                    · exact q
                    · exact absurd (show nI 4 ≤ nI k from nI_le q (by omega)) c39
                  obtain ⟨ρ2, hF2⟩ := hFk
                  refine lv_aload_n F.1.1 F.1.2.1 d_Mod_fit_42 rfl (lv_at hl 0 rfl) ?_
                  refine lv_iload F.1.1 F.1.2.1 d_Mod_fit_43 (lv_at hl 5 rfl) ?_
                  refine lv_bipush (v := 50) F.1.1 F.1.2.1 d_Mod_fit_45 (by decide) ?_
                  refine hw_call1 (hw_runV F hL hS hH hl (c_Mod_isBetter l D L0 ad β (mFk C N q k).2 _ obP_id ρ2 C N hF2 k hin4 50) ck_Mod obP_o rfl q_ml_Mod_191 q_im_Mod_isBetter q_se_Mod_isBetter q_in_Mod q_co_Mod_isBetter rfl (k := 2) ⟨rfl, rfl, by decide +kernel, ⟨Nat.le_of_ble_eq_true rfl, Nat.le_of_ble_eq_true rfl⟩, Nat.le_of_ble_eq_true rfl⟩ rfl d_Mod_fit_47 ⟨Nat.le_of_ble_eq_true rfl, Nat.le_of_ble_eq_true rfl⟩) hS (fun H locs hH hS => ?_)
                  replace hH := hH.to obP_obP
                  refine lv_if_ne (tgt := 68) F.1.1 F.1.2.1 d_Mod_fit_50 (by decide) (fun c50 => ?_) (fun c50 => ?_)
                  · have hb50 := bif1 c50
                    refine lv_iconst (v := 1) F.1.1 F.1.2.1 d_Mod_fit_68 (by decide) ?_
                    refine lv_goto (tgt := 73) F.1.1 F.1.2.1 d_Mod_fit_69 (by decide) ?_
                    refine lv_istore_n F.1.1 F.1.2.1 d_Mod_fit_73 rfl hl (by decide) rfl (fun ls hl => ?_)
                    refine lv_iinc F.1.1 F.1.2.1 d_Mod_fit_74 hl (k := 5) rfl rfl (by decide) rfl (fun ls hl => ?_)
                    refine lv_goto (tgt := 36) F.1.1 F.1.2.1 d_Mod_fit_77 (by decide) ?_
                    refine ih36 (k + 1) H locs ls (by omega) (fk_Fr (fk_1 (lb2_1 hb50)) (bt_Fr hin4 hF2)) (by omega) (hH.to (congrArg (fun o => obP D ad β 6 shMod o f) (fk_p (fk_1 (lb2_1 hb50))).symm)) hS (lv_sub hl [2, 3, 4, 1, 5, 0] ?_)
                    show [_, _, _, _, _, _] = [_, _, _, _, _, _]
                    rw [ii1, fk_q (fk_1 (lb2_1 hb50))]
                    first | done | rfl
                  · have hb50 := bif0 c50
                    obtain ⟨ρ3, hF3⟩ := bt_Fr (w := 50) hin4 hF2
                    refine lv_aload_n F.1.1 F.1.2.1 d_Mod_fit_53 rfl (lv_at hl 0 rfl) ?_
                    refine lv_iload F.1.1 F.1.2.1 d_Mod_fit_54 (lv_at hl 5 rfl) ?_
                    refine lv_bipush (v := -50) F.1.1 F.1.2.1 d_Mod_fit_56 (by decide) ?_
                    refine hw_call1 (hw_runV F hL hS hH hl (c_Mod_isBetter l D L0 ad β (mBt (mFk C N q k).2 C N k 50).2 _ obP_id ρ3 C N hF3 k hin4 (-50)) ck_Mod obP_o rfl q_ml_Mod_191 q_im_Mod_isBetter q_se_Mod_isBetter q_in_Mod q_co_Mod_isBetter rfl (k := 2) ⟨rfl, rfl, by decide +kernel, ⟨Nat.le_of_ble_eq_true rfl, Nat.le_of_ble_eq_true rfl⟩, Nat.le_of_ble_eq_true rfl⟩ rfl d_Mod_fit_58 ⟨Nat.le_of_ble_eq_true rfl, Nat.le_of_ble_eq_true rfl⟩) hS (fun H locs hH hS => ?_)
                    replace hH := hH.to obP_obP
                    refine lv_if_ne (tgt := 68) F.1.1 F.1.2.1 d_Mod_fit_61 (by decide) (fun c61 => ?_) (fun c61 => ?_)
                    · have hb61 := bif1 c61
                      refine lv_iconst (v := 1) F.1.1 F.1.2.1 d_Mod_fit_68 (by decide) ?_
                      refine lv_goto (tgt := 73) F.1.1 F.1.2.1 d_Mod_fit_69 (by decide) ?_
                      refine lv_istore_n F.1.1 F.1.2.1 d_Mod_fit_73 rfl hl (by decide) rfl (fun ls hl => ?_)
                      refine lv_iinc F.1.1 F.1.2.1 d_Mod_fit_74 hl (k := 5) rfl rfl (by decide) rfl (fun ls hl => ?_)
                      refine lv_goto (tgt := 36) F.1.1 F.1.2.1 d_Mod_fit_77 (by decide) ?_
                      refine ih36 (k + 1) H locs ls (by omega) (fk_Fr (fk_1 (lb2_2 hb50 hb61)) (bt_Fr hin4 hF3)) (by omega) (hH.to (congrArg (fun o => obP D ad β 6 shMod o f) (fk_p (fk_1 (lb2_2 hb50 hb61))).symm)) hS (lv_sub hl [2, 3, 4, 1, 5, 0] ?_)
                      show [_, _, _, _, _, _] = [_, _, _, _, _, _]
                      rw [ii1, fk_q (fk_1 (lb2_2 hb50 hb61))]
                      first | done | rfl
                    · have hb61 := bif0 c61
                      refine lv_iload_n F.1.1 F.1.2.1 d_Mod_fit_64 rfl (lv_at hl 3 rfl) ?_
                      refine lv_if_eq (tgt := 72) F.1.1 F.1.2.1 d_Mod_fit_65 (by decide) (fun c65 => ?_) (fun c65 => ?_)
                      · have hb65 := bif0 c65
                        refine lv_iconst (v := 0) F.1.1 F.1.2.1 d_Mod_fit_72 (by decide) ?_
                        refine lv_istore_n F.1.1 F.1.2.1 d_Mod_fit_73 rfl hl (by decide) rfl (fun ls hl => ?_)
                        refine lv_iinc F.1.1 F.1.2.1 d_Mod_fit_74 hl (k := 5) rfl rfl (by decide) rfl (fun ls hl => ?_)
                        refine lv_goto (tgt := 36) F.1.1 F.1.2.1 d_Mod_fit_77 (by decide) ?_
                        refine ih36 (k + 1) H locs ls (by omega) (fk_Fr (fk_0 (lb2_3 hb50 hb61)) (bt_Fr hin4 hF3)) (by omega) (hH.to (congrArg (fun o => obP D ad β 6 shMod o f) (fk_p (fk_0 (lb2_3 hb50 hb61))).symm)) hS (lv_sub hl [2, 3, 4, 1, 5, 0] ?_)
                        show [_, _, _, _, _, _] = [_, _, _, _, _, _]
                        rw [ii1, fk_q (fk_0 (lb2_3 hb50 hb61)), if_neg hb65]
                        first | done | rfl
                      · have hb65 := bif1 c65
                        refine lv_iconst (v := 1) F.1.1 F.1.2.1 d_Mod_fit_68 (by decide) ?_
                        refine lv_goto (tgt := 73) F.1.1 F.1.2.1 d_Mod_fit_69 (by decide) ?_
                        refine lv_istore_n F.1.1 F.1.2.1 d_Mod_fit_73 rfl hl (by decide) rfl (fun ls hl => ?_)
                        refine lv_iinc F.1.1 F.1.2.1 d_Mod_fit_74 hl (k := 5) rfl rfl (by decide) rfl (fun ls hl => ?_)
                        refine lv_goto (tgt := 36) F.1.1 F.1.2.1 d_Mod_fit_77 (by decide) ?_
                        refine ih36 (k + 1) H locs ls (by omega) (fk_Fr (fk_0 (lb2_3 hb50 hb61)) (bt_Fr hin4 hF3)) (by omega) (hH.to (congrArg (fun o => obP D ad β 6 shMod o f) (fk_p (fk_0 (lb2_3 hb50 hb61))).symm)) hS (lv_sub hl [2, 3, 4, 1, 5, 0] ?_)
                        show [_, _, _, _, _, _] = [_, _, _, _, _, _]
                        rw [ii1, fk_q (fk_0 (lb2_3 hb50 hb61)), if_pos hb65]
                        first | done | rfl
            exact L36 (4 - 0 + 1) 0 H locs ls (Nat.zero_le _) hFq (Nat.lt_succ_self _) hH hS (lv_sub hl [2, 3, 4, 1, 5, 0] rfl)
    exact L21 (r - 0 + 1) 0 0 o true H locs ls (Nat.zero_le _) ⟨ρ, hF⟩ (if_pos rfl) (Nat.lt_succ_self _) hH hS (lv_sub hl [3, 4, 2, 1, 0] rfl)
  · refine lv_iconst (v := -1) F.1.1 F.1.2.1 d_Mod_fit_12 (by decide) ?_
    exact hw_iret F hr hlocks hH hS d_Mod_fit_13 (by rw [if_pos c9]) (by rw [if_pos c9])
