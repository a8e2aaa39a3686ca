/-! CellSettling$Told, CellSettling$Surface: contracts; printed by wip/gen/col.py -/
def adF (o : Ob) (n : Nat) (wh pl nu : Int32) (am th : Int64) : Ob := sI (sB (sB (sA (sA (sA o 0 (upd (oA o 0) n wh)) 1 (upd (oA o 1) n pl)) 2 (upd (oA o 2) n nu)) 3 (vp_updL (oB o 3) n am)) 4 (vp_updL (oB o 4) n th)) 5 (nI (n + 1))
theorem ad_eq {o : Ob} {n : Nat} {wh pl nu : Int32} {am th : Int64} (hn : oI o 5 = nI n) (h : n < 200) : sI (sB (sB (sA (sA (sA o 0 (upd (oA o 0) (oI o 5).toNatClampNeg wh)) 1 (upd (oA o 1) (oI o 5).toNatClampNeg pl)) 2 (upd (oA o 2) (oI o 5).toNatClampNeg nu)) 3 (vp_updL (oB o 3) (oI o 5).toNatClampNeg am)) 4 (vp_updL (oB o 4) (oI o 5).toNatClampNeg th)) 5 (oI o 5 + 1) = adF o n wh pl nu am th := by
  rw [hn, nI_clamp (by omega), nI_1]; rfl
def ptF (o : Ob) (j : Nat) (z : Int32) : Ob := sA (sA o 0 (upd (oA o 0) j z)) 1 (upd (oA o 1) j 1)
def ibF (oa ob : Ob) (j : Nat) : Int32 := if oA oa 1 j = 0 ∨ oA ob 1 j = 0 then 0 else 1
def riF (oa ob : Ob) (j : Nat) : Int64 := (oA ob 0 j).toInt64 - (oA oa 0 j).toInt64
def sqF (oa ob : Ob) (j : Nat) : Int64 := if ibF oa ob j = 0 ∨ ibF oa ob (j + 5) = 0 ∨ ibF oa ob (j + 1) = 0 ∨ ibF oa ob (j + 6) = 0 then 0 else 2 * (riF oa ob j + riF oa ob (j + 6)) + riF oa ob (j + 5) + riF oa ob (j + 1)
def sixF (oa ob : Ob) : Nat → Int64
  | 0 => 0
  | x + 1 => ac (fun y => sqF oa ob (x * 5 + y)) (sixF oa ob x) 4
set_option maxHeartbeats 1000000 in
theorem c_Tol_isFull (l : Launch) (D : va_G) (L0 : Nat) (ad : Nat → Nat) (β : Nat) (o : Ob) (f : Nat → Option va_E) (hA : hasO D ad β 4 shTol o f) : Met l y_Tol_isFull (wd y_Tol_isFull b_Tol_isFull 1 (some .boolean)) { frames := 0, cells := 0, slots := 0, locals := 0 } (va_Pc [.ref (ad β)] (cp D L0 ad (f))) (dt D L0 ad (some (.int (if oI o 5 < 200 then 0 else 1))) (f)) 0 0 (fun q => L0 ≤ q) := by
  refine hw_met (by decide) (Nat.le_of_ble_eq_true rfl) ?_
  intro p e s m below meth c ls F hr hlocks hnm hL hH hS hl
  replace hH := hH.to hA.symm
  refine lv_aload_n F.1.1 F.1.2.1 d_Tol_isFull_0 rfl (lv_at hl 0 rfl) ?_
  refine gI ck_Tol F hH q_fl_Tol_26 (k := 5) (by decide) rfl d_Tol_isFull_1 ?_
  refine lv_sipush (v := 200) F.1.1 F.1.2.1 d_Tol_isFull_4 (by decide) ?_
  refine lv_icmp_lt (tgt := 14) F.1.1 F.1.2.1 d_Tol_isFull_7 (by decide) (fun c7 => ?_) (fun c7 => ?_)
  · refine lv_iconst (v := 0) F.1.1 F.1.2.1 d_Tol_isFull_14 (by decide) ?_
    exact hw_zret F hr hlocks hH hS d_Tol_isFull_15 (by first | decide | (split <;> decide) | (unfold cif; split <;> decide)) (by rw [if_pos c7]) hA
  · refine lv_iconst (v := 1) F.1.1 F.1.2.1 d_Tol_isFull_10 (by decide) ?_
    refine lv_goto (tgt := 15) F.1.1 F.1.2.1 d_Tol_isFull_11 (by decide) ?_
    exact hw_zret F hr hlocks hH hS d_Tol_isFull_15 (by first | decide | (split <;> decide) | (unfold cif; split <;> decide)) (by rw [if_neg c7]) hA
set_option maxHeartbeats 1000000 in
theorem c_Tol_add (l : Launch) (D : va_G) (L0 : Nat) (ad : Nat → Nat) (β : Nat) (o : Ob) (f : Nat → Option va_E) (hA : hasO D ad β 4 shTol o f) (wh pl nu : Int32) (am th : Int64) (n : Nat) (hn : oI o 5 = nI n) (hn2 : n < 200) : Met l y_Tol_add (wd y_Tol_add b_Tol_add 8 none) { frames := 1, cells := 0, slots := 0, locals := 20 } (va_Pc [.ref (ad β), .int wh, .int pl, .int nu, .long am, .long th] (cp D L0 ad (f))) (dt D L0 ad (none) (obP D ad β 4 shTol (adF o n wh pl nu am th) f)) 0 0 (fun q => L0 ≤ q) := by
  refine hw_met (by decide) (Nat.le_of_ble_eq_true rfl) ?_
  intro p e s m below meth c ls F hr hlocks hnm hL hH hS hl
  replace hH := hH.to hA.symm
  have hix : vp_in (oI o 5) 200 := by rw [hn]; exact vp_in_nI (by omega) (by omega)
  refine lv_aload_n F.1.1 F.1.2.1 d_Tol_add_0 rfl (lv_at hl 0 rfl) ?_
  refine hw_call1 (hw_runV F hL hS hH hl (c_Tol_isFull l D L0 ad β o _ obP_id) ck_Tol obP_o rfl q_ml_Tol_30 q_im_Tol_isFull q_se_Tol_isFull q_in_Tol q_co_Tol_isFull rfl (k := 0) ⟨rfl, rfl, by decide +kernel, ⟨Nat.le_of_ble_eq_true rfl, Nat.le_of_ble_eq_true rfl⟩, Nat.le_of_ble_eq_true rfl⟩ rfl d_Tol_add_1 ⟨Nat.le_of_ble_eq_true rfl, Nat.le_of_ble_eq_true rfl⟩) hS (fun H locs hH hS => ?_)
  refine lv_if_eq (tgt := 8) F.1.1 F.1.2.1 d_Tol_add_4 (by decide) (fun c4 => ?_) (fun c4 => ?_)
  · refine lv_aload_n F.1.1 F.1.2.1 d_Tol_add_8 rfl (lv_at hl 0 rfl) ?_
    refine gR ck_Tol F hH q_fl_Tol_9 (k := 0) (by decide) rfl (by decide) d_Tol_add_9 ?_
    refine lv_aload_n F.1.1 F.1.2.1 d_Tol_add_12 rfl (lv_at hl 0 rfl) ?_
    refine gI ck_Tol F hH q_fl_Tol_26 (k := 5) (by decide) rfl d_Tol_add_13 ?_
    refine lv_iload_n F.1.1 F.1.2.1 d_Tol_add_16 rfl (lv_at hl 1 rfl) ?_
    refine tA F hH hS rfl hix d_Tol_add_17 (fun H locs hH hS => ?_)
    refine lv_aload_n F.1.1 F.1.2.1 d_Tol_add_18 rfl (lv_at hl 0 rfl) ?_
    refine gR ck_Tol F hH q_fl_Tol_13 (k := 1) (by decide) rfl (by decide) d_Tol_add_19 ?_
    refine lv_aload_n F.1.1 F.1.2.1 d_Tol_add_22 rfl (lv_at hl 0 rfl) ?_
    refine gI ck_Tol F hH q_fl_Tol_26 (k := 5) (by decide) rfl d_Tol_add_23 ?_
    refine lv_iload_n F.1.1 F.1.2.1 d_Tol_add_26 rfl (lv_at hl 2 rfl) ?_
    refine tA F hH hS rfl hix d_Tol_add_27 (fun H locs hH hS => ?_)
    refine lv_aload_n F.1.1 F.1.2.1 d_Tol_add_28 rfl (lv_at hl 0 rfl) ?_
    refine gR ck_Tol F hH q_fl_Tol_16 (k := 2) (by decide) rfl (by decide) d_Tol_add_29 ?_
    refine lv_aload_n F.1.1 F.1.2.1 d_Tol_add_32 rfl (lv_at hl 0 rfl) ?_
    refine gI ck_Tol F hH q_fl_Tol_26 (k := 5) (by decide) rfl d_Tol_add_33 ?_
    refine lv_iload_n F.1.1 F.1.2.1 d_Tol_add_36 rfl (lv_at hl 3 rfl) ?_
    refine tA F hH hS rfl hix d_Tol_add_37 (fun H locs hH hS => ?_)
    refine lv_aload_n F.1.1 F.1.2.1 d_Tol_add_38 rfl (lv_at hl 0 rfl) ?_
    refine gR ck_Tol F hH q_fl_Tol_19 (k := 3) (by decide) rfl (by decide) d_Tol_add_39 ?_
    refine lv_aload_n F.1.1 F.1.2.1 d_Tol_add_42 rfl (lv_at hl 0 rfl) ?_
    refine gI ck_Tol F hH q_fl_Tol_26 (k := 5) (by decide) rfl d_Tol_add_43 ?_
    refine lv_lload F.1.1 F.1.2.1 d_Tol_add_46 (lv_at hl 4 rfl) ?_
    refine tB F hH hS rfl hix d_Tol_add_48 (fun H locs hH hS => ?_)
    refine lv_aload_n F.1.1 F.1.2.1 d_Tol_add_49 rfl (lv_at hl 0 rfl) ?_
    refine gR ck_Tol F hH q_fl_Tol_23 (k := 4) (by decide) rfl (by decide) d_Tol_add_50 ?_
    refine lv_aload_n F.1.1 F.1.2.1 d_Tol_add_53 rfl (lv_at hl 0 rfl) ?_
    refine gI ck_Tol F hH q_fl_Tol_26 (k := 5) (by decide) rfl d_Tol_add_54 ?_
    refine lv_lload F.1.1 F.1.2.1 d_Tol_add_57 (lv_at hl 5 rfl) ?_
    refine tB F hH hS rfl hix d_Tol_add_59 (fun H locs hH hS => ?_)
    refine lv_aload_n F.1.1 F.1.2.1 d_Tol_add_60 rfl (lv_at hl 0 rfl) ?_
    refine lv_dup F.1.1 F.1.2.1 d_Tol_add_61 rfl ?_
    refine gI ck_Tol F hH q_fl_Tol_26 (k := 5) (by decide) rfl d_Tol_add_62 ?_
    refine lv_iconst (v := 1) F.1.1 F.1.2.1 d_Tol_add_65 (by decide) ?_
    refine lv_iadd F.1.1 F.1.2.1 d_Tol_add_66 ?_
    refine pI ck_Tol F hH hS q_fl_Tol_26 (k := 5) (by decide) rfl rfl rfl d_Tol_add_67 (fun H locs hH hS => ?_)
    exact hw_vret F hr hlocks hH hS d_Tol_add_70 (congrArg (fun o => obP D ad β 4 shTol o f) (ad_eq hn hn2))
  · exact absurd (by rw [hn, if_pos (show nI n < 200 from (nI_lt hn2 (by omega) : nI n < nI 200))]) c4
set_option maxHeartbeats 1000000 in
theorem c_Sur_isPlace (l : Launch) (D : va_G) (L0 : Nat) (ad : Nat → Nat) (x y : Int32) (f : Nat → Option va_E) : Met l y_Sur_isPlace (wd y_Sur_isPlace b_Sur_isPlace 2 (some .boolean)) { frames := 1, cells := 0, slots := 0, locals := 25 } (va_Pc [.int x, .int y] (cp D L0 ad (f))) (dt D L0 ad (some (.int (if wi x.toInt64 0 4 = 0 ∨ wi y.toInt64 0 4 = 0 then 0 else 1))) (f)) 0 0 (fun q => L0 ≤ q) := by
  refine hw_met (by decide) (Nat.le_of_ble_eq_true rfl) ?_
  intro p e s m below meth c ls F hr hlocks hnm hL hH hS hl
  refine lv_iload_n F.1.1 F.1.2.1 d_Sur_isPlace_0 rfl (lv_at hl 0 rfl) ?_
  refine lv_i2l F.1.1 F.1.2.1 d_Sur_isPlace_1 rfl ?_
  refine lv_lconst (v := 0) F.1.1 F.1.2.1 d_Sur_isPlace_2 (by decide) ?_
  refine lv_ldc2 F.1.1 F.1.2.1 F.1.2.2.2.1 (F.1.2.2.2.2 _ q_cl_Sur_17) d_Sur_isPlace_3 ?_
  refine hw_call1 (hw_runSN F hL hS hH hl (c_Cel_isWithin l D L0 ad _ _ _ _) q_mn_Sur_19 q_st_Cel_isWithin q_in_Cel q_co_Cel_isWithin rfl (k := 3) ⟨rfl, rfl, by decide +kernel, ⟨Nat.le_of_ble_eq_true rfl, Nat.le_of_ble_eq_true rfl⟩, Nat.le_of_ble_eq_true rfl⟩ rfl d_Sur_isPlace_6 ⟨Nat.le_of_ble_eq_true rfl, Nat.le_of_ble_eq_true rfl⟩) hS (fun H locs hH hS => ?_)
  refine lv_if_eq (tgt := 28) F.1.1 F.1.2.1 d_Sur_isPlace_9 (by decide) (fun c9 => ?_) (fun c9 => ?_)
  · refine lv_iconst (v := 0) F.1.1 F.1.2.1 d_Sur_isPlace_28 (by decide) ?_
    exact hw_zret F hr hlocks hH hS d_Sur_isPlace_29 (by first | decide | (split <;> decide) | (unfold cif; split <;> decide)) (by rw [if_pos (Or.inl c9)]) rfl
  · refine lv_iload_n F.1.1 F.1.2.1 d_Sur_isPlace_12 rfl (lv_at hl 1 rfl) ?_
    refine lv_i2l F.1.1 F.1.2.1 d_Sur_isPlace_13 rfl ?_
    refine lv_lconst (v := 0) F.1.1 F.1.2.1 d_Sur_isPlace_14 (by decide) ?_
    refine lv_ldc2 F.1.1 F.1.2.1 F.1.2.2.2.1 (F.1.2.2.2.2 _ q_cl_Sur_17) d_Sur_isPlace_15 ?_
    refine hw_call1 (hw_runSN F hL hS hH hl (c_Cel_isWithin l D L0 ad _ _ _ _) q_mn_Sur_19 q_st_Cel_isWithin q_in_Cel q_co_Cel_isWithin rfl (k := 3) ⟨rfl, rfl, by decide +kernel, ⟨Nat.le_of_ble_eq_true rfl, Nat.le_of_ble_eq_true rfl⟩, Nat.le_of_ble_eq_true rfl⟩ rfl d_Sur_isPlace_18 ⟨Nat.le_of_ble_eq_true rfl, Nat.le_of_ble_eq_true rfl⟩) hS (fun H locs hH hS => ?_)
    refine lv_if_eq (tgt := 28) F.1.1 F.1.2.1 d_Sur_isPlace_21 (by decide) (fun c21 => ?_) (fun c21 => ?_)
    · refine lv_iconst (v := 0) F.1.1 F.1.2.1 d_Sur_isPlace_28 (by decide) ?_
      exact hw_zret F hr hlocks hH hS d_Sur_isPlace_29 (by first | decide | (split <;> decide) | (unfold cif; split <;> decide)) (by rw [if_pos (Or.inr c21)]) rfl
    · refine lv_iconst (v := 1) F.1.1 F.1.2.1 d_Sur_isPlace_24 (by decide) ?_
      refine lv_goto (tgt := 29) F.1.1 F.1.2.1 d_Sur_isPlace_25 (by decide) ?_
      exact hw_zret F hr hlocks hH hS d_Sur_isPlace_29 (by first | decide | (split <;> decide) | (unfold cif; split <;> decide)) (by rw [if_neg (fun q => q.elim c9 c21)]) rfl
set_option maxHeartbeats 1000000 in
theorem c_Sur_put (l : Launch) (D : va_G) (L0 : Nat) (ad : Nat → Nat) (β : Nat) (o : Ob) (f : Nat → Option va_E) (hA : hasO D ad β 3 shSur o f) (a b : Nat) (ha : a < 5) (hb : b < 5) (z : Int32) : Met l y_Sur_put (wd y_Sur_put b_Sur_put 5 none) { frames := 0, cells := 0, slots := 0, locals := 0 } (va_Pc [.ref (ad β), .int (nI a), .int (nI b), .int z] (cp D L0 ad (f))) (dt D L0 ad (none) (obP D ad β 3 shSur (ptF o (a * 5 + b) z) f)) 0 0 (fun q => L0 ≤ q) := by
  refine hw_met (by decide) (Nat.le_of_ble_eq_true rfl) ?_
  intro p e s m below meth c ls F hr hlocks hnm hL hH hS hl
  replace hH := hH.to hA.symm
  have hpl : nI a * 5 + nI b = nI (a * 5 + b) := by rw [← nI_add, ← pk_mul]; rfl
  refine lv_iload_n F.1.1 F.1.2.1 d_Sur_put_0 rfl (lv_at hl 1 rfl) ?_
  refine lv_iconst (v := 5) F.1.1 F.1.2.1 d_Sur_put_1 (by decide) ?_
  refine lv_imul F.1.1 F.1.2.1 d_Sur_put_2 ?_
  refine lv_iload_n F.1.1 F.1.2.1 d_Sur_put_3 rfl (lv_at hl 2 rfl) ?_
  refine lv_iadd F.1.1 F.1.2.1 d_Sur_put_4 ?_
  refine lv_istore F.1.1 F.1.2.1 d_Sur_put_5 hl (by decide) rfl (fun ls hl => ?_)
  rw [hpl] at hl
  refine lv_aload_n F.1.1 F.1.2.1 d_Sur_put_7 rfl (lv_at hl 1 rfl) ?_
  refine gR ck_Sur F hH q_fl_Sur_9 (k := 0) (by decide) rfl (by decide) d_Sur_put_8 ?_
  refine lv_iload F.1.1 F.1.2.1 d_Sur_put_11 (lv_at hl 0 rfl) ?_
  refine lv_iload_n F.1.1 F.1.2.1 d_Sur_put_13 rfl (lv_at hl 4 rfl) ?_
  refine tA F hH hS rfl (vp_in_nI (by omega) (by omega)) d_Sur_put_14 (fun H locs hH hS => ?_)
  refine lv_aload_n F.1.1 F.1.2.1 d_Sur_put_15 rfl (lv_at hl 1 rfl) ?_
  refine gR ck_Sur F hH q_fl_Sur_13 (k := 1) (by decide) rfl (by decide) d_Sur_put_16 ?_
  refine lv_iload F.1.1 F.1.2.1 d_Sur_put_19 (lv_at hl 0 rfl) ?_
  refine lv_iconst (v := 1) F.1.1 F.1.2.1 d_Sur_put_21 (by decide) ?_
  refine tZ F hH hS rfl (vp_in_nI (by omega) (by omega)) d_Sur_put_22 (fun H locs hH hS => ?_)
  exact hw_vret F hr hlocks hH hS d_Sur_put_23 (congrArg (fun o => obP D ad β 3 shSur o f) (by rw [nI_clamp (by omega)]; rfl))
set_option maxHeartbeats 1000000 in
theorem c_Sur_inBoth (l : Launch) (D : va_G) (L0 : Nat) (ad : Nat → Nat) (β γ : Nat) (oa ob : Ob) (f : Nat → Option va_E) (hA : hasO D ad β 3 shSur oa f) (hB : hasO D ad γ 3 shSur ob f) (j : Nat) (hj : j < 25) : Met l y_Sur_inBoth (wd y_Sur_inBoth b_Sur_inBoth 3 (some .boolean)) { frames := 0, cells := 0, slots := 0, locals := 0 } (va_Pc [.ref (ad β), .ref (ad γ), .int (nI j)] (cp D L0 ad (f))) (dt D L0 ad (some (.int (ibF oa ob j))) (f)) 0 0 (fun q => L0 ≤ q) := by
  refine hw_met (by decide) (Nat.le_of_ble_eq_true rfl) ?_
  intro p e s m below meth c ls F hr hlocks hnm hL hH hS hl
  refine lv_aload_n F.1.1 F.1.2.1 d_Sur_inBoth_0 rfl (lv_at hl 0 rfl) ?_
  refine gR ck_Sur F (hH.to hA.symm) q_fl_Sur_13 (k := 1) (by decide) rfl (by decide) d_Sur_inBoth_1 ?_
  refine lv_iload_n F.1.1 F.1.2.1 d_Sur_inBoth_4 rfl (lv_at hl 2 rfl) ?_
  refine lZ F (hH.to hA.symm) rfl (vp_in_nI (by omega) (by omega)) d_Sur_inBoth_5 ?_
  refine lv_if_eq (tgt := 22) F.1.1 F.1.2.1 d_Sur_inBoth_6 (by decide) (fun c6 => ?_) (fun c6 => ?_)
  · rw [nI_clamp (by omega)] at c6
    refine lv_iconst (v := 0) F.1.1 F.1.2.1 d_Sur_inBoth_22 (by decide) ?_
    exact hw_zret F hr hlocks hH hS d_Sur_inBoth_23 (by first | decide | (split <;> decide) | (unfold cif; split <;> decide)) (by unfold ibF; rw [if_pos (Or.inl c6)]) rfl
  · rw [nI_clamp (by omega)] at c6
    refine lv_aload_n F.1.1 F.1.2.1 d_Sur_inBoth_9 rfl (lv_at hl 1 rfl) ?_
    refine gR ck_Sur F (hH.to hB.symm) q_fl_Sur_13 (k := 1) (by decide) rfl (by decide) d_Sur_inBoth_10 ?_
    refine lv_iload_n F.1.1 F.1.2.1 d_Sur_inBoth_13 rfl (lv_at hl 2 rfl) ?_
    refine lZ F (hH.to hB.symm) rfl (vp_in_nI (by omega) (by omega)) d_Sur_inBoth_14 ?_
    refine lv_if_eq (tgt := 22) F.1.1 F.1.2.1 d_Sur_inBoth_15 (by decide) (fun c15 => ?_) (fun c15 => ?_)
    · rw [nI_clamp (by omega)] at c15
      refine lv_iconst (v := 0) F.1.1 F.1.2.1 d_Sur_inBoth_22 (by decide) ?_
      exact hw_zret F hr hlocks hH hS d_Sur_inBoth_23 (by first | decide | (split <;> decide) | (unfold cif; split <;> decide)) (by unfold ibF; rw [if_pos (Or.inr c15)]) rfl
    · rw [nI_clamp (by omega)] at c15
      refine lv_iconst (v := 1) F.1.1 F.1.2.1 d_Sur_inBoth_18 (by decide) ?_
      refine lv_goto (tgt := 23) F.1.1 F.1.2.1 d_Sur_inBoth_19 (by decide) ?_
      exact hw_zret F hr hlocks hH hS d_Sur_inBoth_23 (by first | decide | (split <;> decide) | (unfold cif; split <;> decide)) (by unfold ibF; rw [if_neg (fun q => q.elim c6 c15)]) rfl
set_option maxHeartbeats 1000000 in
theorem c_Sur_rise (l : Launch) (D : va_G) (L0 : Nat) (ad : Nat → Nat) (β γ : Nat) (oa ob : Ob) (f : Nat → Option va_E) (hA : hasO D ad β 3 shSur oa f) (hB : hasO D ad γ 3 shSur ob f) (j : Nat) (hj : j < 25) : Met l y_Sur_rise (wd y_Sur_rise b_Sur_rise 3 (some .long)) { frames := 0, cells := 0, slots := 0, locals := 0 } (va_Pc [.ref (ad β), .ref (ad γ), .int (nI j)] (cp D L0 ad (f))) (dt D L0 ad (some (.long (riF oa ob j))) (f)) 0 0 (fun q => L0 ≤ q) := by
  refine hw_met (by decide) (Nat.le_of_ble_eq_true rfl) ?_
  intro p e s m below meth c ls F hr hlocks hnm hL hH hS hl
  refine lv_aload_n F.1.1 F.1.2.1 d_Sur_rise_0 rfl (lv_at hl 1 rfl) ?_
  refine gR ck_Sur F (hH.to hB.symm) q_fl_Sur_9 (k := 0) (by decide) rfl (by decide) d_Sur_rise_1 ?_
  refine lv_iload_n F.1.1 F.1.2.1 d_Sur_rise_4 rfl (lv_at hl 2 rfl) ?_
  refine lA F (hH.to hB.symm) rfl (vp_in_nI (by omega) (by omega)) d_Sur_rise_5 ?_
  refine lv_i2l F.1.1 F.1.2.1 d_Sur_rise_6 rfl ?_
  refine lv_aload_n F.1.1 F.1.2.1 d_Sur_rise_7 rfl (lv_at hl 0 rfl) ?_
  refine gR ck_Sur F (hH.to hA.symm) q_fl_Sur_9 (k := 0) (by decide) rfl (by decide) d_Sur_rise_8 ?_
  refine lv_iload_n F.1.1 F.1.2.1 d_Sur_rise_11 rfl (lv_at hl 2 rfl) ?_
  refine lA F (hH.to hA.symm) rfl (vp_in_nI (by omega) (by omega)) d_Sur_rise_12 ?_
  refine lv_i2l F.1.1 F.1.2.1 d_Sur_rise_13 rfl ?_
  refine lv_lsub F.1.1 F.1.2.1 d_Sur_rise_14 ?_
  exact hw_lret F hr hlocks hH hS d_Sur_rise_15 (by rw [nI_clamp (by omega)]; rfl) rfl
set_option maxHeartbeats 1000000 in
theorem c_Sur_sixfoldOfSquare (l : Launch) (D : va_G) (L0 : Nat) (ad : Nat → Nat) (β γ : Nat) (oa ob : Ob) (f : Nat → Option va_E) (hA : hasO D ad β 3 shSur oa f) (hB : hasO D ad γ 3 shSur ob f) (j : Nat) (hj : j + 6 < 25) : Met l y_Sur_sixfoldOfSquare (wd y_Sur_sixfoldOfSquare b_Sur_sixfoldOfSquare 6 (some .long)) { frames := 1, cells := 0, slots := 0, locals := 22 } (va_Pc [.ref (ad β), .ref (ad γ), .int (nI j)] (cp D L0 ad (f))) (dt D L0 ad (some (.long (sqF oa ob j))) (f)) 0 0 (fun q => L0 ≤ q) := by
  refine hw_met (by decide) (Nat.le_of_ble_eq_true rfl) ?_
  intro p e s m below meth c ls F hr hlocks hnm hL hH hS hl
  have e5 : nI j + 5 = nI (j + 5) := nI_add j 5
  have e1 : nI j + 1 = nI (j + 1) := nI_add j 1
  have e6 : nI (j + 5) + 1 = nI (j + 6) := nI_add (j + 5) 1
  refine lv_iload_n F.1.1 F.1.2.1 d_Sur_sixfoldOfSquare_0 rfl (lv_at hl 2 rfl) ?_
  refine lv_iconst (v := 5) F.1.1 F.1.2.1 d_Sur_sixfoldOfSquare_1 (by decide) ?_
  refine lv_iadd F.1.1 F.1.2.1 d_Sur_sixfoldOfSquare_2 ?_
  rw [e5]
  refine lv_istore_n F.1.1 F.1.2.1 d_Sur_sixfoldOfSquare_3 rfl hl (by decide) rfl (fun ls hl => ?_)
  refine lv_iload_n F.1.1 F.1.2.1 d_Sur_sixfoldOfSquare_4 rfl (lv_at hl 3 rfl) ?_
  refine lv_iconst (v := 1) F.1.1 F.1.2.1 d_Sur_sixfoldOfSquare_5 (by decide) ?_
  refine lv_iadd F.1.1 F.1.2.1 d_Sur_sixfoldOfSquare_6 ?_
  rw [e1]
  refine lv_istore F.1.1 F.1.2.1 d_Sur_sixfoldOfSquare_7 hl (by decide) rfl (fun ls hl => ?_)
  refine lv_iload_n F.1.1 F.1.2.1 d_Sur_sixfoldOfSquare_9 rfl (lv_at hl 1 rfl) ?_
  refine lv_iconst (v := 1) F.1.1 F.1.2.1 d_Sur_sixfoldOfSquare_10 (by decide) ?_
  refine lv_iadd F.1.1 F.1.2.1 d_Sur_sixfoldOfSquare_11 ?_
  rw [e6]
  refine lv_istore F.1.1 F.1.2.1 d_Sur_sixfoldOfSquare_12 hl (by decide) rfl (fun ls hl => ?_)
  refine lv_aload_n F.1.1 F.1.2.1 d_Sur_sixfoldOfSquare_14 rfl (lv_at hl 3 rfl) ?_
  refine lv_aload_n F.1.1 F.1.2.1 d_Sur_sixfoldOfSquare_15 rfl (lv_at hl 4 rfl) ?_
  refine lv_iload_n F.1.1 F.1.2.1 d_Sur_sixfoldOfSquare_16 rfl (lv_at hl 5 rfl) ?_
  refine hw_call1 (hw_runV F hL hS hH hl (c_Sur_inBoth l D L0 ad β γ oa ob f hA hB (j) (by omega)) ck_Sur (hasO_o hA) rfl q_ml_Sur_29 q_im_Sur_inBoth q_se_Sur_inBoth q_in_Sur q_co_Sur_inBoth rfl (k := 2) ⟨rfl, rfl, by decide +kernel, ⟨Nat.le_of_ble_eq_true rfl, Nat.le_of_ble_eq_true rfl⟩, Nat.le_of_ble_eq_true rfl⟩ rfl d_Sur_sixfoldOfSquare_17 ⟨Nat.le_of_ble_eq_true rfl, Nat.le_of_ble_eq_true rfl⟩) hS (fun H locs hH hS => ?_)
  refine lv_if_eq (tgt := 52) F.1.1 F.1.2.1 d_Sur_sixfoldOfSquare_20 (by decide) (fun c20 => ?_) (fun c20 => ?_)
  · refine lv_lconst (v := 0) F.1.1 F.1.2.1 d_Sur_sixfoldOfSquare_52 (by decide) ?_
    exact hw_lret F hr hlocks hH hS d_Sur_sixfoldOfSquare_53 (by unfold sqF; rw [if_pos (Or.inl c20)]) rfl
  · refine lv_aload_n F.1.1 F.1.2.1 d_Sur_sixfoldOfSquare_23 rfl (lv_at hl 3 rfl) ?_
    refine lv_aload_n F.1.1 F.1.2.1 d_Sur_sixfoldOfSquare_24 rfl (lv_at hl 4 rfl) ?_
    refine lv_iload_n F.1.1 F.1.2.1 d_Sur_sixfoldOfSquare_25 rfl (lv_at hl 2 rfl) ?_
    refine hw_call1 (hw_runV F hL hS hH hl (c_Sur_inBoth l D L0 ad β γ oa ob f hA hB (j + 5) (by omega)) ck_Sur (hasO_o hA) rfl q_ml_Sur_29 q_im_Sur_inBoth q_se_Sur_inBoth q_in_Sur q_co_Sur_inBoth rfl (k := 2) ⟨rfl, rfl, by decide +kernel, ⟨Nat.le_of_ble_eq_true rfl, Nat.le_of_ble_eq_true rfl⟩, Nat.le_of_ble_eq_true rfl⟩ rfl d_Sur_sixfoldOfSquare_26 ⟨Nat.le_of_ble_eq_true rfl, Nat.le_of_ble_eq_true rfl⟩) hS (fun H locs hH hS => ?_)
    refine lv_if_eq (tgt := 52) F.1.1 F.1.2.1 d_Sur_sixfoldOfSquare_29 (by decide) (fun c29 => ?_) (fun c29 => ?_)
    · refine lv_lconst (v := 0) F.1.1 F.1.2.1 d_Sur_sixfoldOfSquare_52 (by decide) ?_
      exact hw_lret F hr hlocks hH hS d_Sur_sixfoldOfSquare_53 (by unfold sqF; rw [if_pos (Or.inr (Or.inl c29))]) rfl
    · refine lv_aload_n F.1.1 F.1.2.1 d_Sur_sixfoldOfSquare_32 rfl (lv_at hl 3 rfl) ?_
      refine lv_aload_n F.1.1 F.1.2.1 d_Sur_sixfoldOfSquare_33 rfl (lv_at hl 4 rfl) ?_
      refine lv_iload F.1.1 F.1.2.1 d_Sur_sixfoldOfSquare_34 (lv_at hl 1 rfl) ?_
      refine hw_call1 (hw_runV F hL hS hH hl (c_Sur_inBoth l D L0 ad β γ oa ob f hA hB (j + 1) (by omega)) ck_Sur (hasO_o hA) rfl q_ml_Sur_29 q_im_Sur_inBoth q_se_Sur_inBoth q_in_Sur q_co_Sur_inBoth rfl (k := 2) ⟨rfl, rfl, by decide +kernel, ⟨Nat.le_of_ble_eq_true rfl, Nat.le_of_ble_eq_true rfl⟩, Nat.le_of_ble_eq_true rfl⟩ rfl d_Sur_sixfoldOfSquare_36 ⟨Nat.le_of_ble_eq_true rfl, Nat.le_of_ble_eq_true rfl⟩) hS (fun H locs hH hS => ?_)
      refine lv_if_eq (tgt := 52) F.1.1 F.1.2.1 d_Sur_sixfoldOfSquare_39 (by decide) (fun c39 => ?_) (fun c39 => ?_)
      · refine lv_lconst (v := 0) F.1.1 F.1.2.1 d_Sur_sixfoldOfSquare_52 (by decide) ?_
        exact hw_lret F hr hlocks hH hS d_Sur_sixfoldOfSquare_53 (by unfold sqF; rw [if_pos (Or.inr (Or.inr (Or.inl c39)))]) rfl
      · refine lv_aload_n F.1.1 F.1.2.1 d_Sur_sixfoldOfSquare_42 rfl (lv_at hl 3 rfl) ?_
        refine lv_aload_n F.1.1 F.1.2.1 d_Sur_sixfoldOfSquare_43 rfl (lv_at hl 4 rfl) ?_
        refine lv_iload F.1.1 F.1.2.1 d_Sur_sixfoldOfSquare_44 (lv_at hl 0 rfl) ?_
        refine hw_call1 (hw_runV F hL hS hH hl (c_Sur_inBoth l D L0 ad β γ oa ob f hA hB (j + 6) (by omega)) ck_Sur (hasO_o hA) rfl q_ml_Sur_29 q_im_Sur_inBoth q_se_Sur_inBoth q_in_Sur q_co_Sur_inBoth rfl (k := 2) ⟨rfl, rfl, by decide +kernel, ⟨Nat.le_of_ble_eq_true rfl, Nat.le_of_ble_eq_true rfl⟩, Nat.le_of_ble_eq_true rfl⟩ rfl d_Sur_sixfoldOfSquare_46 ⟨Nat.le_of_ble_eq_true rfl, Nat.le_of_ble_eq_true rfl⟩) hS (fun H locs hH hS => ?_)
        refine lv_if_ne (tgt := 54) F.1.1 F.1.2.1 d_Sur_sixfoldOfSquare_49 (by decide) (fun c49 => ?_) (fun c49 => ?_)
        · refine lv_ldc2 F.1.1 F.1.2.1 F.1.2.2.2.1 (F.1.2.2.2.2 _ q_cl_Sur_33) d_Sur_sixfoldOfSquare_54 ?_
          refine lv_aload_n F.1.1 F.1.2.1 d_Sur_sixfoldOfSquare_57 rfl (lv_at hl 3 rfl) ?_
          refine lv_aload_n F.1.1 F.1.2.1 d_Sur_sixfoldOfSquare_58 rfl (lv_at hl 4 rfl) ?_
          refine lv_iload_n F.1.1 F.1.2.1 d_Sur_sixfoldOfSquare_59 rfl (lv_at hl 5 rfl) ?_
          refine hw_call1 (hw_runV F hL hS hH hl (c_Sur_rise l D L0 ad β γ oa ob f hA hB (j) (by omega)) ck_Sur (hasO_o hA) rfl q_ml_Sur_35 q_im_Sur_rise q_se_Sur_rise q_in_Sur q_co_Sur_rise rfl (k := 2) ⟨rfl, rfl, by decide +kernel, ⟨Nat.le_of_ble_eq_true rfl, Nat.le_of_ble_eq_true rfl⟩, Nat.le_of_ble_eq_true rfl⟩ rfl d_Sur_sixfoldOfSquare_60 ⟨Nat.le_of_ble_eq_true rfl, Nat.le_of_ble_eq_true rfl⟩) hS (fun H locs hH hS => ?_)
          refine lv_aload_n F.1.1 F.1.2.1 d_Sur_sixfoldOfSquare_63 rfl (lv_at hl 3 rfl) ?_
          refine lv_aload_n F.1.1 F.1.2.1 d_Sur_sixfoldOfSquare_64 rfl (lv_at hl 4 rfl) ?_
          refine lv_iload F.1.1 F.1.2.1 d_Sur_sixfoldOfSquare_65 (lv_at hl 0 rfl) ?_
          refine hw_call1 (hw_runV F hL hS hH hl (c_Sur_rise l D L0 ad β γ oa ob f hA hB (j + 6) (by omega)) ck_Sur (hasO_o hA) rfl q_ml_Sur_35 q_im_Sur_rise q_se_Sur_rise q_in_Sur q_co_Sur_rise rfl (k := 2) ⟨rfl, rfl, by decide +kernel, ⟨Nat.le_of_ble_eq_true rfl, Nat.le_of_ble_eq_true rfl⟩, Nat.le_of_ble_eq_true rfl⟩ rfl d_Sur_sixfoldOfSquare_67 ⟨Nat.le_of_ble_eq_true rfl, Nat.le_of_ble_eq_true rfl⟩) hS (fun H locs hH hS => ?_)
          refine lv_ladd F.1.1 F.1.2.1 d_Sur_sixfoldOfSquare_70 ?_
          refine lv_lmul F.1.1 F.1.2.1 d_Sur_sixfoldOfSquare_71 ?_
          refine lv_aload_n F.1.1 F.1.2.1 d_Sur_sixfoldOfSquare_72 rfl (lv_at hl 3 rfl) ?_
          refine lv_aload_n F.1.1 F.1.2.1 d_Sur_sixfoldOfSquare_73 rfl (lv_at hl 4 rfl) ?_
          refine lv_iload_n F.1.1 F.1.2.1 d_Sur_sixfoldOfSquare_74 rfl (lv_at hl 2 rfl) ?_
          refine hw_call1 (hw_runV F hL hS hH hl (c_Sur_rise l D L0 ad β γ oa ob f hA hB (j + 5) (by omega)) ck_Sur (hasO_o hA) rfl q_ml_Sur_35 q_im_Sur_rise q_se_Sur_rise q_in_Sur q_co_Sur_rise rfl (k := 2) ⟨rfl, rfl, by decide +kernel, ⟨Nat.le_of_ble_eq_true rfl, Nat.le_of_ble_eq_true rfl⟩, Nat.le_of_ble_eq_true rfl⟩ rfl d_Sur_sixfoldOfSquare_75 ⟨Nat.le_of_ble_eq_true rfl, Nat.le_of_ble_eq_true rfl⟩) hS (fun H locs hH hS => ?_)
          refine lv_ladd F.1.1 F.1.2.1 d_Sur_sixfoldOfSquare_78 ?_
          refine lv_aload_n F.1.1 F.1.2.1 d_Sur_sixfoldOfSquare_79 rfl (lv_at hl 3 rfl) ?_
          refine lv_aload_n F.1.1 F.1.2.1 d_Sur_sixfoldOfSquare_80 rfl (lv_at hl 4 rfl) ?_
          refine lv_iload F.1.1 F.1.2.1 d_Sur_sixfoldOfSquare_81 (lv_at hl 1 rfl) ?_
          refine hw_call1 (hw_runV F hL hS hH hl (c_Sur_rise l D L0 ad β γ oa ob f hA hB (j + 1) (by omega)) ck_Sur (hasO_o hA) rfl q_ml_Sur_35 q_im_Sur_rise q_se_Sur_rise q_in_Sur q_co_Sur_rise rfl (k := 2) ⟨rfl, rfl, by decide +kernel, ⟨Nat.le_of_ble_eq_true rfl, Nat.le_of_ble_eq_true rfl⟩, Nat.le_of_ble_eq_true rfl⟩ rfl d_Sur_sixfoldOfSquare_83 ⟨Nat.le_of_ble_eq_true rfl, Nat.le_of_ble_eq_true rfl⟩) hS (fun H locs hH hS => ?_)
          refine lv_ladd F.1.1 F.1.2.1 d_Sur_sixfoldOfSquare_86 ?_
          exact hw_lret F hr hlocks hH hS d_Sur_sixfoldOfSquare_87 (by unfold sqF; rw [if_neg (fun q => q.elim c20 (fun q => q.elim c29 (fun q => q.elim c39 c49)))]) rfl
        · refine lv_lconst (v := 0) F.1.1 F.1.2.1 d_Sur_sixfoldOfSquare_52 (by decide) ?_
          exact hw_lret F hr hlocks hH hS d_Sur_sixfoldOfSquare_53 (by unfold sqF; rw [if_pos (Or.inr (Or.inr (Or.inr c49)))]) rfl
set_option maxHeartbeats 1000000 in
theorem c_Sur_sixfoldTo (l : Launch) (D : va_G) (L0 : Nat) (ad : Nat → Nat) (β γ : Nat) (oa ob : Ob) (f : Nat → Option va_E) (hA : hasO D ad β 3 shSur oa f) (hB : hasO D ad γ 3 shSur ob f) : Met l y_Sur_sixfoldTo (wd y_Sur_sixfoldTo b_Sur_sixfoldTo 6 (some .long)) { frames := 2, cells := 0, slots := 0, locals := 47 } (va_Pc [.ref (ad β), .ref (ad γ)] (cp D L0 ad (f))) (dt D L0 ad (some (.long (sixF oa ob 4))) (f)) 0 0 (fun q => L0 ≤ q) := by
  refine hw_met (by decide) (Nat.le_of_ble_eq_true rfl) ?_
  intro p e s m below meth c ls F hr hlocks hnm hL hH hS hl
  refine lv_lconst (v := 0) F.1.1 F.1.2.1 d_Sur_sixfoldTo_0 (by decide) ?_
  refine lv_lstore_n F.1.1 F.1.2.1 d_Sur_sixfoldTo_1 rfl hl (by decide) rfl (fun ls hl => ?_)
  refine lv_iconst (v := 0) F.1.1 F.1.2.1 d_Sur_sixfoldTo_2 (by decide) ?_
  refine lv_istore F.1.1 F.1.2.1 d_Sur_sixfoldTo_3 hl (by decide) rfl (fun ls hl => ?_)
  have L5 : ∀ (u : Nat) (x : Nat) (H : Heap) (locs : List Loc) (ls : Array Slot), (x ≤ 4) → 4 - x < u → hw D L0 ad (f) H → va_S (fun q => L0 ≤ q) s.heap H locs → lv_has ls 6 [(0, .ref (ad β)), (1, .ref (ad γ)), (2, .long (sixF oa ob x)), (4, .int (nI x))] → W p l e { frames := 2, cells := 0, slots := 0, locals := 47 } s m [.ref (ad β), .ref (ad γ)].toArray below meth c H locs 0 0 (MQ below (dt D L0 ad (some (.long (sixF oa ob 4))) (f)) [.ref (ad β), .ref (ad γ)].toArray s 0 0 (fun q => L0 ≤ q)) (F0 m 5 ls []) := by
    intro u
    induction u with
    | zero => intros; exact absurd ‹(_ : Nat) < 0› (Nat.not_lt_zero _)
    | succ u ih5 =>
      intro x H locs ls hx hu hH hS hl
      refine lv_iload F.1.1 F.1.2.1 d_Sur_sixfoldTo_5 (lv_at hl 3 rfl) ?_
      refine lv_iconst (v := 4) F.1.1 F.1.2.1 d_Sur_sixfoldTo_7 (by decide) ?_
      refine lv_icmp_ge (tgt := 47) F.1.1 F.1.2.1 d_Sur_sixfoldTo_8 (by decide) (fun c8 => ?_) (fun c8 => ?_)
      · have hin : 4 ≤ x := (nI_leI (by omega) (by omega)).mp (show nI 4 ≤ nI x from c8)
        refine lv_lload_n F.1.1 F.1.2.1 d_Sur_sixfoldTo_47 rfl (lv_at hl 2 rfl) ?_
        exact hw_lret F hr hlocks hH hS d_Sur_sixfoldTo_48 (by rw [show x = 4 by omega]) rfl
      · have hin : x < 4 := by
          rcases Nat.lt_or_ge x 4 with q | q
          · exact q
          · exact absurd (show nI 4 ≤ nI x from nI_le q (by omega)) c8
        refine lv_iconst (v := 0) F.1.1 F.1.2.1 d_Sur_sixfoldTo_11 (by decide) ?_
        refine lv_istore F.1.1 F.1.2.1 d_Sur_sixfoldTo_12 hl (by decide) rfl (fun ls hl => ?_)
        have L14 : ∀ (u : Nat) (y : Nat) (H : Heap) (locs : List Loc) (ls : Array Slot), (y ≤ 4) → 4 - y < u → hw D L0 ad (f) H → va_S (fun q => L0 ≤ q) s.heap H locs → lv_has ls 6 [(0, .ref (ad β)), (1, .ref (ad γ)), (2, .long (ac (fun y => sqF oa ob (x * 5 + y)) (sixF oa ob x) y)), (4, .int (nI x)), (5, .int (nI y))] → W p l e { frames := 2, cells := 0, slots := 0, locals := 47 } s m [.ref (ad β), .ref (ad γ)].toArray below meth c H locs 0 0 (MQ below (dt D L0 ad (some (.long (sixF oa ob 4))) (f)) [.ref (ad β), .ref (ad γ)].toArray s 0 0 (fun q => L0 ≤ q)) (F0 m 14 ls []) := by
          intro u
          induction u with
          | zero => intros; exact absurd ‹(_ : Nat) < 0› (Nat.not_lt_zero _)
          | succ u ih14 =>
            intro y H locs ls hy hu hH hS hl
            refine lv_iload F.1.1 F.1.2.1 d_Sur_sixfoldTo_14 (lv_at hl 4 rfl) ?_
            refine lv_iconst (v := 4) F.1.1 F.1.2.1 d_Sur_sixfoldTo_16 (by decide) ?_
            refine lv_icmp_ge (tgt := 41) F.1.1 F.1.2.1 d_Sur_sixfoldTo_17 (by decide) (fun c17 => ?_) (fun c17 => ?_)
            · have hiy : 4 ≤ y := (nI_leI (by omega) (by omega)).mp (show nI 4 ≤ nI y from c17)
              refine lv_iinc F.1.1 F.1.2.1 d_Sur_sixfoldTo_41 hl (k := 3) rfl rfl (by decide) rfl (fun ls hl => ?_)
              refine lv_goto (tgt := 5) F.1.1 F.1.2.1 d_Sur_sixfoldTo_44 (by decide) ?_
              refine ih5 (x + 1) H locs ls (by omega) (by omega) hH hS (lv_sub hl [1, 2, 3, 0] ?_)
              show [_, _, _, _] = [_, _, _, _]
              rw [ii1, show y = 4 by omega]
              first | done | rfl
            · have hiy : y < 4 := by
                rcases Nat.lt_or_ge y 4 with q | q
                · exact q
                · exact absurd (show nI 4 ≤ nI y from nI_le q (by omega)) c17
              refine lv_lload_n F.1.1 F.1.2.1 d_Sur_sixfoldTo_20 rfl (lv_at hl 2 rfl) ?_
              refine lv_aload_n F.1.1 F.1.2.1 d_Sur_sixfoldTo_21 rfl (lv_at hl 0 rfl) ?_
              refine lv_aload_n F.1.1 F.1.2.1 d_Sur_sixfoldTo_22 rfl (lv_at hl 1 rfl) ?_
              refine lv_iload F.1.1 F.1.2.1 d_Sur_sixfoldTo_23 (lv_at hl 3 rfl) ?_
              refine lv_iconst (v := 5) F.1.1 F.1.2.1 d_Sur_sixfoldTo_25 (by decide) ?_
              refine lv_imul F.1.1 F.1.2.1 d_Sur_sixfoldTo_26 ?_
              refine lv_iload F.1.1 F.1.2.1 d_Sur_sixfoldTo_27 (lv_at hl 4 rfl) ?_
              refine lv_iadd F.1.1 F.1.2.1 d_Sur_sixfoldTo_29 ?_
              rw [show nI x * 5 + nI y = nI (x * 5 + y) from by rw [← nI_add, ← pk_mul]; rfl]
              refine hw_call1 (hw_runV F hL hS hH hl (c_Sur_sixfoldOfSquare l D L0 ad β γ oa ob f hA hB (x * 5 + y) (by omega)) ck_Sur (hasO_o hA) rfl q_ml_Sur_25 q_im_Sur_sixfoldOfSquare q_se_Sur_sixfoldOfSquare q_in_Sur q_co_Sur_sixfoldOfSquare rfl (k := 2) ⟨rfl, rfl, by decide +kernel, ⟨Nat.le_of_ble_eq_true rfl, Nat.le_of_ble_eq_true rfl⟩, Nat.le_of_ble_eq_true rfl⟩ rfl d_Sur_sixfoldTo_30 ⟨Nat.le_of_ble_eq_true rfl, Nat.le_of_ble_eq_true rfl⟩) hS (fun H locs hH hS => ?_)
              refine lv_ladd F.1.1 F.1.2.1 d_Sur_sixfoldTo_33 ?_
              refine lv_lstore_n F.1.1 F.1.2.1 d_Sur_sixfoldTo_34 rfl hl (by decide) rfl (fun ls hl => ?_)
              refine lv_iinc F.1.1 F.1.2.1 d_Sur_sixfoldTo_35 hl (k := 4) rfl rfl (by decide) rfl (fun ls hl => ?_)
              refine lv_goto (tgt := 14) F.1.1 F.1.2.1 d_Sur_sixfoldTo_38 (by decide) ?_
              refine ih14 (y + 1) H locs ls (by omega) (by omega) hH hS (lv_sub hl [2, 3, 1, 4, 0] ?_)
              show [_, _, _, _, _] = [_, _, _, _, _]
              rw [ii1]
              first | done | rfl
        exact L14 (4 - 0 + 1) 0 H locs ls (Nat.zero_le 4) (Nat.lt_succ_self _) hH hS (lv_sub hl [1, 2, 3, 4, 0] rfl)
  exact L5 (4 - 0 + 1) 0 s.heap [] ls (Nat.zero_le 4) (Nat.lt_succ_self _) hH hS (lv_sub hl [2, 3, 1, 0] rfl)
