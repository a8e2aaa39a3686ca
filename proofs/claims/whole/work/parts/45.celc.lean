/-! CellSettling: what tells; printed by wip/gen/celc.py -/
noncomputable def cif {α : Type} (p : Prop) (a b : α) : α := @ite α p (Classical.propDecidable p) a b
theorem cif_t {α : Type} {p : Prop} {a b : α} (h : p) : cif p a b = a := by unfold cif; exact if_pos h
theorem cif_f {α : Type} {p : Prop} {a b : α} (h : ¬ p) : cif p a b = b := by unfold cif; exact if_neg h
def xD (σ : Xs) : Prop := (∀ k, k < 4 → ∃ d, 100 ≤ d ∧ d ≤ 3000 ∧ oI (xK σ k) 3 = nI d) ∧ ∃ w, 1 ≤ w ∧ w ≤ 100 ∧ oI (xE σ) 0 = nI w
def xR (σ : Xs) : Prop := xB σ ∧ LI σ (tc (xT σ)) ∧ vH (xT σ) (xC σ) (tc (xT σ)) ∧ xD σ
theorem prod_nz {d w : Nat} (h : 100 ≤ d ∧ d ≤ 3000) (h2 : 1 ≤ w ∧ w ≤ 100) : ¬ (nI d).toInt64 * (nI w).toInt64 * (nI w).toInt64 = 0 := by
  rw [nI_l (by omega), nI_l (by omega), lN_mul, lN_mul]
  have h3 : 1 ≤ d * w * w := Nat.mul_pos (Nat.mul_pos (by omega) (by omega)) (by omega)
  have h4 : d * w * w ≤ 3000 * 100 * 100 := Nat.mul_le_mul (Nat.mul_le_mul h.2 h2.2) h2.2
  intro q
  have := (lN_eq (a := d * w * w) (b := 0) (by omega) (by omega)).mp q
  omega
theorem xD_nz {σ : Xs} {k : Nat} (h : xD σ) (hk : k < 4) : ¬ (oI (xK σ k) 3).toInt64 * (oI (xE σ) 0).toInt64 * (oI (xE σ) 0).toInt64 = 0 := by
  obtain ⟨d, h1, h2, e⟩ := h.1 k hk
  obtain ⟨w, h3, h4, e2⟩ := h.2
  rw [e, e2]
  exact prod_nz ⟨h1, h2⟩ ⟨h3, h4⟩
theorem fullT {T : Ob} {n : Nat} (h : oI T 5 = nI n) (hn : n ≤ 200) : (if oI T 5 < 200 then (0 : Int32) else 1) = 0 ↔ n < 200 := by
  rw [h]
  by_cases q : n < 200
  · rw [if_pos (show nI n < 200 from (nI_lt q (by omega) : nI n < nI 200))]; simp [q]
  · rw [if_neg (show ¬ nI n < 200 from fun z => q ((nI_ltI (by omega) (by omega)).mp (show nI n < nI 200 from z)))]; simp [q]
theorem fullL {o : Ob} (h : oI o 4 = nI (lc o)) (hn : lc o ≤ 10) : (if oI o 4 < 10 then (0 : Int32) else 1) = 0 ↔ lc o < 10 := by
  generalize lc o = n at h hn
  rw [h]
  by_cases q : n < 10
  · rw [if_pos (show nI n < 10 from (nI_lt q (by omega) : nI n < nI 10))]; simp [q]
  · rw [if_neg (show ¬ nI n < 10 from fun z => q ((nI_ltI (by omega) (by omega)).mp (show nI n < nI 10 from z)))]; simp [q]
theorem tk_0 {o : Ob} {n : Nat} {ld : Int64} {sh : Int32} : @ite Int32 (tkF o n ld sh) (tkFd o n ld sh) 1 0 = 0 ↔ ¬ tkF o n ld sh := by
  by_cases q : tkF o n ld sh
  · rw [@if_pos _ (tkFd o n ld sh) q]; simp [q]
  · rw [@if_neg _ (tkFd o n ld sh) q]; simp [q]
theorem ixM {x : Int32} {m : Nat} {b : Int64} (hb : b.toInt = m) (hm : m < 2 ^ 30 := by omega) (h : ¬ wi x.toInt64 1 b = 0) : ∃ t, t ≤ m ∧ x = nI t := by
  rw [wi_1, Int64_le, Int64_le, i2l_toInt, hb] at h
  obtain ⟨j, hj, e⟩ := vp_in_of (x := x) (n := m + 1) (vp_in_iff.mpr ⟨by have := h.1; simp at this; omega, by have := h.2; omega⟩) (by omega)
  exact ⟨j, by omega, e⟩
theorem lc_pos {o : Ob} (h : oI o 4 = nI (lc o)) (hn : lc o ≤ 10) (h0 : ¬ oI o 4 = 0) : 0 < lc o := by
  rcases Nat.eq_zero_or_pos (lc o) with q | q
  · rw [q] at h; exact absurd h h0
  · exact q
section EV
variable {σ : Xs} {wh pl nu : Int32} {am th : Int64} {k c q t C : Nat}
theorem ad_at {T : Ob} {n : Nat} : oA (adF T n wh pl nu am th) 0 n = wh ∧ oA (adF T n wh pl nu am th) 1 n = pl ∧ oA (adF T n wh pl nu am th) 2 n = nu := ⟨pk_us, pk_us, pk_us⟩
theorem ad_cL {T : Ob} {n : Nat} : cL (adF T n wh pl nu am th) c n = cL T c n := cL_ext (fun j hj => ⟨(ad_below hj).1, (ad_below hj).2.1⟩)
theorem ad_cR {T : Ob} {n : Nat} : cR (adF T n wh pl nu am th) c n = cR T c n := cR_ext (fun j hj => ⟨(ad_below hj).1, (ad_below hj).2.1⟩)
theorem evR (hI : LI σ (tc (xT σ))) (hk : k < 4) (h : rc (xK σ k) < 4) : EvS (adF (xT σ) (tc (xT σ)) 0 (nI k) nu am th) C (tc (xT σ)) :=
  Or.inl ⟨ad_at.1, k, hk, ad_at.2.1, by rw [ad_cR, ← (LI_rc hI hk).1]; exact h⟩
theorem evL (hI : LI σ (tc (xT σ))) (hc : c < xC σ) (h : lc (xL σ c) < 10) (hq : q < 4) : EvS (adF (xT σ) (tc (xT σ)) 1 (nI c) (nI q) am th) (xC σ) (tc (xT σ)) :=
  Or.inr (Or.inl ⟨ad_at.1, c, hc, ad_at.2.1, by rw [ad_cL, ← (LI_lc hI hc).1]; exact h, q, hq, ad_at.2.2⟩)
theorem evP (hI : LI σ (tc (xT σ))) (hc : c < xC σ) (h : 0 < lc (xL σ c)) (ht : t ≤ 20) : EvS (adF (xT σ) (tc (xT σ)) 2 (nI c) (nI t) am th) (xC σ) (tc (xT σ)) :=
  Or.inr (Or.inr (Or.inl ⟨ad_at.1, c, hc, ad_at.2.1, by rw [ad_cL, ← (LI_lc hI hc).1]; exact h, t, ht, ad_at.2.2⟩))
theorem evY (ht : t ≤ 50) : EvS (adF (xT σ) (tc (xT σ)) 3 pl (nI t) am th) C (tc (xT σ)) :=
  Or.inr (Or.inr (Or.inr (Or.inl ⟨ad_at.1, t, ht, ad_at.2.2⟩)))
theorem evC (hc : c < xC σ) : EvS (adF (xT σ) (tc (xT σ)) 4 (nI c) nu am th) (xC σ) (tc (xT σ)) :=
  Or.inr (Or.inr (Or.inr (Or.inr (Or.inl ⟨ad_at.1, c, hc, ad_at.2.1⟩))))
theorem evV (hc : c < xC σ) : EvS (adF (xT σ) (tc (xT σ)) 5 (nI c) nu am th) (xC σ) (tc (xT σ)) :=
  Or.inr (Or.inr (Or.inr (Or.inr (Or.inr ⟨ad_at.1, c, hc, ad_at.2.1⟩))))
theorem tl_C : xC (tlX σ wh pl nu am th) = xC σ := (act_keep).2.1
theorem tl_1 {i : Nat} (hi : i < 2 ^ 31 := by omega) : oI (xL (tlX σ 1 (nI i) nu am th) i) 4 = nI (lc (xL σ i) + 1) := by
  unfold tlX actX
  rw [if_neg (by rw [show oA (xT (xsT σ (adF (xT σ) (tc (xT σ)) 1 (nI i) nu am th))) 0 (tc (xT σ)) = 1 from ad_at.1]; decide), if_pos (show oA (xT (xsT σ (adF (xT σ) (tc (xT σ)) 1 (nI i) nu am th))) 0 (tc (xT σ)) = 1 from ad_at.1), show oA (xT (xsT σ (adF (xT σ) (tc (xT σ)) 1 (nI i) nu am th))) 1 (tc (xT σ)) = nI i from ad_at.2.1, nI_clamp hi]
  show oI (va_up (xL σ) i _ i) 4 = _
  rw [va_up_self]; rfl
theorem tl_3 (ht : t < 2 ^ 31) : oI (xE (tlX σ 3 pl (nI t) am th)) 8 = oI (xE σ) 8 + nI t := by
  have h0 : oA (xT (xsT σ (adF (xT σ) (tc (xT σ)) 3 pl (nI t) am th))) 0 (tc (xT σ)) = 3 := ad_at.1
  unfold tlX actX
  rw [if_neg (by rw [h0]; decide), if_neg (by rw [h0]; decide), if_neg (by rw [h0]; decide), if_pos h0, show oA (xT (xsT σ (adF (xT σ) (tc (xT σ)) 3 pl (nI t) am th))) 2 (tc (xT σ)) = nI t from ad_at.2.2, nI_clamp ht]
  rfl
theorem tl_5 : oI (xE (tlX σ 5 pl nu am th)) 9 = oI (xE σ) 9 + 1 := by
  have h0 : oA (xT (xsT σ (adF (xT σ) (tc (xT σ)) 5 pl nu am th))) 0 (tc (xT σ)) = 5 := ad_at.1
  unfold tlX actX
  rw [if_neg (by rw [h0]; decide), if_neg (by rw [h0]; decide), if_neg (by rw [h0]; decide), if_neg (by rw [h0]; decide), if_neg (by rw [h0]; decide), if_pos h0]
  rfl
end EV
def rwP (σ : Xs) (kind : Int32) (load : Int64) (by_ : Int32) : Prop := ¬ wi kind.toInt64 0 3 = 0 ∧ tkF (xK σ kind.toNatClampNeg) (rc (xK σ kind.toNatClampNeg)) load by_ ∧ tc (xT σ) < 200
def lyP (σ : Xs) (column kind : Int32) (kg : Int64) : Prop := ¬ wi column.toInt64 0 (lN (xC σ) - 1) = 0 ∧ ¬ wi kind.toInt64 0 3 = 0 ∧ ¬ wi kg 1 1000000 = 0 ∧ lc (xL σ column.toNatClampNeg) < 10 ∧ tc (xT σ) < 200
def rlP (σ : Xs) (column passes : Int32) : Prop := ¬ wi column.toInt64 0 (lN (xC σ) - 1) = 0 ∧ ¬ oI (xL σ column.toNatClampNeg) 4 = 0 ∧ ¬ wi passes.toInt64 1 20 = 0 ∧ tc (xT σ) < 200
def rnP (σ : Xs) (years : Int32) : Prop := ¬ wi years.toInt64 1 50 = 0 ∧ ¬ 100 < oI (xE σ) 8 + years ∧ tc (xT σ) < 200
def cvP (σ : Xs) (column mm : Int32) : Prop := ¬ wi column.toInt64 0 (lN (xC σ) - 1) = 0 ∧ ¬ wi mm.toInt64 1 10000 = 0 ∧ tc (xT σ) < 200
def svP (σ : Xs) (column : Int32) (mm : Int64) : Prop := ¬ wi column.toInt64 0 (lN (xC σ) - 1) = 0 ∧ ¬ wi mm 0 1000000000 = 0 ∧ ¬ 12 ≤ oI (xE σ) 9 ∧ tc (xT σ) < 200
set_option maxHeartbeats 1000000 in
theorem c_Cel_row (l : Launch) (D : va_G) (L0 : Nat) (ad : Nat → Nat) (σ : Xs) (f0 : Nat → Option va_E) (hR : xR σ) (kind : Int32) (load : Int64) (by_ : Int32) : Met l y_Cel_row (wd y_Cel_row b_Cel_row 6 (some .boolean)) { frames := 5, cells := 0, slots := 0, locals := 128 } (va_Pc [.ref (ad 0), .int kind, .long load, .int by_] (cp D L0 ad (celP D ad σ f0))) (dt D L0 ad (some (.int (cif (rwP σ kind load by_) 1 0))) (celP D ad (cif (rwP σ kind load by_) (tlX σ 0 kind by_ load 0) σ) f0)) 0 0 (fun q => L0 ≤ q) := by
  refine hw_met (by decide) (Nat.le_of_ble_eq_true rfl) ?_
  intro p e s m below meth c ls F hr hlocks hnm hL hH hS hl
  have hX := xOK_of hR.1 hR.2.1
  have hC := hR.1.1
  have hTc := hR.1.2.2.2.2.2
  refine lv_aload_n F.1.1 F.1.2.1 d_Cel_row_0 rfl (lv_at hl 0 rfl) ?_
  refine lv_iload_n F.1.1 F.1.2.1 d_Cel_row_1 rfl (lv_at hl 1 rfl) ?_
  refine hw_call1 (hw_runV F hL hS hH hl (c_Cel_kindAt l D L0 ad σ f0 hX _) ck_Cel (hasO_o celE) rfl q_ml_Cel_54 q_im_Cel_kindAt q_se_Cel_kindAt q_in_Cel q_co_Cel_kindAt rfl (k := 1) ⟨rfl, rfl, by decide +kernel, ⟨Nat.le_of_ble_eq_true rfl, Nat.le_of_ble_eq_true rfl⟩, Nat.le_of_ble_eq_true rfl⟩ rfl d_Cel_row_2 ⟨Nat.le_of_ble_eq_true rfl, Nat.le_of_ble_eq_true rfl⟩) hS (fun H locs hH hS => ?_)
  by_cases hk0 : wi kind.toInt64 0 3 = 0
  · refine W_top (if_pos hk0) ?_
    refine lv_astoreN F.1.1 F.1.2.1 d_Cel_row_5 hl (by decide) rfl (fun ls hl => ?_)
    refine lv_aloadN F.1.1 F.1.2.1 d_Cel_row_7 (lv_at hl 0 rfl) ?_
    refine lv_ifnullN (tgt := 33) F.1.1 F.1.2.1 d_Cel_row_9 (by decide) ?_
    refine lv_iconst (v := 0) F.1.1 F.1.2.1 d_Cel_row_33 (by decide) ?_
    exact hw_zret F hr hlocks hH hS d_Cel_row_34 (by first | decide | (split <;> decide) | (unfold cif; split <;> decide)) (cif_f (fun q => q.1 hk0)).symm (by rw [cif_f (fun q => q.1 hk0)])
  · obtain ⟨k, hk, rfl⟩ := ixK hk0
    refine W_top (v' := .ref (ad (32 + 8 * k))) (by rw [if_neg hk0, nI_clamp (by omega)]) ?_
    refine lv_astore F.1.1 F.1.2.1 d_Cel_row_5 hl (by decide) rfl (fun ls hl => ?_)
    refine lv_aload F.1.1 F.1.2.1 d_Cel_row_7 (lv_at hl 0 rfl) ?_
    refine lv_ifnull F.1.1 F.1.2.1 d_Cel_row_9 ?_
    refine lv_aload F.1.1 F.1.2.1 d_Cel_row_12 (lv_at hl 0 rfl) ?_
    refine lv_lload_n F.1.1 F.1.2.1 d_Cel_row_14 rfl (lv_at hl 3 rfl) ?_
    refine lv_iload F.1.1 F.1.2.1 d_Cel_row_15 (lv_at hl 4 rfl) ?_
    refine hw_call1 (hw_runV F hL hS hH hl (c_Kin_takesRow l D L0 ad (32 + 8 * k) (xK σ k) _ (celK hk) load by_ (rc (xK σ k)) (hX.2.2.2.2.2.2.1 k hk).1 (hX.2.2.2.2.2.2.1 k hk).2) ck_Kin (hasO_o (celK hk)) rfl q_ml_Cel_63 q_im_Kin_takesRow q_se_Kin_takesRow q_in_Kin q_co_Kin_takesRow rfl (k := 2) ⟨rfl, rfl, by decide +kernel, ⟨Nat.le_of_ble_eq_true rfl, Nat.le_of_ble_eq_true rfl⟩, Nat.le_of_ble_eq_true rfl⟩ rfl d_Cel_row_17 ⟨Nat.le_of_ble_eq_true rfl, Nat.le_of_ble_eq_true rfl⟩) hS (fun H locs hH hS => ?_)
    refine lv_if_eq (tgt := 33) F.1.1 F.1.2.1 d_Cel_row_20 (by decide) (fun c20 => ?_) (fun c20 => ?_)
    · rw [tk_0] at c20
      refine lv_iconst (v := 0) F.1.1 F.1.2.1 d_Cel_row_33 (by decide) ?_
      exact hw_zret F hr hlocks hH hS d_Cel_row_34 (by first | decide | (split <;> decide) | (unfold cif; split <;> decide)) (cif_f (fun q => c20 (by have := q.2.1; rwa [nI_clamp (by omega)] at this))).symm (by rw [cif_f (fun q => c20 (by have := q.2.1; rwa [nI_clamp (by omega)] at this))])
    · rw [tk_0] at c20
      refine lv_aload_n F.1.1 F.1.2.1 d_Cel_row_23 rfl (lv_at hl 1 rfl) ?_
      refine gX ck_Cel F (hH.to celE.symm) q_fl_Cel_38 (k := 3) (by decide) rfl d_Cel_row_24 ?_
      refine hw_call1 (hw_runV F hL hS hH hl (c_Tol_isFull l D L0 ad 16 (xT σ) _ celT) ck_Tol (hasO_o celT) rfl q_ml_Cel_67 q_im_Tol_isFull q_se_Tol_isFull q_in_Tol q_co_Tol_isFull rfl (k := 0) ⟨rfl, rfl, by decide +kernel, ⟨Nat.le_of_ble_eq_true rfl, Nat.le_of_ble_eq_true rfl⟩, Nat.le_of_ble_eq_true rfl⟩ rfl d_Cel_row_27 ⟨Nat.le_of_ble_eq_true rfl, Nat.le_of_ble_eq_true rfl⟩) hS (fun H locs hH hS => ?_)
      refine lv_if_eq (tgt := 35) F.1.1 F.1.2.1 d_Cel_row_30 (by decide) (fun c30 => ?_) (fun c30 => ?_)
      · rw [fullT hTc.1 hTc.2] at c30
        refine lv_aload_n F.1.1 F.1.2.1 d_Cel_row_35 rfl (lv_at hl 1 rfl) ?_
        refine lv_iconst (v := 0) F.1.1 F.1.2.1 d_Cel_row_36 (by decide) ?_
        refine lv_iload_n F.1.1 F.1.2.1 d_Cel_row_37 rfl (lv_at hl 2 rfl) ?_
        refine lv_iload F.1.1 F.1.2.1 d_Cel_row_38 (lv_at hl 4 rfl) ?_
        refine lv_lload_n F.1.1 F.1.2.1 d_Cel_row_40 rfl (lv_at hl 3 rfl) ?_
        refine lv_lconst (v := 0) F.1.1 F.1.2.1 d_Cel_row_41 (by decide) ?_
        refine hw_call0 (hw_runV F hL hS hH hl (c_Cel_tell l D L0 ad σ f0 hR.1 hR.2.1 c30 0 (nI k) by_ load 0 (evR hR.2.1 hk (Classical.not_not.mp c20).1)) ck_Cel (hasO_o celE) rfl q_ml_Cel_71 q_im_Cel_tell q_se_Cel_tell q_in_Cel q_co_Cel_tell rfl (k := 5) ⟨rfl, rfl, by decide +kernel, ⟨Nat.le_of_ble_eq_true rfl, Nat.le_of_ble_eq_true rfl⟩, Nat.le_of_ble_eq_true rfl⟩ rfl d_Cel_row_42 ⟨Nat.le_of_ble_eq_true rfl, Nat.le_of_ble_eq_true rfl⟩) hS (fun H locs hH hS => ?_)
        refine lv_iconst (v := 1) F.1.1 F.1.2.1 d_Cel_row_45 (by decide) ?_
        exact hw_zret F hr hlocks hH hS d_Cel_row_46 (by first | decide | (split <;> decide) | (unfold cif; split <;> decide)) (cif_t ⟨hk0, by rw [nI_clamp (by omega)]; exact Classical.not_not.mp c20, c30⟩).symm (by rw [cif_t ⟨hk0, by rw [nI_clamp (by omega)]; exact Classical.not_not.mp c20, c30⟩])
      · rw [fullT hTc.1 hTc.2] at c30
        refine lv_iconst (v := 0) F.1.1 F.1.2.1 d_Cel_row_33 (by decide) ?_
        exact hw_zret F hr hlocks hH hS d_Cel_row_34 (by first | decide | (split <;> decide) | (unfold cif; split <;> decide)) (cif_f (fun q => c30 q.2.2)).symm (by rw [cif_f (fun q => c30 q.2.2)])
set_option maxHeartbeats 1000000 in
theorem c_Cel_layer (l : Launch) (D : va_G) (L0 : Nat) (ad : Nat → Nat) (σ : Xs) (f0 : Nat → Option va_E) (hR : xR σ) (column kind : Int32) (kg : Int64) : Met l y_Cel_layer (wd y_Cel_layer b_Cel_layer 7 (some .int)) { frames := 5, cells := 0, slots := 0, locals := 128 } (va_Pc [.ref (ad 0), .int column, .int kind, .long kg] (cp D L0 ad (celP D ad σ f0))) (dt D L0 ad (some (.int (cif (lyP σ column kind kg) (nI (lc (xL σ column.toNatClampNeg))) (-1)))) (celP D ad (cif (lyP σ column kind kg) (tlX σ 1 column kind kg (ftF σ kind.toNatClampNeg kg)) σ) f0)) 0 0 (fun q => L0 ≤ q) := by
  refine hw_met (by decide) (Nat.le_of_ble_eq_true rfl) ?_
  intro p e s m below meth c ls F hr hlocks hnm hL hH hS hl
  have hX := xOK_of hR.1 hR.2.1
  have hC := hR.1.1
  have hTc := hR.1.2.2.2.2.2
  refine lv_aload_n F.1.1 F.1.2.1 d_Cel_layer_0 rfl (lv_at hl 0 rfl) ?_
  refine lv_iload_n F.1.1 F.1.2.1 d_Cel_layer_1 rfl (lv_at hl 1 rfl) ?_
  refine hw_call1 (hw_runV F hL hS hH hl (c_Cel_columnAt l D L0 ad σ f0 hX _) ck_Cel (hasO_o celE) rfl q_ml_Cel_75 q_im_Cel_columnAt q_se_Cel_columnAt q_in_Cel q_co_Cel_columnAt rfl (k := 1) ⟨rfl, rfl, by decide +kernel, ⟨Nat.le_of_ble_eq_true rfl, Nat.le_of_ble_eq_true rfl⟩, Nat.le_of_ble_eq_true rfl⟩ rfl d_Cel_layer_2 ⟨Nat.le_of_ble_eq_true rfl, Nat.le_of_ble_eq_true rfl⟩) hS (fun H locs hH hS => ?_)
  by_cases hc0 : wi column.toInt64 0 (lN (xC σ) - 1) = 0
  · refine W_top (if_pos hc0) ?_
    refine lv_astoreN F.1.1 F.1.2.1 d_Cel_layer_5 hl (by decide) rfl (fun ls hl => ?_)
    refine lv_aload_n F.1.1 F.1.2.1 d_Cel_layer_7 rfl (lv_at hl 1 rfl) ?_
    refine lv_iload_n F.1.1 F.1.2.1 d_Cel_layer_8 rfl (lv_at hl 3 rfl) ?_
    refine hw_call1 (hw_runV F hL hS hH hl (c_Cel_kindAt l D L0 ad σ f0 hX _) ck_Cel (hasO_o celE) rfl q_ml_Cel_54 q_im_Cel_kindAt q_se_Cel_kindAt q_in_Cel q_co_Cel_kindAt rfl (k := 1) ⟨rfl, rfl, by decide +kernel, ⟨Nat.le_of_ble_eq_true rfl, Nat.le_of_ble_eq_true rfl⟩, Nat.le_of_ble_eq_true rfl⟩ rfl d_Cel_layer_9 ⟨Nat.le_of_ble_eq_true rfl, Nat.le_of_ble_eq_true rfl⟩) hS (fun H locs hH hS => ?_)
    by_cases hk0 : wi kind.toInt64 0 3 = 0
    · refine W_top (if_pos hk0) ?_
      refine lv_astoreN F.1.1 F.1.2.1 d_Cel_layer_12 hl (by decide) rfl (fun ls hl => ?_)
      refine lv_aloadN F.1.1 F.1.2.1 d_Cel_layer_14 (lv_at hl 1 rfl) ?_
      refine lv_ifnullN (tgt := 35) F.1.1 F.1.2.1 d_Cel_layer_16 (by decide) ?_
      refine lv_iconst (v := -1) F.1.1 F.1.2.1 d_Cel_layer_35 (by decide) ?_
      exact hw_iret F hr hlocks hH hS d_Cel_layer_36 (cif_f (fun q => q.1 hc0)).symm (by rw [cif_f (fun q => q.1 hc0)])
    · obtain ⟨k, hk, rfl⟩ := ixK hk0
      refine W_top (v' := .ref (ad (32 + 8 * k))) (by rw [if_neg hk0, nI_clamp (by omega)]) ?_
      refine lv_astore F.1.1 F.1.2.1 d_Cel_layer_12 hl (by decide) rfl (fun ls hl => ?_)
      refine lv_aloadN F.1.1 F.1.2.1 d_Cel_layer_14 (lv_at hl 1 rfl) ?_
      refine lv_ifnullN (tgt := 35) F.1.1 F.1.2.1 d_Cel_layer_16 (by decide) ?_
      refine lv_iconst (v := -1) F.1.1 F.1.2.1 d_Cel_layer_35 (by decide) ?_
      exact hw_iret F hr hlocks hH hS d_Cel_layer_36 (cif_f (fun q => q.1 hc0)).symm (by rw [cif_f (fun q => q.1 hc0)])
  · obtain ⟨i, hi, rfl⟩ := ixN (by omega) hc0
    refine W_top (v' := .ref (ad (64 + 8 * i))) (by rw [if_neg hc0, nI_clamp (by omega)]) ?_
    refine lv_astore F.1.1 F.1.2.1 d_Cel_layer_5 hl (by decide) rfl (fun ls hl => ?_)
    refine lv_aload_n F.1.1 F.1.2.1 d_Cel_layer_7 rfl (lv_at hl 1 rfl) ?_
    refine lv_iload_n F.1.1 F.1.2.1 d_Cel_layer_8 rfl (lv_at hl 3 rfl) ?_
    refine hw_call1 (hw_runV F hL hS hH hl (c_Cel_kindAt l D L0 ad σ f0 hX _) ck_Cel (hasO_o celE) rfl q_ml_Cel_54 q_im_Cel_kindAt q_se_Cel_kindAt q_in_Cel q_co_Cel_kindAt rfl (k := 1) ⟨rfl, rfl, by decide +kernel, ⟨Nat.le_of_ble_eq_true rfl, Nat.le_of_ble_eq_true rfl⟩, Nat.le_of_ble_eq_true rfl⟩ rfl d_Cel_layer_9 ⟨Nat.le_of_ble_eq_true rfl, Nat.le_of_ble_eq_true rfl⟩) hS (fun H locs hH hS => ?_)
    by_cases hk0 : wi kind.toInt64 0 3 = 0
    · refine W_top (if_pos hk0) ?_
      refine lv_astoreN F.1.1 F.1.2.1 d_Cel_layer_12 hl (by decide) rfl (fun ls hl => ?_)
      refine lv_aload F.1.1 F.1.2.1 d_Cel_layer_14 (lv_at hl 1 rfl) ?_
      refine lv_ifnull F.1.1 F.1.2.1 d_Cel_layer_16 ?_
      refine lv_aloadN F.1.1 F.1.2.1 d_Cel_layer_19 (lv_at hl 0 rfl) ?_
      refine lv_ifnullN (tgt := 35) F.1.1 F.1.2.1 d_Cel_layer_21 (by decide) ?_
      refine lv_iconst (v := -1) F.1.1 F.1.2.1 d_Cel_layer_35 (by decide) ?_
      exact hw_iret F hr hlocks hH hS d_Cel_layer_36 (cif_f (fun q => q.2.1 hk0)).symm (by rw [cif_f (fun q => q.2.1 hk0)])
    · obtain ⟨k, hk, rfl⟩ := ixK hk0
      refine W_top (v' := .ref (ad (32 + 8 * k))) (by rw [if_neg hk0, nI_clamp (by omega)]) ?_
      refine lv_astore F.1.1 F.1.2.1 d_Cel_layer_12 hl (by decide) rfl (fun ls hl => ?_)
      refine lv_aload F.1.1 F.1.2.1 d_Cel_layer_14 (lv_at hl 1 rfl) ?_
      refine lv_ifnull F.1.1 F.1.2.1 d_Cel_layer_16 ?_
      refine lv_aload F.1.1 F.1.2.1 d_Cel_layer_19 (lv_at hl 0 rfl) ?_
      refine lv_ifnull F.1.1 F.1.2.1 d_Cel_layer_21 ?_
      refine lv_lload_n F.1.1 F.1.2.1 d_Cel_layer_24 rfl (lv_at hl 5 rfl) ?_
      refine lv_lconst (v := 1) F.1.1 F.1.2.1 d_Cel_layer_25 (by decide) ?_
      refine lv_ldc2 F.1.1 F.1.2.1 F.1.2.2.2.1 (F.1.2.2.2.2 _ q_cl_Cel_79) d_Cel_layer_26 ?_
      refine hw_call1 (hw_runS F hL hS hH hl (c_Cel_isWithin l D L0 ad _ _ _ _) q_ml_Cel_11 q_st_Cel_isWithin q_in_Cel q_co_Cel_isWithin rfl (k := 3) ⟨rfl, rfl, by decide +kernel, ⟨Nat.le_of_ble_eq_true rfl, Nat.le_of_ble_eq_true rfl⟩, Nat.le_of_ble_eq_true rfl⟩ rfl d_Cel_layer_29 ⟨Nat.le_of_ble_eq_true rfl, Nat.le_of_ble_eq_true rfl⟩) hS (fun H locs hH hS => ?_)
      refine lv_if_ne (tgt := 37) F.1.1 F.1.2.1 d_Cel_layer_32 (by decide) (fun c32 => ?_) (fun c32 => ?_)
      · refine lv_aload F.1.1 F.1.2.1 d_Cel_layer_37 (lv_at hl 1 rfl) ?_
        refine hw_call1 (hw_runV F hL hS hH hl (c_Col_isFull l D L0 ad (64 + 8 * i) (xL σ i) _ (celL hi hC.2)) ck_Col (hasO_o (celL hi hC.2)) rfl q_ml_Cel_81 q_im_Col_isFull q_se_Col_isFull q_in_Col q_co_Col_isFull rfl (k := 0) ⟨rfl, rfl, by decide +kernel, ⟨Nat.le_of_ble_eq_true rfl, Nat.le_of_ble_eq_true rfl⟩, Nat.le_of_ble_eq_true rfl⟩ rfl d_Cel_layer_39 ⟨Nat.le_of_ble_eq_true rfl, Nat.le_of_ble_eq_true rfl⟩) hS (fun H locs hH hS => ?_)
        refine lv_if_ne (tgt := 55) F.1.1 F.1.2.1 d_Cel_layer_42 (by decide) (fun c42 => ?_) (fun c42 => ?_)
        · rw [fullL (hX.2.2.2.2.2.1 i hi).1 (hX.2.2.2.2.2.1 i hi).2] at c42
          refine lv_iconst (v := -1) F.1.1 F.1.2.1 d_Cel_layer_55 (by decide) ?_
          exact hw_iret F hr hlocks hH hS d_Cel_layer_56 (cif_f (fun q => c42 (by have := q.2.2.2.1; rwa [nI_clamp (by omega)] at this))).symm (by rw [cif_f (fun q => c42 (by have := q.2.2.2.1; rwa [nI_clamp (by omega)] at this))])
        · rw [fullL (hX.2.2.2.2.2.1 i hi).1 (hX.2.2.2.2.2.1 i hi).2] at c42
          refine lv_aload_n F.1.1 F.1.2.1 d_Cel_layer_45 rfl (lv_at hl 2 rfl) ?_
          refine gX ck_Cel F (hH.to celE.symm) q_fl_Cel_38 (k := 3) (by decide) rfl d_Cel_layer_46 ?_
          refine hw_call1 (hw_runV F hL hS hH hl (c_Tol_isFull l D L0 ad 16 (xT σ) _ celT) ck_Tol (hasO_o celT) rfl q_ml_Cel_67 q_im_Tol_isFull q_se_Tol_isFull q_in_Tol q_co_Tol_isFull rfl (k := 0) ⟨rfl, rfl, by decide +kernel, ⟨Nat.le_of_ble_eq_true rfl, Nat.le_of_ble_eq_true rfl⟩, Nat.le_of_ble_eq_true rfl⟩ rfl d_Cel_layer_49 ⟨Nat.le_of_ble_eq_true rfl, Nat.le_of_ble_eq_true rfl⟩) hS (fun H locs hH hS => ?_)
          refine lv_if_eq (tgt := 57) F.1.1 F.1.2.1 d_Cel_layer_52 (by decide) (fun c52 => ?_) (fun c52 => ?_)
          · rw [fullT hTc.1 hTc.2] at c52
            refine lv_aload_n F.1.1 F.1.2.1 d_Cel_layer_57 rfl (lv_at hl 2 rfl) ?_
            refine lv_iconst (v := 1) F.1.1 F.1.2.1 d_Cel_layer_58 (by decide) ?_
            refine lv_iload_n F.1.1 F.1.2.1 d_Cel_layer_59 rfl (lv_at hl 3 rfl) ?_
            refine lv_iload_n F.1.1 F.1.2.1 d_Cel_layer_60 rfl (lv_at hl 4 rfl) ?_
            refine lv_lload_n F.1.1 F.1.2.1 d_Cel_layer_61 rfl (lv_at hl 5 rfl) ?_
            refine lv_aload_n F.1.1 F.1.2.1 d_Cel_layer_62 rfl (lv_at hl 2 rfl) ?_
            refine lv_aload F.1.1 F.1.2.1 d_Cel_layer_63 (lv_at hl 0 rfl) ?_
            refine lv_lload_n F.1.1 F.1.2.1 d_Cel_layer_65 rfl (lv_at hl 5 rfl) ?_
            refine hw_call1 (hw_runV F hL hS hH hl (c_Cel_firstThickness l D L0 ad σ f0 hX k hk kg (xD_nz hR.2.2.2 hk)) ck_Cel (hasO_o celE) rfl q_ml_Cel_82 q_im_Cel_firstThickness q_se_Cel_firstThickness q_in_Cel q_co_Cel_firstThickness rfl (k := 2) ⟨rfl, rfl, by decide +kernel, ⟨Nat.le_of_ble_eq_true rfl, Nat.le_of_ble_eq_true rfl⟩, Nat.le_of_ble_eq_true rfl⟩ rfl d_Cel_layer_66 ⟨Nat.le_of_ble_eq_true rfl, Nat.le_of_ble_eq_true rfl⟩) hS (fun H locs hH hS => ?_)
            refine hw_call0 (hw_runV F hL hS hH hl (c_Cel_tell l D L0 ad σ f0 hR.1 hR.2.1 c52 1 (nI i) (nI k) kg (ftF σ k kg) (evL hR.2.1 hi c42 hk)) ck_Cel (hasO_o celE) rfl q_ml_Cel_71 q_im_Cel_tell q_se_Cel_tell q_in_Cel q_co_Cel_tell rfl (k := 5) ⟨rfl, rfl, by decide +kernel, ⟨Nat.le_of_ble_eq_true rfl, Nat.le_of_ble_eq_true rfl⟩, Nat.le_of_ble_eq_true rfl⟩ rfl d_Cel_layer_69 ⟨Nat.le_of_ble_eq_true rfl, Nat.le_of_ble_eq_true rfl⟩) hS (fun H locs hH hS => ?_)
            refine lv_aload F.1.1 F.1.2.1 d_Cel_layer_72 (lv_at hl 1 rfl) ?_
            refine gIN ck_Col F (hH.to (celL (σ := tlX σ 1 (nI i) (nI k) kg (ftF σ k kg)) (by rw [tl_C]; exact hi) (by rw [tl_C]; exact hC.2)).symm) q_fn_Cel_86 (k := 4) (by decide) rfl d_Cel_layer_74 ?_
            refine lv_iconst (v := 1) F.1.1 F.1.2.1 d_Cel_layer_77 (by decide) ?_
            refine lv_isub F.1.1 F.1.2.1 d_Cel_layer_78 ?_
            exact hw_iret F hr hlocks hH hS d_Cel_layer_79 (by rw [cif_t ⟨hc0, hk0, c32, by rw [nI_clamp (by omega)]; exact c42, c52⟩, nI_clamp (show i < 2 ^ 31 by omega), tl_1]; exact nI_pred _) (by rw [cif_t ⟨hc0, hk0, c32, by rw [nI_clamp (by omega)]; exact c42, c52⟩, nI_clamp (show k < 2 ^ 31 by omega)])
          · rw [fullT hTc.1 hTc.2] at c52
            refine lv_iconst (v := -1) F.1.1 F.1.2.1 d_Cel_layer_55 (by decide) ?_
            exact hw_iret F hr hlocks hH hS d_Cel_layer_56 (cif_f (fun q => c52 q.2.2.2.2)).symm (by rw [cif_f (fun q => c52 q.2.2.2.2)])
      · refine lv_iconst (v := -1) F.1.1 F.1.2.1 d_Cel_layer_35 (by decide) ?_
        exact hw_iret F hr hlocks hH hS d_Cel_layer_36 (cif_f (fun q => q.2.2.1 c32)).symm (by rw [cif_f (fun q => q.2.2.1 c32)])
set_option maxHeartbeats 1000000 in
theorem c_Cel_roll (l : Launch) (D : va_G) (L0 : Nat) (ad : Nat → Nat) (σ : Xs) (f0 : Nat → Option va_E) (hR : xR σ) (column passes : Int32) : Met l y_Cel_roll (wd y_Cel_roll b_Cel_roll 4 (some .boolean)) { frames := 5, cells := 0, slots := 0, locals := 128 } (va_Pc [.ref (ad 0), .int column, .int passes] (cp D L0 ad (celP D ad σ f0))) (dt D L0 ad (some (.int (cif (rlP σ column passes) 1 0))) (celP D ad (cif (rlP σ column passes) (tlX σ 2 column passes 0 0) σ) f0)) 0 0 (fun q => L0 ≤ q) := by
  refine hw_met (by decide) (Nat.le_of_ble_eq_true rfl) ?_
  intro p e s m below meth c ls F hr hlocks hnm hL hH hS hl
  have hX := xOK_of hR.1 hR.2.1
  have hC := hR.1.1
  have hTc := hR.1.2.2.2.2.2
  refine lv_aload_n F.1.1 F.1.2.1 d_Cel_roll_0 rfl (lv_at hl 0 rfl) ?_
  refine lv_iload_n F.1.1 F.1.2.1 d_Cel_roll_1 rfl (lv_at hl 1 rfl) ?_
  refine hw_call1 (hw_runV F hL hS hH hl (c_Cel_columnAt l D L0 ad σ f0 hX _) ck_Cel (hasO_o celE) rfl q_ml_Cel_75 q_im_Cel_columnAt q_se_Cel_columnAt q_in_Cel q_co_Cel_columnAt rfl (k := 1) ⟨rfl, rfl, by decide +kernel, ⟨Nat.le_of_ble_eq_true rfl, Nat.le_of_ble_eq_true rfl⟩, Nat.le_of_ble_eq_true rfl⟩ rfl d_Cel_roll_2 ⟨Nat.le_of_ble_eq_true rfl, Nat.le_of_ble_eq_true rfl⟩) hS (fun H locs hH hS => ?_)
  by_cases hc0 : wi column.toInt64 0 (lN (xC σ) - 1) = 0
  · refine W_top (if_pos hc0) ?_
    refine lv_astore_nN F.1.1 F.1.2.1 d_Cel_roll_5 rfl hl (by decide) rfl (fun ls hl => ?_)
    refine lv_aload_nN F.1.1 F.1.2.1 d_Cel_roll_6 rfl (lv_at hl 0 rfl) ?_
    refine lv_ifnullN (tgt := 39) F.1.1 F.1.2.1 d_Cel_roll_7 (by decide) ?_
    refine lv_iconst (v := 0) F.1.1 F.1.2.1 d_Cel_roll_39 (by decide) ?_
    exact hw_zret F hr hlocks hH hS d_Cel_roll_40 (by first | decide | (split <;> decide) | (unfold cif; split <;> decide)) (cif_f (fun q => q.1 hc0)).symm (by rw [cif_f (fun q => q.1 hc0)])
  · obtain ⟨i, hi, rfl⟩ := ixN (by omega) hc0
    refine W_top (v' := .ref (ad (64 + 8 * i))) (by rw [if_neg hc0, nI_clamp (by omega)]) ?_
    refine lv_astore_n F.1.1 F.1.2.1 d_Cel_roll_5 rfl hl (by decide) rfl (fun ls hl => ?_)
    refine lv_aload_n F.1.1 F.1.2.1 d_Cel_roll_6 rfl (lv_at hl 0 rfl) ?_
    refine lv_ifnull F.1.1 F.1.2.1 d_Cel_roll_7 ?_
    refine lv_aload_n F.1.1 F.1.2.1 d_Cel_roll_10 rfl (lv_at hl 0 rfl) ?_
    refine gIN ck_Col F (hH.to (celL hi hC.2).symm) q_fn_Cel_86 (k := 4) (by decide) rfl d_Cel_roll_11 ?_
    refine lv_if_eq (tgt := 39) F.1.1 F.1.2.1 d_Cel_roll_14 (by decide) (fun c14 => ?_) (fun c14 => ?_)
    · refine lv_iconst (v := 0) F.1.1 F.1.2.1 d_Cel_roll_39 (by decide) ?_
      exact hw_zret F hr hlocks hH hS d_Cel_roll_40 (by first | decide | (split <;> decide) | (unfold cif; split <;> decide)) (cif_f (fun q => q.2.1 (by rw [nI_clamp (by omega)]; exact c14))).symm (by rw [cif_f (fun q => q.2.1 (by rw [nI_clamp (by omega)]; exact c14))])
    · refine lv_iload_n F.1.1 F.1.2.1 d_Cel_roll_17 rfl (lv_at hl 3 rfl) ?_
      refine lv_i2l F.1.1 F.1.2.1 d_Cel_roll_18 rfl ?_
      refine lv_lconst (v := 1) F.1.1 F.1.2.1 d_Cel_roll_19 (by decide) ?_
      refine lv_ldc2 F.1.1 F.1.2.1 F.1.2.2.2.1 (F.1.2.2.2.2 _ q_cl_Cel_89) d_Cel_roll_20 ?_
      refine hw_call1 (hw_runS F hL hS hH hl (c_Cel_isWithin l D L0 ad _ _ _ _) q_ml_Cel_11 q_st_Cel_isWithin q_in_Cel q_co_Cel_isWithin rfl (k := 3) ⟨rfl, rfl, by decide +kernel, ⟨Nat.le_of_ble_eq_true rfl, Nat.le_of_ble_eq_true rfl⟩, Nat.le_of_ble_eq_true rfl⟩ rfl d_Cel_roll_23 ⟨Nat.le_of_ble_eq_true rfl, Nat.le_of_ble_eq_true rfl⟩) hS (fun H locs hH hS => ?_)
      refine lv_if_eq (tgt := 39) F.1.1 F.1.2.1 d_Cel_roll_26 (by decide) (fun c26 => ?_) (fun c26 => ?_)
      · refine lv_iconst (v := 0) F.1.1 F.1.2.1 d_Cel_roll_39 (by decide) ?_
        exact hw_zret F hr hlocks hH hS d_Cel_roll_40 (by first | decide | (split <;> decide) | (unfold cif; split <;> decide)) (cif_f (fun q => q.2.2.1 c26)).symm (by rw [cif_f (fun q => q.2.2.1 c26)])
      · obtain ⟨t, ht, rfl⟩ := ixM (m := 20) (b := 20) rfl (h := c26)
        refine lv_aload_n F.1.1 F.1.2.1 d_Cel_roll_29 rfl (lv_at hl 1 rfl) ?_
        refine gX ck_Cel F (hH.to celE.symm) q_fl_Cel_38 (k := 3) (by decide) rfl d_Cel_roll_30 ?_
        refine hw_call1 (hw_runV F hL hS hH hl (c_Tol_isFull l D L0 ad 16 (xT σ) _ celT) ck_Tol (hasO_o celT) rfl q_ml_Cel_67 q_im_Tol_isFull q_se_Tol_isFull q_in_Tol q_co_Tol_isFull rfl (k := 0) ⟨rfl, rfl, by decide +kernel, ⟨Nat.le_of_ble_eq_true rfl, Nat.le_of_ble_eq_true rfl⟩, Nat.le_of_ble_eq_true rfl⟩ rfl d_Cel_roll_33 ⟨Nat.le_of_ble_eq_true rfl, Nat.le_of_ble_eq_true rfl⟩) hS (fun H locs hH hS => ?_)
        refine lv_if_eq (tgt := 41) F.1.1 F.1.2.1 d_Cel_roll_36 (by decide) (fun c36 => ?_) (fun c36 => ?_)
        · rw [fullT hTc.1 hTc.2] at c36
          refine lv_aload_n F.1.1 F.1.2.1 d_Cel_roll_41 rfl (lv_at hl 1 rfl) ?_
          refine lv_iconst (v := 2) F.1.1 F.1.2.1 d_Cel_roll_42 (by decide) ?_
          refine lv_iload_n F.1.1 F.1.2.1 d_Cel_roll_43 rfl (lv_at hl 2 rfl) ?_
          refine lv_iload_n F.1.1 F.1.2.1 d_Cel_roll_44 rfl (lv_at hl 3 rfl) ?_
          refine lv_lconst (v := 0) F.1.1 F.1.2.1 d_Cel_roll_45 (by decide) ?_
          refine lv_lconst (v := 0) F.1.1 F.1.2.1 d_Cel_roll_46 (by decide) ?_
          refine hw_call0 (hw_runV F hL hS hH hl (c_Cel_tell l D L0 ad σ f0 hR.1 hR.2.1 c36 2 (nI i) (nI t) 0 0 (evP hR.2.1 hi (lc_pos (hX.2.2.2.2.2.1 i hi).1 (hX.2.2.2.2.2.1 i hi).2 c14) ht)) ck_Cel (hasO_o celE) rfl q_ml_Cel_71 q_im_Cel_tell q_se_Cel_tell q_in_Cel q_co_Cel_tell rfl (k := 5) ⟨rfl, rfl, by decide +kernel, ⟨Nat.le_of_ble_eq_true rfl, Nat.le_of_ble_eq_true rfl⟩, Nat.le_of_ble_eq_true rfl⟩ rfl d_Cel_roll_47 ⟨Nat.le_of_ble_eq_true rfl, Nat.le_of_ble_eq_true rfl⟩) hS (fun H locs hH hS => ?_)
          refine lv_iconst (v := 1) F.1.1 F.1.2.1 d_Cel_roll_50 (by decide) ?_
          exact hw_zret F hr hlocks hH hS d_Cel_roll_51 (by first | decide | (split <;> decide) | (unfold cif; split <;> decide)) (cif_t ⟨hc0, by rw [nI_clamp (by omega)]; exact c14, c26, c36⟩).symm (by rw [cif_t ⟨hc0, by rw [nI_clamp (by omega)]; exact c14, c26, c36⟩])
        · rw [fullT hTc.1 hTc.2] at c36
          refine lv_iconst (v := 0) F.1.1 F.1.2.1 d_Cel_roll_39 (by decide) ?_
          exact hw_zret F hr hlocks hH hS d_Cel_roll_40 (by first | decide | (split <;> decide) | (unfold cif; split <;> decide)) (cif_f (fun q => c36 q.2.2.2)).symm (by rw [cif_f (fun q => c36 q.2.2.2)])
set_option maxHeartbeats 1000000 in
theorem c_Cel_run (l : Launch) (D : va_G) (L0 : Nat) (ad : Nat → Nat) (σ : Xs) (f0 : Nat → Option va_E) (hR : xR σ) (years : Int32) : Met l y_Cel_run (wd y_Cel_run b_Cel_run 2 (some .int)) { frames := 5, cells := 0, slots := 0, locals := 128 } (va_Pc [.ref (ad 0), .int years] (cp D L0 ad (celP D ad σ f0))) (dt D L0 ad (some (.int (cif (rnP σ years) (oI (xE σ) 8 + years) (-1)))) (celP D ad (cif (rnP σ years) (tlX σ 3 0 years 0 0) σ) f0)) 0 0 (fun q => L0 ≤ q) := by
  refine hw_met (by decide) (Nat.le_of_ble_eq_true rfl) ?_
  intro p e s m below meth c ls F hr hlocks hnm hL hH hS hl
  have hX := xOK_of hR.1 hR.2.1
  have hC := hR.1.1
  have hTc := hR.1.2.2.2.2.2
  refine lv_iload_n F.1.1 F.1.2.1 d_Cel_run_0 rfl (lv_at hl 1 rfl) ?_
  refine lv_i2l F.1.1 F.1.2.1 d_Cel_run_1 rfl ?_
  refine lv_lconst (v := 1) F.1.1 F.1.2.1 d_Cel_run_2 (by decide) ?_
  refine lv_ldc2 F.1.1 F.1.2.1 F.1.2.2.2.1 (F.1.2.2.2.2 _ q_cl_Cel_91) d_Cel_run_3 ?_
  refine hw_call1 (hw_runS F hL hS hH hl (c_Cel_isWithin l D L0 ad _ _ _ _) q_ml_Cel_11 q_st_Cel_isWithin q_in_Cel q_co_Cel_isWithin rfl (k := 3) ⟨rfl, rfl, by decide +kernel, ⟨Nat.le_of_ble_eq_true rfl, Nat.le_of_ble_eq_true rfl⟩, Nat.le_of_ble_eq_true rfl⟩ rfl d_Cel_run_6 ⟨Nat.le_of_ble_eq_true rfl, Nat.le_of_ble_eq_true rfl⟩) hS (fun H locs hH hS => ?_)
  refine lv_if_eq (tgt := 33) F.1.1 F.1.2.1 d_Cel_run_9 (by decide) (fun c9 => ?_) (fun c9 => ?_)
  · refine lv_iconst (v := -1) F.1.1 F.1.2.1 d_Cel_run_33 (by decide) ?_
    exact hw_iret F hr hlocks hH hS d_Cel_run_34 (cif_f (fun q => q.1 c9)).symm (by rw [cif_f (fun q => q.1 c9)])
  · obtain ⟨t, ht, rfl⟩ := ixM (m := 50) (b := 50) rfl (h := c9)
    refine lv_aload_n F.1.1 F.1.2.1 d_Cel_run_12 rfl (lv_at hl 0 rfl) ?_
    refine gI ck_Cel F (hH.to celE.symm) q_fl_Cel_93 (k := 8) (by decide) rfl d_Cel_run_13 ?_
    refine lv_iload_n F.1.1 F.1.2.1 d_Cel_run_16 rfl (lv_at hl 1 rfl) ?_
    refine lv_iadd F.1.1 F.1.2.1 d_Cel_run_17 ?_
    refine lv_bipush (v := 100) F.1.1 F.1.2.1 d_Cel_run_18 (by decide) ?_
    refine lv_icmp_gt (tgt := 33) F.1.1 F.1.2.1 d_Cel_run_20 (by decide) (fun c20 => ?_) (fun c20 => ?_)
    · refine lv_iconst (v := -1) F.1.1 F.1.2.1 d_Cel_run_33 (by decide) ?_
      exact hw_iret F hr hlocks hH hS d_Cel_run_34 (cif_f (fun q => q.2.1 c20)).symm (by rw [cif_f (fun q => q.2.1 c20)])
    · refine lv_aload_n F.1.1 F.1.2.1 d_Cel_run_23 rfl (lv_at hl 0 rfl) ?_
      refine gX ck_Cel F (hH.to celE.symm) q_fl_Cel_38 (k := 3) (by decide) rfl d_Cel_run_24 ?_
      refine hw_call1 (hw_runV F hL hS hH hl (c_Tol_isFull l D L0 ad 16 (xT σ) _ celT) ck_Tol (hasO_o celT) rfl q_ml_Cel_67 q_im_Tol_isFull q_se_Tol_isFull q_in_Tol q_co_Tol_isFull rfl (k := 0) ⟨rfl, rfl, by decide +kernel, ⟨Nat.le_of_ble_eq_true rfl, Nat.le_of_ble_eq_true rfl⟩, Nat.le_of_ble_eq_true rfl⟩ rfl d_Cel_run_27 ⟨Nat.le_of_ble_eq_true rfl, Nat.le_of_ble_eq_true rfl⟩) hS (fun H locs hH hS => ?_)
      refine lv_if_eq (tgt := 35) F.1.1 F.1.2.1 d_Cel_run_30 (by decide) (fun c30 => ?_) (fun c30 => ?_)
      · rw [fullT hTc.1 hTc.2] at c30
        refine lv_aload_n F.1.1 F.1.2.1 d_Cel_run_35 rfl (lv_at hl 0 rfl) ?_
        refine lv_iconst (v := 3) F.1.1 F.1.2.1 d_Cel_run_36 (by decide) ?_
        refine lv_iconst (v := 0) F.1.1 F.1.2.1 d_Cel_run_37 (by decide) ?_
        refine lv_iload_n F.1.1 F.1.2.1 d_Cel_run_38 rfl (lv_at hl 1 rfl) ?_
        refine lv_lconst (v := 0) F.1.1 F.1.2.1 d_Cel_run_39 (by decide) ?_
        refine lv_lconst (v := 0) F.1.1 F.1.2.1 d_Cel_run_40 (by decide) ?_
        refine hw_call0 (hw_runV F hL hS hH hl (c_Cel_tell l D L0 ad σ f0 hR.1 hR.2.1 c30 3 0 (nI t) 0 0 (evY ht)) ck_Cel (hasO_o celE) rfl q_ml_Cel_71 q_im_Cel_tell q_se_Cel_tell q_in_Cel q_co_Cel_tell rfl (k := 5) ⟨rfl, rfl, by decide +kernel, ⟨Nat.le_of_ble_eq_true rfl, Nat.le_of_ble_eq_true rfl⟩, Nat.le_of_ble_eq_true rfl⟩ rfl d_Cel_run_41 ⟨Nat.le_of_ble_eq_true rfl, Nat.le_of_ble_eq_true rfl⟩) hS (fun H locs hH hS => ?_)
        refine lv_aload_n F.1.1 F.1.2.1 d_Cel_run_44 rfl (lv_at hl 0 rfl) ?_
        refine gI ck_Cel F (hH.to celE.symm) q_fl_Cel_93 (k := 8) (by decide) rfl d_Cel_run_45 ?_
        exact hw_iret F hr hlocks hH hS d_Cel_run_48 (by rw [cif_t ⟨c9, c20, c30⟩, tl_3 (by omega)]) (by rw [cif_t ⟨c9, c20, c30⟩])
      · rw [fullT hTc.1 hTc.2] at c30
        refine lv_iconst (v := -1) F.1.1 F.1.2.1 d_Cel_run_33 (by decide) ?_
        exact hw_iret F hr hlocks hH hS d_Cel_run_34 (cif_f (fun q => c30 q.2.2)).symm (by rw [cif_f (fun q => c30 q.2.2)])
set_option maxHeartbeats 1000000 in
theorem c_Cel_cover (l : Launch) (D : va_G) (L0 : Nat) (ad : Nat → Nat) (σ : Xs) (f0 : Nat → Option va_E) (hR : xR σ) (column mm : Int32) : Met l y_Cel_cover (wd y_Cel_cover b_Cel_cover 3 (some .boolean)) { frames := 5, cells := 0, slots := 0, locals := 128 } (va_Pc [.ref (ad 0), .int column, .int mm] (cp D L0 ad (celP D ad σ f0))) (dt D L0 ad (some (.int (cif (cvP σ column mm) 1 0))) (celP D ad (cif (cvP σ column mm) (tlX σ 4 column mm 0 0) σ) f0)) 0 0 (fun q => L0 ≤ q) := by
  refine hw_met (by decide) (Nat.le_of_ble_eq_true rfl) ?_
  intro p e s m below meth c ls F hr hlocks hnm hL hH hS hl
  have hX := xOK_of hR.1 hR.2.1
  have hC := hR.1.1
  have hTc := hR.1.2.2.2.2.2
  refine lv_aload_n F.1.1 F.1.2.1 d_Cel_cover_0 rfl (lv_at hl 0 rfl) ?_
  refine lv_iload_n F.1.1 F.1.2.1 d_Cel_cover_1 rfl (lv_at hl 1 rfl) ?_
  refine hw_call1 (hw_runV F hL hS hH hl (c_Cel_columnAt l D L0 ad σ f0 hX _) ck_Cel (hasO_o celE) rfl q_ml_Cel_75 q_im_Cel_columnAt q_se_Cel_columnAt q_in_Cel q_co_Cel_columnAt rfl (k := 1) ⟨rfl, rfl, by decide +kernel, ⟨Nat.le_of_ble_eq_true rfl, Nat.le_of_ble_eq_true rfl⟩, Nat.le_of_ble_eq_true rfl⟩ rfl d_Cel_cover_2 ⟨Nat.le_of_ble_eq_true rfl, Nat.le_of_ble_eq_true rfl⟩) hS (fun H locs hH hS => ?_)
  by_cases hc0 : wi column.toInt64 0 (lN (xC σ) - 1) = 0
  · refine W_top (if_pos hc0) ?_
    refine lv_ifnullN (tgt := 30) F.1.1 F.1.2.1 d_Cel_cover_5 (by decide) ?_
    refine lv_iconst (v := 0) F.1.1 F.1.2.1 d_Cel_cover_30 (by decide) ?_
    exact hw_zret F hr hlocks hH hS d_Cel_cover_31 (by first | decide | (split <;> decide) | (unfold cif; split <;> decide)) (cif_f (fun q => q.1 hc0)).symm (by rw [cif_f (fun q => q.1 hc0)])
  · obtain ⟨i, hi, rfl⟩ := ixN (by omega) hc0
    refine W_top (v' := .ref (ad (64 + 8 * i))) (by rw [if_neg hc0, nI_clamp (by omega)]) ?_
    refine lv_ifnull F.1.1 F.1.2.1 d_Cel_cover_5 ?_
    refine lv_iload_n F.1.1 F.1.2.1 d_Cel_cover_8 rfl (lv_at hl 2 rfl) ?_
    refine lv_i2l F.1.1 F.1.2.1 d_Cel_cover_9 rfl ?_
    refine lv_lconst (v := 1) F.1.1 F.1.2.1 d_Cel_cover_10 (by decide) ?_
    refine lv_ldc2 F.1.1 F.1.2.1 F.1.2.2.2.1 (F.1.2.2.2.2 _ q_cl_Cel_96) d_Cel_cover_11 ?_
    refine hw_call1 (hw_runS F hL hS hH hl (c_Cel_isWithin l D L0 ad _ _ _ _) q_ml_Cel_11 q_st_Cel_isWithin q_in_Cel q_co_Cel_isWithin rfl (k := 3) ⟨rfl, rfl, by decide +kernel, ⟨Nat.le_of_ble_eq_true rfl, Nat.le_of_ble_eq_true rfl⟩, Nat.le_of_ble_eq_true rfl⟩ rfl d_Cel_cover_14 ⟨Nat.le_of_ble_eq_true rfl, Nat.le_of_ble_eq_true rfl⟩) hS (fun H locs hH hS => ?_)
    refine lv_if_eq (tgt := 30) F.1.1 F.1.2.1 d_Cel_cover_17 (by decide) (fun c17 => ?_) (fun c17 => ?_)
    · refine lv_iconst (v := 0) F.1.1 F.1.2.1 d_Cel_cover_30 (by decide) ?_
      exact hw_zret F hr hlocks hH hS d_Cel_cover_31 (by first | decide | (split <;> decide) | (unfold cif; split <;> decide)) (cif_f (fun q => q.2.1 c17)).symm (by rw [cif_f (fun q => q.2.1 c17)])
    · refine lv_aload_n F.1.1 F.1.2.1 d_Cel_cover_20 rfl (lv_at hl 0 rfl) ?_
      refine gX ck_Cel F (hH.to celE.symm) q_fl_Cel_38 (k := 3) (by decide) rfl d_Cel_cover_21 ?_
      refine hw_call1 (hw_runV F hL hS hH hl (c_Tol_isFull l D L0 ad 16 (xT σ) _ celT) ck_Tol (hasO_o celT) rfl q_ml_Cel_67 q_im_Tol_isFull q_se_Tol_isFull q_in_Tol q_co_Tol_isFull rfl (k := 0) ⟨rfl, rfl, by decide +kernel, ⟨Nat.le_of_ble_eq_true rfl, Nat.le_of_ble_eq_true rfl⟩, Nat.le_of_ble_eq_true rfl⟩ rfl d_Cel_cover_24 ⟨Nat.le_of_ble_eq_true rfl, Nat.le_of_ble_eq_true rfl⟩) hS (fun H locs hH hS => ?_)
      refine lv_if_eq (tgt := 32) F.1.1 F.1.2.1 d_Cel_cover_27 (by decide) (fun c27 => ?_) (fun c27 => ?_)
      · rw [fullT hTc.1 hTc.2] at c27
        refine lv_aload_n F.1.1 F.1.2.1 d_Cel_cover_32 rfl (lv_at hl 0 rfl) ?_
        refine lv_iconst (v := 4) F.1.1 F.1.2.1 d_Cel_cover_33 (by decide) ?_
        refine lv_iload_n F.1.1 F.1.2.1 d_Cel_cover_34 rfl (lv_at hl 1 rfl) ?_
        refine lv_iload_n F.1.1 F.1.2.1 d_Cel_cover_35 rfl (lv_at hl 2 rfl) ?_
        refine lv_lconst (v := 0) F.1.1 F.1.2.1 d_Cel_cover_36 (by decide) ?_
        refine lv_lconst (v := 0) F.1.1 F.1.2.1 d_Cel_cover_37 (by decide) ?_
        refine hw_call0 (hw_runV F hL hS hH hl (c_Cel_tell l D L0 ad σ f0 hR.1 hR.2.1 c27 4 (nI i) mm 0 0 (evC hi)) ck_Cel (hasO_o celE) rfl q_ml_Cel_71 q_im_Cel_tell q_se_Cel_tell q_in_Cel q_co_Cel_tell rfl (k := 5) ⟨rfl, rfl, by decide +kernel, ⟨Nat.le_of_ble_eq_true rfl, Nat.le_of_ble_eq_true rfl⟩, Nat.le_of_ble_eq_true rfl⟩ rfl d_Cel_cover_38 ⟨Nat.le_of_ble_eq_true rfl, Nat.le_of_ble_eq_true rfl⟩) hS (fun H locs hH hS => ?_)
        refine lv_iconst (v := 1) F.1.1 F.1.2.1 d_Cel_cover_41 (by decide) ?_
        exact hw_zret F hr hlocks hH hS d_Cel_cover_42 (by first | decide | (split <;> decide) | (unfold cif; split <;> decide)) (cif_t ⟨hc0, c17, c27⟩).symm (by rw [cif_t ⟨hc0, c17, c27⟩])
      · rw [fullT hTc.1 hTc.2] at c27
        refine lv_iconst (v := 0) F.1.1 F.1.2.1 d_Cel_cover_30 (by decide) ?_
        exact hw_zret F hr hlocks hH hS d_Cel_cover_31 (by first | decide | (split <;> decide) | (unfold cif; split <;> decide)) (cif_f (fun q => c27 q.2.2)).symm (by rw [cif_f (fun q => c27 q.2.2)])
set_option maxHeartbeats 1000000 in
theorem c_Cel_survey (l : Launch) (D : va_G) (L0 : Nat) (ad : Nat → Nat) (σ : Xs) (f0 : Nat → Option va_E) (hR : xR σ) (column : Int32) (mm : Int64) : Met l y_Cel_survey (wd y_Cel_survey b_Cel_survey 4 (some .int)) { frames := 5, cells := 0, slots := 0, locals := 128 } (va_Pc [.ref (ad 0), .int column, .long mm] (cp D L0 ad (celP D ad σ f0))) (dt D L0 ad (some (.int (cif (svP σ column mm) (oI (xE σ) 9) (-1)))) (celP D ad (cif (svP σ column mm) (tlX σ 5 column 0 mm 0) σ) f0)) 0 0 (fun q => L0 ≤ q) := by
  refine hw_met (by decide) (Nat.le_of_ble_eq_true rfl) ?_
  intro p e s m below meth c ls F hr hlocks hnm hL hH hS hl
  have hX := xOK_of hR.1 hR.2.1
  have hC := hR.1.1
  have hTc := hR.1.2.2.2.2.2
  refine lv_aload_n F.1.1 F.1.2.1 d_Cel_survey_0 rfl (lv_at hl 0 rfl) ?_
  refine lv_iload_n F.1.1 F.1.2.1 d_Cel_survey_1 rfl (lv_at hl 1 rfl) ?_
  refine hw_call1 (hw_runV F hL hS hH hl (c_Cel_columnAt l D L0 ad σ f0 hX _) ck_Cel (hasO_o celE) rfl q_ml_Cel_75 q_im_Cel_columnAt q_se_Cel_columnAt q_in_Cel q_co_Cel_columnAt rfl (k := 1) ⟨rfl, rfl, by decide +kernel, ⟨Nat.le_of_ble_eq_true rfl, Nat.le_of_ble_eq_true rfl⟩, Nat.le_of_ble_eq_true rfl⟩ rfl d_Cel_survey_2 ⟨Nat.le_of_ble_eq_true rfl, Nat.le_of_ble_eq_true rfl⟩) hS (fun H locs hH hS => ?_)
  by_cases hc0 : wi column.toInt64 0 (lN (xC σ) - 1) = 0
  · refine W_top (if_pos hc0) ?_
    refine lv_ifnullN (tgt := 19) F.1.1 F.1.2.1 d_Cel_survey_5 (by decide) ?_
    refine lv_iconst (v := -1) F.1.1 F.1.2.1 d_Cel_survey_19 (by decide) ?_
    exact hw_iret F hr hlocks hH hS d_Cel_survey_20 (cif_f (fun q => q.1 hc0)).symm (by rw [cif_f (fun q => q.1 hc0)])
  · obtain ⟨i, hi, rfl⟩ := ixN (by omega) hc0
    refine W_top (v' := .ref (ad (64 + 8 * i))) (by rw [if_neg hc0, nI_clamp (by omega)]) ?_
    refine lv_ifnull F.1.1 F.1.2.1 d_Cel_survey_5 ?_
    refine lv_lload_n F.1.1 F.1.2.1 d_Cel_survey_8 rfl (lv_at hl 2 rfl) ?_
    refine lv_lconst (v := 0) F.1.1 F.1.2.1 d_Cel_survey_9 (by decide) ?_
    refine lv_ldc2 F.1.1 F.1.2.1 F.1.2.2.2.1 (F.1.2.2.2.2 _ q_cl_Cel_98) d_Cel_survey_10 ?_
    refine hw_call1 (hw_runS F hL hS hH hl (c_Cel_isWithin l D L0 ad _ _ _ _) q_ml_Cel_11 q_st_Cel_isWithin q_in_Cel q_co_Cel_isWithin rfl (k := 3) ⟨rfl, rfl, by decide +kernel, ⟨Nat.le_of_ble_eq_true rfl, Nat.le_of_ble_eq_true rfl⟩, Nat.le_of_ble_eq_true rfl⟩ rfl d_Cel_survey_13 ⟨Nat.le_of_ble_eq_true rfl, Nat.le_of_ble_eq_true rfl⟩) hS (fun H locs hH hS => ?_)
    refine lv_if_ne (tgt := 21) F.1.1 F.1.2.1 d_Cel_survey_16 (by decide) (fun c16 => ?_) (fun c16 => ?_)
    · refine lv_aload_n F.1.1 F.1.2.1 d_Cel_survey_21 rfl (lv_at hl 0 rfl) ?_
      refine gI ck_Cel F (hH.to celE.symm) q_fl_Cel_100 (k := 9) (by decide) rfl d_Cel_survey_22 ?_
      refine lv_bipush (v := 12) F.1.1 F.1.2.1 d_Cel_survey_25 (by decide) ?_
      refine lv_icmp_ge (tgt := 40) F.1.1 F.1.2.1 d_Cel_survey_27 (by decide) (fun c27 => ?_) (fun c27 => ?_)
      · refine lv_iconst (v := -1) F.1.1 F.1.2.1 d_Cel_survey_40 (by decide) ?_
        exact hw_iret F hr hlocks hH hS d_Cel_survey_41 (cif_f (fun q => q.2.2.1 c27)).symm (by rw [cif_f (fun q => q.2.2.1 c27)])
      · refine lv_aload_n F.1.1 F.1.2.1 d_Cel_survey_30 rfl (lv_at hl 0 rfl) ?_
        refine gX ck_Cel F (hH.to celE.symm) q_fl_Cel_38 (k := 3) (by decide) rfl d_Cel_survey_31 ?_
        refine hw_call1 (hw_runV F hL hS hH hl (c_Tol_isFull l D L0 ad 16 (xT σ) _ celT) ck_Tol (hasO_o celT) rfl q_ml_Cel_67 q_im_Tol_isFull q_se_Tol_isFull q_in_Tol q_co_Tol_isFull rfl (k := 0) ⟨rfl, rfl, by decide +kernel, ⟨Nat.le_of_ble_eq_true rfl, Nat.le_of_ble_eq_true rfl⟩, Nat.le_of_ble_eq_true rfl⟩ rfl d_Cel_survey_34 ⟨Nat.le_of_ble_eq_true rfl, Nat.le_of_ble_eq_true rfl⟩) hS (fun H locs hH hS => ?_)
        refine lv_if_eq (tgt := 42) F.1.1 F.1.2.1 d_Cel_survey_37 (by decide) (fun c37 => ?_) (fun c37 => ?_)
        · rw [fullT hTc.1 hTc.2] at c37
          refine lv_aload_n F.1.1 F.1.2.1 d_Cel_survey_42 rfl (lv_at hl 0 rfl) ?_
          refine lv_iconst (v := 5) F.1.1 F.1.2.1 d_Cel_survey_43 (by decide) ?_
          refine lv_iload_n F.1.1 F.1.2.1 d_Cel_survey_44 rfl (lv_at hl 1 rfl) ?_
          refine lv_iconst (v := 0) F.1.1 F.1.2.1 d_Cel_survey_45 (by decide) ?_
          refine lv_lload_n F.1.1 F.1.2.1 d_Cel_survey_46 rfl (lv_at hl 2 rfl) ?_
          refine lv_lconst (v := 0) F.1.1 F.1.2.1 d_Cel_survey_47 (by decide) ?_
          refine hw_call0 (hw_runV F hL hS hH hl (c_Cel_tell l D L0 ad σ f0 hR.1 hR.2.1 c37 5 (nI i) 0 mm 0 (evV hi)) ck_Cel (hasO_o celE) rfl q_ml_Cel_71 q_im_Cel_tell q_se_Cel_tell q_in_Cel q_co_Cel_tell rfl (k := 5) ⟨rfl, rfl, by decide +kernel, ⟨Nat.le_of_ble_eq_true rfl, Nat.le_of_ble_eq_true rfl⟩, Nat.le_of_ble_eq_true rfl⟩ rfl d_Cel_survey_48 ⟨Nat.le_of_ble_eq_true rfl, Nat.le_of_ble_eq_true rfl⟩) hS (fun H locs hH hS => ?_)
          refine lv_aload_n F.1.1 F.1.2.1 d_Cel_survey_51 rfl (lv_at hl 0 rfl) ?_
          refine gI ck_Cel F (hH.to celE.symm) q_fl_Cel_100 (k := 9) (by decide) rfl d_Cel_survey_52 ?_
          refine lv_iconst (v := 1) F.1.1 F.1.2.1 d_Cel_survey_55 (by decide) ?_
          refine lv_isub F.1.1 F.1.2.1 d_Cel_survey_56 ?_
          exact hw_iret F hr hlocks hH hS d_Cel_survey_57 (by rw [cif_t ⟨hc0, c16, c27, c37⟩, tl_5]; exact Int32.add_sub_cancel _ _) (by rw [cif_t ⟨hc0, c16, c27, c37⟩])
        · rw [fullT hTc.1 hTc.2] at c37
          refine lv_iconst (v := -1) F.1.1 F.1.2.1 d_Cel_survey_40 (by decide) ?_
          exact hw_iret F hr hlocks hH hS d_Cel_survey_41 (cif_f (fun q => c37 q.2.2.2)).symm (by rw [cif_f (fun q => c37 q.2.2.2)])
    · refine lv_iconst (v := -1) F.1.1 F.1.2.1 d_Cel_survey_19 (by decide) ?_
      exact hw_iret F hr hlocks hH hS d_Cel_survey_20 (cif_f (fun q => q.2.1 c16)).symm (by rw [cif_f (fun q => q.2.1 c16)])
