/-! CellSettling$Column.settle; printed by wip/gen/col.py -/
def milF (k : Ob) (ld : Int64) : Int64 := byF (oB k 0) (oA k 1) ld (oI k 2).toNatClampNeg * (oI k 4).toInt64
def dn (kg : Nat → Int64) (n : Nat) : Nat → Int64
  | 0 => 0
  | k + 1 => dn kg n k + kg (n - 1 - k)
def mjF (kin : Nat → Ob) (o : Ob) (n j : Nat) : Int64 := milF (kin (oA o 0 j).toNatClampNeg) (dn (oB o 2) n (n - 1 - j))
def stO (kin : Nat → Ob) (o : Ob) (n y l : Nat) : Ob := sB o 3 (fun j => if l ≤ j ∧ j < n then yrs (mjF kin o n j) y (oB o 3 j) else oB o 3 j)
theorem stO_n {kin : Nat → Ob} {o : Ob} {n y : Nat} : stO kin o n y n = o := by
  unfold stO
  rw [show (fun j => if n ≤ j ∧ j < n then yrs (mjF kin o n j) y (oB o 3 j) else oB o 3 j) = oB o 3 from funext (fun j => if_neg (by omega)), sB_self]
theorem stO_s {kin : Nat → Ob} {o : Ob} {n y k q r : Nat} (hq : oA o 0 k = nI q) (hrr : oI (kin q) 2 = nI r) (hr : r < 2 ^ 31) (hqq : q < 2 ^ 31) (hk : k < n ∧ n ≤ 10) : sB (stO kin o n y (k + 1)) 3 (vp_updL (oB (stO kin o n y (k + 1)) 3) (nI k).toNatClampNeg (yrs (byF (oB (kin q) 0) (oA (kin q) 1) (dn (oB o 2) n (n - (k + 1))) r * (oI (kin q) 4).toInt64) y (oB (stO kin o n y (k + 1)) 3 (nI k).toNatClampNeg))) = stO kin o n y k := by
  rw [nI_clamp (by omega)]
  have e0 : oB (stO kin o n y (k + 1)) 3 k = oB o 3 k := by
    show (if k + 1 ≤ k ∧ k < n then _ else _) = _
    rw [if_neg (by omega)]
  rw [e0]
  have e1 : mjF kin o n k = byF (oB (kin q) 0) (oA (kin q) 1) (dn (oB o 2) n (n - (k + 1))) r * (oI (kin q) 4).toInt64 := by
    unfold mjF milF
    rw [hq, nI_clamp hqq, hrr, nI_clamp hr, show n - 1 - k = n - (k + 1) by omega]
  rw [← e1]
  refine Ob.ext (fun _ => rfl) (fun _ => rfl) (fun _ => rfl) (fun j => ?_)
  unfold stO
  simp only [oB_B]
  by_cases hj : j = 3
  · rw [if_pos hj, if_pos hj]
    funext i
    by_cases hik : i = k
    · subst hik
      simp only [if_true]
      rw [pk_uLs, if_pos ⟨Nat.le_refl _, hk.1⟩]
    · simp only [if_true]
      rw [pk_uLn hik]
      by_cases h1 : k + 1 ≤ i ∧ i < n
      · rw [if_pos h1, if_pos ⟨by omega, h1.2⟩]
      · rw [if_neg h1, if_neg (by omega)]
  · rw [if_neg hj, if_neg hj, if_neg hj]
set_option maxHeartbeats 1000000 in
theorem c_Col_settle (l : Launch) (D : va_G) (L0 : Nat) (ad : Nat → Nat) (β : Nat) (o : Ob) (f : Nat → Option va_E) (hA : hasO D ad β 0 shCol o f) (ρ : Nat) (g : Nat → Option Nat) (kin : Nat → Ob) (κ : Nat → Nat) (n y : Nat) (hρ : f ρ = some (aO D 1 4 g)) (hρd : ρ < β ∨ β + 6 < ρ) (hg : ∀ q, q < 4 → g q = some (ad (κ q))) (hk : ∀ q, q < 4 → hasO D ad (κ q) 1 shKin (kin q) f) (hd : ∀ q, q < 4 → κ q + 5 < β ∨ β + 6 < κ q) (hrc : ∀ q, q < 4 → ∃ r, r ≤ 4 ∧ oI (kin q) 2 = nI r) (hn : oI o 4 = nI n) (hn10 : n ≤ 10) (hkn : ∀ j, j < n → ∃ q, q < 4 ∧ oA o 0 j = nI q) (hy : y < 2 ^ 30) : Met l y_Col_settle (wd y_Col_settle b_Col_settle 8 none) { frames := 1, cells := 0, slots := 0, locals := 29 } (va_Pc [.ref (ad β), .int (nI y), .ref (ad ρ)] (cp D L0 ad (f))) (dt D L0 ad (none) (obP D ad β 0 shCol (stO kin o n y 0) f)) 0 0 (fun q => L0 ≤ q) := by
  refine hw_met (by decide) (Nat.le_of_ble_eq_true rfl) ?_
  intro p e s m below meth c ls F hr hlocks hnm hL hH hS hl
  replace hH := hH.to hA.symm
  refine lv_lconst (v := 0) F.1.1 F.1.2.1 d_Col_settle_0 (by decide) ?_
  refine lv_lstore_n F.1.1 F.1.2.1 d_Col_settle_1 rfl hl (by decide) rfl (fun ls hl => ?_)
  refine lv_aload_n F.1.1 F.1.2.1 d_Col_settle_2 rfl (lv_at hl 1 rfl) ?_
  refine gI ck_Col F hH q_fl_Col_25 (k := 4) (by decide) rfl d_Col_settle_3 ?_
  refine lv_iconst (v := 1) F.1.1 F.1.2.1 d_Col_settle_6 (by decide) ?_
  refine lv_isub F.1.1 F.1.2.1 d_Col_settle_7 ?_
  refine lv_istore F.1.1 F.1.2.1 d_Col_settle_8 hl (by decide) rfl (fun ls hl => ?_)
  have L10 : ∀ (u : Nat) (i : Nat) (H : Heap) (locs : List Loc) (ls : Array Slot), (i ≤ n) → i < u → hw D L0 ad (obP D ad β 0 shCol (stO kin o n y i) f) H → va_S (fun q => L0 ≤ q) s.heap H locs → lv_has ls 8 [(0, .ref (ad β)), (1, .int (nI y)), (2, .ref (ad ρ)), (3, .long (dn (oB o 2) n (n - i))), (5, .int (nI i - 1))] → W p l e { frames := 1, cells := 0, slots := 0, locals := 29 } s m [.ref (ad β), .int (nI y), .ref (ad ρ)].toArray below meth c H locs 0 0 (MQ below (dt D L0 ad (none) (obP D ad β 0 shCol (stO kin o n y 0) f)) [.ref (ad β), .int (nI y), .ref (ad ρ)].toArray s 0 0 (fun q => L0 ≤ q)) (F0 m 10 ls []) := by
    intro u
    induction u with
    | zero => intros; exact absurd ‹(_ : Nat) < 0› (Nat.not_lt_zero _)
    | succ u ih10 =>
      intro i H locs ls hi hu hH hS hl
      refine lv_iload F.1.1 F.1.2.1 d_Col_settle_10 (lv_at hl 4 rfl) ?_
      refine lv_if_lt (tgt := 66) F.1.1 F.1.2.1 d_Col_settle_12 (by decide) (fun c12 => ?_) (fun c12 => ?_)
      · rw [nI_m1_neg (by omega)] at c12
        subst c12
        exact hw_vret F hr hlocks hH hS d_Col_settle_66 rfl
      · rw [nI_m1_neg (by omega)] at c12
        obtain ⟨k, rfl⟩ : ∃ k, i = k + 1 := ⟨i - 1, by omega⟩
        rw [nI_pred] at hl
        obtain ⟨q, hq4, hq⟩ := hkn k (by omega)
        obtain ⟨r, hr4, hrr⟩ := hrc q hq4
        have hq2 : oA (stO kin o n y (k + 1)) 0 (nI k).toNatClampNeg = nI q := by rw [nI_clamp (by omega)]; exact hq
        have hK := hasO_over (β := β) (ci := 0) (sh := shCol) (o := stO kin o n y (k + 1)) (hk q hq4) (hd q hq4)
        refine lv_aload_n F.1.1 F.1.2.1 d_Col_settle_15 rfl (lv_at hl 2 rfl) ?_
        refine lv_aload_n F.1.1 F.1.2.1 d_Col_settle_16 rfl (lv_at hl 0 rfl) ?_
        refine gR ck_Col F hH q_fl_Col_11 (k := 0) (by decide) rfl (by decide) d_Col_settle_17 ?_
        refine lv_iload F.1.1 F.1.2.1 d_Col_settle_20 (lv_at hl 4 rfl) ?_
        refine lA F hH rfl (vp_in_nI (by omega) (by omega)) d_Col_settle_22 ?_
        refine hw_aaldR F hH (j := 1) rfl ((obP_out hρd).trans hρ) (by rw [hq2]; exact vp_in_nI (by omega) (by omega)) (by rw [hq2, nI_clamp (by omega)]; exact hg q hq4) d_Col_settle_23 ?_
        refine lv_lload_n F.1.1 F.1.2.1 d_Col_settle_24 rfl (lv_at hl 3 rfl) ?_
        refine hw_call1 (hw_runV F hL hS hH hl (c_Kin_yearlyMillionths l D L0 ad (κ q) (kin q) _ hK _ r hrr hr4) ck_Kin (hasO_o hK) rfl q_ml_Col_36 q_im_Kin_yearlyMillionths q_se_Kin_yearlyMillionths q_in_Kin q_co_Kin_yearlyMillionths rfl (k := 1) ⟨rfl, rfl, by decide +kernel, ⟨Nat.le_of_ble_eq_true rfl, Nat.le_of_ble_eq_true rfl⟩, Nat.le_of_ble_eq_true rfl⟩ rfl d_Col_settle_25 ⟨Nat.le_of_ble_eq_true rfl, Nat.le_of_ble_eq_true rfl⟩) hS (fun H locs hH hS => ?_)
        refine lv_lstore F.1.1 F.1.2.1 d_Col_settle_28 hl (by decide) rfl (fun ls hl => ?_)
        refine lv_aload_n F.1.1 F.1.2.1 d_Col_settle_30 rfl (lv_at hl 1 rfl) ?_
        refine gR ck_Col F hH q_fl_Col_22 (k := 3) (by decide) rfl (by decide) d_Col_settle_31 ?_
        refine lv_iload F.1.1 F.1.2.1 d_Col_settle_34 (lv_at hl 5 rfl) ?_
        refine lv_aload_n F.1.1 F.1.2.1 d_Col_settle_36 rfl (lv_at hl 1 rfl) ?_
        refine gR ck_Col F hH q_fl_Col_22 (k := 3) (by decide) rfl (by decide) d_Col_settle_37 ?_
        refine lv_iload F.1.1 F.1.2.1 d_Col_settle_40 (lv_at hl 5 rfl) ?_
        refine lB F hH rfl (vp_in_nI (by omega) (by omega)) d_Col_settle_42 ?_
        refine lv_lload F.1.1 F.1.2.1 d_Col_settle_43 (lv_at hl 0 rfl) ?_
        refine lv_iload_n F.1.1 F.1.2.1 d_Col_settle_45 rfl (lv_at hl 2 rfl) ?_
        refine hw_call1 (hw_runS F hL hS hH hl (c_Col_settled l D L0 ad _ _ y hy _) q_ml_Col_42 q_st_Col_settled q_in_Col q_co_Col_settled rfl (k := 3) ⟨rfl, rfl, by decide +kernel, ⟨Nat.le_of_ble_eq_true rfl, Nat.le_of_ble_eq_true rfl⟩, Nat.le_of_ble_eq_true rfl⟩ rfl d_Col_settle_46 ⟨Nat.le_of_ble_eq_true rfl, Nat.le_of_ble_eq_true rfl⟩) hS (fun H locs hH hS => ?_)
        refine tB F hH hS rfl (vp_in_nI (by omega) (by omega)) d_Col_settle_49 (fun H locs hH hS => ?_)
        refine lv_lload_n F.1.1 F.1.2.1 d_Col_settle_50 rfl (lv_at hl 4 rfl) ?_
        refine lv_aload_n F.1.1 F.1.2.1 d_Col_settle_51 rfl (lv_at hl 1 rfl) ?_
        refine gR ck_Col F hH q_fl_Col_18 (k := 2) (by decide) rfl (by decide) d_Col_settle_52 ?_
        refine lv_iload F.1.1 F.1.2.1 d_Col_settle_55 (lv_at hl 5 rfl) ?_
        refine lB F hH rfl (vp_in_nI (by omega) (by omega)) d_Col_settle_57 ?_
        refine lv_ladd F.1.1 F.1.2.1 d_Col_settle_58 ?_
        refine lv_lstore_n F.1.1 F.1.2.1 d_Col_settle_59 rfl hl (by decide) rfl (fun ls hl => ?_)
        refine lv_iinc F.1.1 F.1.2.1 d_Col_settle_60 hl (k := 5) rfl rfl (by decide) rfl (fun ls hl => ?_)
        refine lv_goto (tgt := 10) F.1.1 F.1.2.1 d_Col_settle_63 (by decide) ?_
        refine ih10 k H locs ls (by omega) (by omega) (hH.to (congrArg (fun o => obP D ad β 0 shCol o f) (stO_s hq hrr (by omega) (by omega) (by omega)))) hS (lv_sub hl [3, 4, 5, 1, 0] ?_)
        show [_, _, _, _, _] = [_, _, _, _, _]
        rw [nI_pn, nI_clamp (by omega), show n - k = (n - (k + 1)) + 1 by omega, show dn (oB o 2) n (n - (k + 1) + 1) = dn (oB o 2) n (n - (k + 1)) + oB o 2 k from by show _ + _ = _; rw [show n - 1 - (n - (k + 1)) = k by omega]]
        first | done | rfl
  refine L10 (n + 1) n s.heap [] ls (Nat.le_refl n) (Nat.lt_succ_self _) (hH.to (by rw [stO_n])) hS (lv_sub hl [2, 3, 4, 1, 0] ?_)
  show [_, _, _, _, _] = [_, _, _, _, _]
  rw [hn, Nat.sub_self]
  first | done | rfl
