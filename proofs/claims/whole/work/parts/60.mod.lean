/-! CellSettlingModel: the small methods; printed by wip/gen/mod.py -/
def hmF (o : Ob) (c n : Nat) : Int64 := ac (fun l => oB o 13 (10 * c + l)) (1000 * (oA o 15 c).toInt64) n
def mPr (o : Ob) (at_ q i : Nat) : Ob := sA (sB o 13 (vp_updL (oB o 13) at_ (prT (oB o 13 at_) q i))) 14 (upd (oA o 14) at_ (nI (q + i)))
theorem mPr_1 {o : Ob} {at_ q : Nat} (ha : at_ < 2 ^ 31) (hq : oA o 14 at_ = nI q) : sA (sB o 13 (vp_updL (oB o 13) (nI at_).toNatClampNeg (oB o 13 (nI at_).toNatClampNeg - oB o 13 (nI at_).toNatClampNeg / ((8 : Int32) + oA o 14 (nI at_).toNatClampNeg).toInt64))) 14 (upd (oA o 14) (nI at_).toNatClampNeg (oA o 14 (nI at_).toNatClampNeg + 1)) = mPr o at_ q 1 := by
  rw [nI_clamp ha, hq, nI_1, show (8 : Int32) + nI q = nI (8 + q) from nI_add 8 q]
  rfl
theorem byF_1 {lds : Nat → Int64} {ts : Nat → Int32} {ld : Int64} {k : Nat} (h : lds k ≤ ld) : byF lds ts ld (k + 1) = (ts k).toInt64 := if_pos h
theorem byF_0 {lds : Nat → Int64} {ts : Nat → Int32} {ld : Int64} {k : Nat} (h : ¬ lds k ≤ ld) : byF lds ts ld (k + 1) = byF lds ts ld k := if_neg h
theorem dn_s {kg : Nat → Int64} {n i : Nat} (h : i < n) : dn kg n (n - (i + 1) + 1) = dn kg n (n - (i + 1)) + kg i := by
  show _ + kg (n - 1 - (n - (i + 1))) = _
  rw [show n - 1 - (n - (i + 1)) = i by omega]
/-- what a layer loses in a year, in millionths -/
def mmF (o : Ob) (c l n : Nat) : Int64 := byF (fun r => oB o 17 (4 * (oA o 11 (10 * c + l)).toNatClampNeg + r)) (fun r => oA o 18 (4 * (oA o 11 (10 * c + l)).toNatClampNeg + r)) (dn (fun j => oB o 12 (10 * c + j)) n (n - 1 - l)) (oA o 16 (oA o 11 (10 * c + l)).toNatClampNeg).toNatClampNeg * (oA o 3 (oA o 11 (10 * c + l)).toNatClampNeg).toInt64
def cnM (o : Ob) (c : Nat) : Nat := (oA o 10 c).toNatClampNeg
def yJ (o : Ob) (j y : Nat) : Int64 := yrs (mmF o (j / 10) (j % 10) (cnM o (j / 10))) y (oB o 13 j)
def tS (o : Ob) (c l : Nat) : Nat → Int64 := fun j => if (j / 10 < c ∧ j % 10 < cnM o (j / 10)) ∨ (j / 10 = c ∧ l ≤ j % 10 ∧ j % 10 < cnM o c) then yJ o j 1 else oB o 13 j
def mYr (o : Ob) (C y : Nat) : Ob := sI (sB o 13 (fun j => if j / 10 < C ∧ j % 10 < cnM o (j / 10) then yJ o j y else oB o 13 j)) 19 (oI o 19 + nI y)
theorem tS_0 {o : Ob} : tS o 0 10 = oB o 13 := by
  funext j
  unfold tS
  rw [if_neg (by omega)]
theorem tS_n {o : Ob} {c n : Nat} (hn : oA o 10 c = nI n) (h10 : n ≤ 10) : tS o c 10 = tS o c n := by
  have e : cnM o c = n := by unfold cnM; rw [hn, nI_clamp (by omega)]
  funext j
  unfold tS
  by_cases h : j / 10 < c ∧ j % 10 < cnM o (j / 10)
  · rw [if_pos (Or.inl h), if_pos (Or.inl h)]
  · rw [if_neg (by omega), if_neg (by omega)]
theorem tS_c {o : Ob} {c n : Nat} (hn : oA o 10 c = nI n) (h10 : n ≤ 10) : tS o c 0 = tS o (c + 1) 10 := by
  have e : cnM o c = n := by unfold cnM; rw [hn, nI_clamp (by omega)]
  funext j
  unfold tS
  by_cases h : j / 10 = c
  · rw [h]
    by_cases h2 : j % 10 < cnM o c
    · rw [if_pos (Or.inr ⟨rfl, Nat.zero_le _, h2⟩), if_pos (Or.inl ⟨by omega, h2⟩)]
    · rw [if_neg (by omega), if_neg (by omega)]
  · by_cases h2 : j / 10 < c ∧ j % 10 < cnM o (j / 10)
    · rw [if_pos (Or.inl h2), if_pos (Or.inl ⟨by omega, h2.2⟩)]
    · rw [if_neg (by omega), if_neg (by omega)]
theorem tS_s {o : Ob} {c n i q r : Nat} (hn : oA o 10 c = nI n) (h10 : n ≤ 10) (hi : i < n) (hq : oA o 11 (10 * c + i) = nI q) (hr : oA o 16 q = nI r) (hq2 : q < 2 ^ 31) (hr2 : r < 2 ^ 31 ∧ c < 8) : sB (sB o 13 (tS o c (i + 1))) 13 (vp_updL (oB (sB o 13 (tS o c (i + 1))) 13) (nI (10 * c + i)).toNatClampNeg (oB (sB o 13 (tS o c (i + 1))) 13 (nI (10 * c + i)).toNatClampNeg - oB (sB o 13 (tS o c (i + 1))) 13 (nI (10 * c + i)).toNatClampNeg * byF (fun r => oB o 17 (4 * q + r)) (fun r => oA o 18 (4 * q + r)) (dn (fun j => oB o 12 (10 * c + j)) n (n - (i + 1))) r * (oA (sB o 13 (tS o c (i + 1))) 3 (nI q).toNatClampNeg).toInt64 / 1000000)) = sB o 13 (tS o c i) := by
  have e : cnM o c = n := by unfold cnM; rw [hn, nI_clamp (by omega)]
  rw [nI_clamp (by omega), nI_clamp hq2]
  have e0 : oB (sB o 13 (tS o c (i + 1))) 13 (10 * c + i) = oB o 13 (10 * c + i) := by
    show tS o c (i + 1) (10 * c + i) = _
    unfold tS
    rw [if_neg (by omega)]
  rw [e0]
  have e1 : yJ o (10 * c + i) 1 = oB o 13 (10 * c + i) - oB o 13 (10 * c + i) * byF (fun r => oB o 17 (4 * q + r)) (fun r => oA o 18 (4 * q + r)) (dn (fun j => oB o 12 (10 * c + j)) n (n - (i + 1))) r * (oA (sB o 13 (tS o c (i + 1))) 3 q).toInt64 / 1000000 := by
    unfold yJ
    rw [show (10 * c + i) / 10 = c by omega, show (10 * c + i) % 10 = i by omega, e]
    show yF _ _ = _
    unfold yF mmF
    rw [hq, nI_clamp hq2, hr, nI_clamp hr2.1, show n - 1 - i = n - (i + 1) by omega, Int64.mul_assoc]
    rfl
  rw [← e1]
  refine Ob.ext (fun _ => rfl) (fun _ => rfl) (fun _ => rfl) (fun j => ?_)
  simp only [oB_B]
  by_cases hj : j = 13
  · rw [if_pos hj, if_pos hj]
    simp only [if_true]
    funext x
    by_cases hx : x = 10 * c + i
    · subst hx
      rw [pk_uLs]
      unfold tS
      rw [if_pos (Or.inr ⟨by omega, by omega, by omega⟩)]
    · rw [pk_uLn hx]
      unfold tS
      by_cases h1 : (x / 10 < c ∧ x % 10 < cnM o (x / 10)) ∨ (x / 10 = c ∧ i + 1 ≤ x % 10 ∧ x % 10 < cnM o c)
      · rw [if_pos h1, if_pos (by omega)]
      · rw [if_neg h1, if_neg (by omega)]
  · rw [if_neg hj, if_neg hj, if_neg hj]
theorem mYr_1 {o : Ob} {C : Nat} (hC : C < 2 ^ 31) (hcn : ∀ c, c < C → ∃ n, n ≤ 10 ∧ oA o 10 c = nI n ∧ ∀ j, j < n → ∃ q, q < 4 ∧ oA o 11 (10 * c + j) = nI q) : sI (sB o 13 (tS o C 10)) 19 (oI (sB o 13 (tS o C 10)) 19 + 1) = mYr o C 1 := by
  unfold mYr
  have : tS o C 10 = fun j => if j / 10 < C ∧ j % 10 < cnM o (j / 10) then yJ o j 1 else oB o 13 j := by
    funext j
    unfold tS
    by_cases h : j / 10 < C ∧ j % 10 < cnM o (j / 10)
    · rw [if_pos (Or.inl h), if_pos h]
    · rw [if_neg (by omega), if_neg h]
  rw [this]
  rfl
set_option maxHeartbeats 1000000 in
theorem c_Mod_isIn (l : Launch) (D : va_G) (L0 : Nat) (ad : Nat → Nat) (n a b : Int64) (f : Nat → Option va_E) : Met l y_Mod_isIn (wd y_Mod_isIn b_Mod_isIn 6 (some .boolean)) { frames := 0, cells := 0, slots := 0, locals := 0 } (va_Pc [.long n, .long a, .long b] (cp D L0 ad (f))) (dt D L0 ad (some (.int (wi n a b))) (f)) 0 0 (fun q => L0 ≤ q) := by
  refine hw_met (by decide) (Nat.le_of_ble_eq_true rfl) ?_
  intro p e s m below meth c ls F hr hlocks hnm hL hH hS hl
  refine lv_lload_n F.1.1 F.1.2.1 d_Mod_isIn_0 rfl (lv_at hl 0 rfl) ?_
  refine lv_lload_n F.1.1 F.1.2.1 d_Mod_isIn_1 rfl (lv_at hl 1 rfl) ?_
  refine W.lcmp F.1.1 F.1.2.1 d_Mod_isIn_2 ?_
  refine lv_if_lt (tgt := 17) F.1.1 F.1.2.1 d_Mod_isIn_3 (by decide) (fun c3 => ?_) (fun c3 => ?_)
  · rw [lg_cmp_lt] at c3
    refine lv_iconst (v := 0) F.1.1 F.1.2.1 d_Mod_isIn_17 (by decide) ?_
    exact hw_zret F hr hlocks hH hS d_Mod_isIn_18 (by first | decide | (split <;> decide) | (unfold cif; split <;> decide)) (by rw [eq_comm, wi_0]; exact fun h => absurd h.1 (Int64.not_le.mpr c3)) rfl
  · rw [lg_cmp_lt] at c3
    refine lv_lload_n F.1.1 F.1.2.1 d_Mod_isIn_6 rfl (lv_at hl 0 rfl) ?_
    refine lv_lload F.1.1 F.1.2.1 d_Mod_isIn_7 (lv_at hl 2 rfl) ?_
    refine W.lcmp F.1.1 F.1.2.1 d_Mod_isIn_9 ?_
    refine lv_if_gt (tgt := 17) F.1.1 F.1.2.1 d_Mod_isIn_10 (by decide) (fun c10 => ?_) (fun c10 => ?_)
    · rw [lg_cmp_gt] at c10
      refine lv_iconst (v := 0) F.1.1 F.1.2.1 d_Mod_isIn_17 (by decide) ?_
      exact hw_zret F hr hlocks hH hS d_Mod_isIn_18 (by first | decide | (split <;> decide) | (unfold cif; split <;> decide)) (by rw [eq_comm, wi_0]; exact fun h => absurd h.2 (Int64.not_le.mpr c10)) rfl
    · rw [lg_cmp_gt] at c10
      refine lv_iconst (v := 1) F.1.1 F.1.2.1 d_Mod_isIn_13 (by decide) ?_
      refine lv_goto (tgt := 18) F.1.1 F.1.2.1 d_Mod_isIn_14 (by decide) ?_
      exact hw_zret F hr hlocks hH hS d_Mod_isIn_18 (by first | decide | (split <;> decide) | (unfold cif; split <;> decide)) (by unfold wi; rw [if_pos ⟨Int64.not_lt.mp c3, Int64.not_lt.mp c10⟩]) rfl
set_option maxHeartbeats 1000000 in
theorem c_Mod_isKind (l : Launch) (D : va_G) (L0 : Nat) (ad : Nat → Nat) (x : Int32) (f : Nat → Option va_E) : Met l y_Mod_isKind (wd y_Mod_isKind b_Mod_isKind 1 (some .boolean)) { frames := 1, cells := 0, slots := 0, locals := 25 } (va_Pc [.int x] (cp D L0 ad (f))) (dt D L0 ad (some (.int (wi x.toInt64 0 3))) (f)) 0 0 (fun q => L0 ≤ q) := by
  refine hw_met (by decide) (Nat.le_of_ble_eq_true rfl) ?_
  intro p e s m below meth c ls F hr hlocks hnm hL hH hS hl
  refine lv_iload_n F.1.1 F.1.2.1 d_Mod_isKind_0 rfl (lv_at hl 0 rfl) ?_
  refine lv_i2l F.1.1 F.1.2.1 d_Mod_isKind_1 rfl ?_
  refine lv_lconst (v := 0) F.1.1 F.1.2.1 d_Mod_isKind_2 (by decide) ?_
  refine lv_ldc2 F.1.1 F.1.2.1 F.1.2.2.2.1 (F.1.2.2.2.2 _ q_cl_Mod_82) d_Mod_isKind_3 ?_
  refine hw_call1 (hw_runS F hL hS hH hl (c_Mod_isIn l D L0 ad _ _ _ _) q_ml_Mod_84 q_st_Mod_isIn q_in_Mod q_co_Mod_isIn rfl (k := 3) ⟨rfl, rfl, by decide +kernel, ⟨Nat.le_of_ble_eq_true rfl, Nat.le_of_ble_eq_true rfl⟩, Nat.le_of_ble_eq_true rfl⟩ rfl d_Mod_isKind_6 ⟨Nat.le_of_ble_eq_true rfl, Nat.le_of_ble_eq_true rfl⟩) hS (fun H locs hH hS => ?_)
  exact hw_zret F hr hlocks hH hS d_Mod_isKind_9 (by first | decide | (unfold wi; split <;> decide)) rfl rfl
set_option maxHeartbeats 1000000 in
theorem c_Mod_isColumn (l : Launch) (D : va_G) (L0 : Nat) (ad : Nat → Nat) (β : Nat) (o : Ob) (f : Nat → Option va_E) (hA : hasO D ad β 6 shMod o f) (C : Nat) (hC : oI o 0 = nI C) (hC8 : C ≤ 8) (x : Int32) : Met l y_Mod_isColumn (wd y_Mod_isColumn b_Mod_isColumn 2 (some .boolean)) { frames := 1, cells := 0, slots := 0, locals := 25 } (va_Pc [.ref (ad β), .int x] (cp D L0 ad (f))) (dt D L0 ad (some (.int (wi x.toInt64 0 (lN C - 1)))) (f)) 0 0 (fun q => L0 ≤ q) := by
  refine hw_met (by decide) (Nat.le_of_ble_eq_true rfl) ?_
  intro p e s m below meth c ls F hr hlocks hnm hL hH hS hl
  replace hH := hH.to hA.symm
  refine lv_iload_n F.1.1 F.1.2.1 d_Mod_isColumn_0 rfl (lv_at hl 1 rfl) ?_
  refine lv_i2l F.1.1 F.1.2.1 d_Mod_isColumn_1 rfl ?_
  refine lv_lconst (v := 0) F.1.1 F.1.2.1 d_Mod_isColumn_2 (by decide) ?_
  refine lv_aload_n F.1.1 F.1.2.1 d_Mod_isColumn_3 rfl (lv_at hl 0 rfl) ?_
  refine gI ck_Mod F hH q_fl_Mod_75 (k := 0) (by decide) rfl d_Mod_isColumn_4 ?_
  refine lv_i2l F.1.1 F.1.2.1 d_Mod_isColumn_7 rfl ?_
  refine lv_lconst (v := 1) F.1.1 F.1.2.1 d_Mod_isColumn_8 (by decide) ?_
  refine lv_lsub F.1.1 F.1.2.1 d_Mod_isColumn_9 ?_
  rw [hC, nI_l (by omega)]
  refine hw_call1 (hw_runS F hL hS hH hl (c_Mod_isIn l D L0 ad _ _ _ _) q_ml_Mod_84 q_st_Mod_isIn q_in_Mod q_co_Mod_isIn rfl (k := 3) ⟨rfl, rfl, by decide +kernel, ⟨Nat.le_of_ble_eq_true rfl, Nat.le_of_ble_eq_true rfl⟩, Nat.le_of_ble_eq_true rfl⟩ rfl d_Mod_isColumn_10 ⟨Nat.le_of_ble_eq_true rfl, Nat.le_of_ble_eq_true rfl⟩) hS (fun H locs hH hS => ?_)
  exact hw_zret F hr hlocks hH hS d_Mod_isColumn_13 (by first | decide | (unfold wi; split <;> decide)) rfl hA
set_option maxHeartbeats 1000000 in
theorem c_Mod_heightOf (l : Launch) (D : va_G) (L0 : Nat) (ad : Nat → Nat) (β : Nat) (o : Ob) (f : Nat → Option va_E) (hA : hasO D ad β 6 shMod o f) (c0 n : Nat) (hc : c0 < 8) (hn : oA o 10 c0 = nI n) (hn10 : n ≤ 10) : Met l y_Mod_heightOf (wd y_Mod_heightOf b_Mod_heightOf 5 (some .long)) { frames := 0, cells := 0, slots := 0, locals := 0 } (va_Pc [.ref (ad β), .int (nI c0)] (cp D L0 ad (f))) (dt D L0 ad (some (.long (hmF o c0 n))) (f)) 0 0 (fun q => L0 ≤ q) := by
  refine hw_met (by decide) (Nat.le_of_ble_eq_true rfl) ?_
  intro p e s m below meth c ls F hr hlocks hnm hL hH hS hl
  replace hH := hH.to hA.symm
  refine lv_ldc2 F.1.1 F.1.2.1 F.1.2.2.2.1 (F.1.2.2.2.2 _ q_cl_Mod_93) d_Mod_heightOf_0 ?_
  refine lv_aload_n F.1.1 F.1.2.1 d_Mod_heightOf_3 rfl (lv_at hl 0 rfl) ?_
  refine gR ck_Mod F hH q_fl_Mod_47 (k := 15) (by decide) rfl (by decide) d_Mod_heightOf_4 ?_
  refine lv_iload_n F.1.1 F.1.2.1 d_Mod_heightOf_7 rfl (lv_at hl 1 rfl) ?_
  refine lA F hH rfl (vp_in_nI (by omega) (by omega)) d_Mod_heightOf_8 ?_
  refine lv_i2l F.1.1 F.1.2.1 d_Mod_heightOf_9 rfl ?_
  refine lv_lmul F.1.1 F.1.2.1 d_Mod_heightOf_10 ?_
  refine lv_lstore_n F.1.1 F.1.2.1 d_Mod_heightOf_11 rfl hl (by decide) rfl (fun ls hl => ?_)
  refine lv_iconst (v := 0) F.1.1 F.1.2.1 d_Mod_heightOf_12 (by decide) ?_
  refine lv_istore F.1.1 F.1.2.1 d_Mod_heightOf_13 hl (by decide) rfl (fun ls hl => ?_)
  have L15 : ∀ (u : Nat) (i : Nat) (H : Heap) (locs : List Loc) (ls : Array Slot), (i ≤ n) → n - i < u → hw D L0 ad (obP D ad β 6 shMod o f) H → va_S (fun q => L0 ≤ q) s.heap H locs → lv_has ls 5 [(0, .ref (ad β)), (1, .int (nI c0)), (2, .long (hmF o c0 i)), (4, .int (nI i))] → W p l e { frames := 0, cells := 0, slots := 0, locals := 0 } s m [.ref (ad β), .int (nI c0)].toArray below meth c H locs 0 0 (MQ below (dt D L0 ad (some (.long (hmF o c0 n))) (f)) [.ref (ad β), .int (nI c0)].toArray s 0 0 (fun q => L0 ≤ q)) (F0 m 15 ls []) := by
    intro u
    induction u with
    | zero => intros; exact absurd ‹(_ : Nat) < 0› (Nat.not_lt_zero _)
    | succ u ih15 =>
      intro i H locs ls hi hu hH hS hl
      refine lv_iload F.1.1 F.1.2.1 d_Mod_heightOf_15 (lv_at hl 3 rfl) ?_
      refine lv_aload_n F.1.1 F.1.2.1 d_Mod_heightOf_17 rfl (lv_at hl 0 rfl) ?_
      refine gR ck_Mod F hH q_fl_Mod_32 (k := 10) (by decide) rfl (by decide) d_Mod_heightOf_18 ?_
      refine lv_iload_n F.1.1 F.1.2.1 d_Mod_heightOf_21 rfl (lv_at hl 1 rfl) ?_
      refine lA F hH rfl (vp_in_nI (by omega) (by omega)) d_Mod_heightOf_22 ?_
      refine lv_icmp_ge (tgt := 47) F.1.1 F.1.2.1 d_Mod_heightOf_23 (by decide) (fun c23 => ?_) (fun c23 => ?_)
      · rw [nI_clamp (by omega), hn] at c23
        have hin := (nI_leI (by omega) (by omega)).mp c23
        refine lv_lload_n F.1.1 F.1.2.1 d_Mod_heightOf_47 rfl (lv_at hl 2 rfl) ?_
        exact hw_lret F hr hlocks hH hS d_Mod_heightOf_48 (by rw [show i = n by omega]) hA
      · rw [nI_clamp (by omega), hn] at c23
        have hin : i < n := by
          rcases Nat.lt_or_ge i n with q | q
          · exact q
          · exact absurd (nI_le q (by omega)) c23
        refine lv_lload_n F.1.1 F.1.2.1 d_Mod_heightOf_26 rfl (lv_at hl 2 rfl) ?_
        refine lv_aload_n F.1.1 F.1.2.1 d_Mod_heightOf_27 rfl (lv_at hl 0 rfl) ?_
        refine gR ck_Mod F hH q_fl_Mod_41 (k := 13) (by decide) rfl (by decide) d_Mod_heightOf_28 ?_
        refine lv_bipush (v := 10) F.1.1 F.1.2.1 d_Mod_heightOf_31 (by decide) ?_
        refine lv_iload_n F.1.1 F.1.2.1 d_Mod_heightOf_33 rfl (lv_at hl 1 rfl) ?_
        refine lv_imul F.1.1 F.1.2.1 d_Mod_heightOf_34 ?_
        refine lv_iload F.1.1 F.1.2.1 d_Mod_heightOf_35 (lv_at hl 3 rfl) ?_
        refine lv_iadd F.1.1 F.1.2.1 d_Mod_heightOf_37 ?_
        rw [show (10 : Int32) * nI c0 + nI i = nI (10 * c0 + i) from by rw [← nI_add, ← pk_mul]; rfl]
        refine lB F hH rfl (vp_in_nI (by omega) (by omega)) d_Mod_heightOf_38 ?_
        refine lv_ladd F.1.1 F.1.2.1 d_Mod_heightOf_39 ?_
        refine lv_lstore_n F.1.1 F.1.2.1 d_Mod_heightOf_40 rfl hl (by decide) rfl (fun ls hl => ?_)
        refine lv_iinc F.1.1 F.1.2.1 d_Mod_heightOf_41 hl (k := 3) rfl rfl (by decide) rfl (fun ls hl => ?_)
        refine lv_goto (tgt := 15) F.1.1 F.1.2.1 d_Mod_heightOf_44 (by decide) ?_
        refine ih15 (i + 1) H locs ls (by omega) (by omega) hH hS (lv_sub hl [2, 3, 1, 0] ?_)
        show [_, _, _, _] = [_, _, _, _]
        rw [nI_clamp (by omega), ii1]
        first | done | rfl
  refine L15 (n - 0 + 1) 0 s.heap [] ls (Nat.zero_le _) (Nat.lt_succ_self _) hH hS (lv_sub hl [2, 3, 1, 0] ?_)
  show [_, _, _, _] = [_, _, _, _]
  rw [nI_clamp (by omega)]
  first | done | rfl
set_option maxHeartbeats 1000000 in
theorem c_Mod_onePass (l : Launch) (D : va_G) (L0 : Nat) (ad : Nat → Nat) (β : Nat) (o : Ob) (f : Nat → Option va_E) (hA : hasO D ad β 6 shMod o f) (c0 n q : Nat) (hc : c0 < 8) (hn : oA o 10 c0 = nI (n + 1)) (hn10 : n < 10) (hq : oA o 14 (10 * c0 + n) = nI q) (hq2 : q < 2 ^ 30) : Met l y_Mod_onePass (wd y_Mod_onePass b_Mod_onePass 3 none) { frames := 0, cells := 0, slots := 0, locals := 0 } (va_Pc [.ref (ad β), .int (nI c0)] (cp D L0 ad (f))) (dt D L0 ad (none) (obP D ad β 6 shMod (mPr o (10 * c0 + n) q 1) f)) 0 0 (fun q => L0 ≤ q) := by
  refine hw_met (by decide) (Nat.le_of_ble_eq_true rfl) ?_
  intro p e s m below meth c ls F hr hlocks hnm hL hH hS hl
  replace hH := hH.to hA.symm
  refine lv_bipush (v := 10) F.1.1 F.1.2.1 d_Mod_onePass_0 (by decide) ?_
  refine lv_iload_n F.1.1 F.1.2.1 d_Mod_onePass_2 rfl (lv_at hl 1 rfl) ?_
  refine lv_imul F.1.1 F.1.2.1 d_Mod_onePass_3 ?_
  refine lv_aload_n F.1.1 F.1.2.1 d_Mod_onePass_4 rfl (lv_at hl 0 rfl) ?_
  refine gR ck_Mod F hH q_fl_Mod_32 (k := 10) (by decide) rfl (by decide) d_Mod_onePass_5 ?_
  refine lv_iload_n F.1.1 F.1.2.1 d_Mod_onePass_8 rfl (lv_at hl 1 rfl) ?_
  refine lA F hH rfl (vp_in_nI (by omega) (by omega)) d_Mod_onePass_9 ?_
  refine lv_iadd F.1.1 F.1.2.1 d_Mod_onePass_10 ?_
  refine lv_iconst (v := 1) F.1.1 F.1.2.1 d_Mod_onePass_11 (by decide) ?_
  refine lv_isub F.1.1 F.1.2.1 d_Mod_onePass_12 ?_
  rw [nI_clamp (by omega), hn, show (10 : Int32) * nI c0 + nI (n + 1) - 1 = nI (10 * c0 + n) from by rw [show (10 : Int32) = nI 10 from rfl, pk_mul, nI_add, ← Nat.add_assoc, nI_pred]]
  refine lv_istore_n F.1.1 F.1.2.1 d_Mod_onePass_13 rfl hl (by decide) rfl (fun ls hl => ?_)
  refine lv_aload_n F.1.1 F.1.2.1 d_Mod_onePass_14 rfl (lv_at hl 1 rfl) ?_
  refine gR ck_Mod F hH q_fl_Mod_41 (k := 13) (by decide) rfl (by decide) d_Mod_onePass_15 ?_
  refine lv_iload_n F.1.1 F.1.2.1 d_Mod_onePass_18 rfl (lv_at hl 0 rfl) ?_
  refine lv_dup2_11 F.1.1 F.1.2.1 d_Mod_onePass_19 rfl rfl ?_
  refine lB F hH rfl (vp_in_nI (by omega) (by omega)) d_Mod_onePass_20 ?_
  refine lv_aload_n F.1.1 F.1.2.1 d_Mod_onePass_21 rfl (lv_at hl 1 rfl) ?_
  refine gR ck_Mod F hH q_fl_Mod_41 (k := 13) (by decide) rfl (by decide) d_Mod_onePass_22 ?_
  refine lv_iload_n F.1.1 F.1.2.1 d_Mod_onePass_25 rfl (lv_at hl 0 rfl) ?_
  refine lB F hH rfl (vp_in_nI (by omega) (by omega)) d_Mod_onePass_26 ?_
  refine lv_bipush (v := 8) F.1.1 F.1.2.1 d_Mod_onePass_27 (by decide) ?_
  refine lv_aload_n F.1.1 F.1.2.1 d_Mod_onePass_29 rfl (lv_at hl 1 rfl) ?_
  refine gR ck_Mod F hH q_fl_Mod_44 (k := 14) (by decide) rfl (by decide) d_Mod_onePass_30 ?_
  refine lv_iload_n F.1.1 F.1.2.1 d_Mod_onePass_33 rfl (lv_at hl 0 rfl) ?_
  refine lA F hH rfl (vp_in_nI (by omega) (by omega)) d_Mod_onePass_34 ?_
  refine lv_iadd F.1.1 F.1.2.1 d_Mod_onePass_35 ?_
  refine lv_i2l F.1.1 F.1.2.1 d_Mod_onePass_36 rfl ?_
  refine lv_ldiv F.1.1 F.1.2.1 d_Mod_onePass_37 (by rw [nI_clamp (by omega), hq, show (8 : Int32) + nI q = nI (8 + q) from nI_add 8 q]; exact pr_nz hq2) ?_
  refine lv_lsub F.1.1 F.1.2.1 d_Mod_onePass_38 ?_
  refine tB F hH hS rfl (vp_in_nI (by omega) (by omega)) d_Mod_onePass_39 (fun H locs hH hS => ?_)
  refine lv_aload_n F.1.1 F.1.2.1 d_Mod_onePass_40 rfl (lv_at hl 1 rfl) ?_
  refine gR ck_Mod F hH q_fl_Mod_44 (k := 14) (by decide) rfl (by decide) d_Mod_onePass_41 ?_
  refine lv_iload_n F.1.1 F.1.2.1 d_Mod_onePass_44 rfl (lv_at hl 0 rfl) ?_
  refine lv_dup2_11 F.1.1 F.1.2.1 d_Mod_onePass_45 rfl rfl ?_
  refine lA F hH rfl (vp_in_nI (by omega) (by omega)) d_Mod_onePass_46 ?_
  refine lv_iconst (v := 1) F.1.1 F.1.2.1 d_Mod_onePass_47 (by decide) ?_
  refine lv_iadd F.1.1 F.1.2.1 d_Mod_onePass_48 ?_
  refine tA F hH hS rfl (vp_in_nI (by omega) (by omega)) d_Mod_onePass_49 (fun H locs hH hS => ?_)
  exact hw_vret F hr hlocks hH hS d_Mod_onePass_50 (congrArg (fun o => obP D ad β 6 shMod o f) (mPr_1 (by omega) hq))
set_option maxHeartbeats 1000000 in
theorem c_Mod_oneYear (l : Launch) (D : va_G) (L0 : Nat) (ad : Nat → Nat) (β : Nat) (o : Ob) (f : Nat → Option va_E) (hA : hasO D ad β 6 shMod o f) (C : Nat) (hC : oI o 0 = nI C) (hC8 : C ≤ 8) (hcn : ∀ c, c < C → ∃ n, n ≤ 10 ∧ oA o 10 c = nI n ∧ ∀ j, j < n → ∃ q, q < 4 ∧ oA o 11 (10 * c + j) = nI q) (hrn : ∀ k, k < 4 → ∃ r, r ≤ 4 ∧ oA o 16 k = nI r) : Met l y_Mod_oneYear (wd y_Mod_oneYear b_Mod_oneYear 10 none) { frames := 0, cells := 0, slots := 0, locals := 0 } (va_Pc [.ref (ad β)] (cp D L0 ad (f))) (dt D L0 ad (none) (obP D ad β 6 shMod (mYr o C 1) f)) 0 0 (fun q => L0 ≤ q) := by
  refine hw_met (by decide) (Nat.le_of_ble_eq_true rfl) ?_
  intro p e s m below meth c ls F hr hlocks hnm hL hH hS hl
  replace hH := hH.to hA.symm
  refine lv_iconst (v := 0) F.1.1 F.1.2.1 d_Mod_oneYear_0 (by decide) ?_
  refine lv_istore_n F.1.1 F.1.2.1 d_Mod_oneYear_1 rfl hl (by decide) rfl (fun ls hl => ?_)
  have L2 : ∀ (u : Nat) (c0 : Nat) (H : Heap) (locs : List Loc) (ls : Array Slot), (c0 ≤ C) → C - c0 < u → hw D L0 ad (obP D ad β 6 shMod (sB o 13 (tS o c0 10)) f) H → va_S (fun q => L0 ≤ q) s.heap H locs → lv_has ls 10 [(0, .ref (ad β)), (1, .int (nI c0))] → W p l e { frames := 0, cells := 0, slots := 0, locals := 0 } s m [.ref (ad β)].toArray below meth c H locs 0 0 (MQ below (dt D L0 ad (none) (obP D ad β 6 shMod (mYr o C 1) f)) [.ref (ad β)].toArray s 0 0 (fun q => L0 ≤ q)) (F0 m 2 ls []) := by
    intro u
    induction u with
    | zero => intros; exact absurd ‹(_ : Nat) < 0› (Nat.not_lt_zero _)
    | succ u ih2 =>
      intro c0 H locs ls hc hu hH hS hl
      refine lv_iload_n F.1.1 F.1.2.1 d_Mod_oneYear_2 rfl (lv_at hl 1 rfl) ?_
      refine lv_aload_n F.1.1 F.1.2.1 d_Mod_oneYear_3 rfl (lv_at hl 0 rfl) ?_
      refine gI ck_Mod F hH q_fl_Mod_75 (k := 0) (by decide) rfl d_Mod_oneYear_4 ?_
      refine lv_icmp_ge (tgt := 161) F.1.1 F.1.2.1 d_Mod_oneYear_7 (by decide) (fun c7 => ?_) (fun c7 => ?_)
      · rw [show oI (sB o 13 (tS o c0 10)) 0 = nI C from hC] at c7
        have hin := (nI_leI (by omega) (by omega)).mp c7
        refine lv_aload_n F.1.1 F.1.2.1 d_Mod_oneYear_161 rfl (lv_at hl 0 rfl) ?_
        refine lv_dup F.1.1 F.1.2.1 d_Mod_oneYear_162 rfl ?_
        refine gI ck_Mod F hH q_fl_Mod_90 (k := 19) (by decide) rfl d_Mod_oneYear_163 ?_
        refine lv_iconst (v := 1) F.1.1 F.1.2.1 d_Mod_oneYear_166 (by decide) ?_
        refine lv_iadd F.1.1 F.1.2.1 d_Mod_oneYear_167 ?_
        refine pI ck_Mod F hH hS q_fl_Mod_90 (k := 19) (by decide) rfl rfl rfl d_Mod_oneYear_168 (fun H locs hH hS => ?_)
        exact hw_vret F hr hlocks hH hS d_Mod_oneYear_171 (congrArg (fun o => obP D ad β 6 shMod o f) (by rw [show c0 = C by omega]; exact mYr_1 (by omega) hcn))
      · rw [show oI (sB o 13 (tS o c0 10)) 0 = nI C from hC] at c7
        have hin : c0 < C := by
          rcases Nat.lt_or_ge c0 C with q | q
          · exact q
          · exact absurd (nI_le q (by omega)) c7
        obtain ⟨n, hn10, hn, hkq⟩ := hcn c0 hin
        refine lv_lconst (v := 0) F.1.1 F.1.2.1 d_Mod_oneYear_10 (by decide) ?_
        refine lv_lstore_n F.1.1 F.1.2.1 d_Mod_oneYear_11 rfl hl (by decide) rfl (fun ls hl => ?_)
        refine lv_aload_n F.1.1 F.1.2.1 d_Mod_oneYear_12 rfl (lv_at hl 1 rfl) ?_
        refine gR ck_Mod F hH q_fl_Mod_32 (k := 10) (by decide) rfl (by decide) d_Mod_oneYear_13 ?_
        refine lv_iload_n F.1.1 F.1.2.1 d_Mod_oneYear_16 rfl (lv_at hl 2 rfl) ?_
        refine lA F hH rfl (vp_in_nI (by omega) (by omega)) d_Mod_oneYear_17 ?_
        refine lv_iconst (v := 1) F.1.1 F.1.2.1 d_Mod_oneYear_18 (by decide) ?_
        refine lv_isub F.1.1 F.1.2.1 d_Mod_oneYear_19 ?_
        rw [nI_clamp (by omega)]
        rw [show oA (sB o 13 (tS o c0 10)) 10 c0 = nI n from hn]
        refine lv_istore F.1.1 F.1.2.1 d_Mod_oneYear_20 hl (by decide) rfl (fun ls hl => ?_)
        have L22 : ∀ (u : Nat) (i : Nat) (H : Heap) (locs : List Loc) (ls : Array Slot), (i ≤ n) → i < u → hw D L0 ad (obP D ad β 6 shMod (sB o 13 (tS o c0 i)) f) H → va_S (fun q => L0 ≤ q) s.heap H locs → lv_has ls 10 [(0, .ref (ad β)), (1, .int (nI c0)), (2, .long (dn (fun j => oB o 12 (10 * c0 + j)) n (n - i))), (4, .int (nI i - 1))] → W p l e { frames := 0, cells := 0, slots := 0, locals := 0 } s m [.ref (ad β)].toArray below meth c H locs 0 0 (MQ below (dt D L0 ad (none) (obP D ad β 6 shMod (mYr o C 1) f)) [.ref (ad β)].toArray s 0 0 (fun q => L0 ≤ q)) (F0 m 22 ls []) := by
          intro u
          induction u with
          | zero => intros; exact absurd ‹(_ : Nat) < 0› (Nat.not_lt_zero _)
          | succ u ih22 =>
            intro i H locs ls hi hu hH hS hl
            refine lv_iload F.1.1 F.1.2.1 d_Mod_oneYear_22 (lv_at hl 3 rfl) ?_
            refine lv_if_lt (tgt := 155) F.1.1 F.1.2.1 d_Mod_oneYear_24 (by decide) (fun c24 => ?_) (fun c24 => ?_)
            · rw [nI_m1_neg (by omega)] at c24
              subst c24
              refine lv_iinc F.1.1 F.1.2.1 d_Mod_oneYear_155 hl (k := 1) rfl rfl (by decide) rfl (fun ls hl => ?_)
              refine lv_goto (tgt := 2) F.1.1 F.1.2.1 d_Mod_oneYear_158 (by decide) ?_
              refine ih2 (c0 + 1) H locs ls (by omega) (by omega) (hH.to (congrArg (fun g => obP D ad β 6 shMod (sB o 13 g) f) (tS_c hn hn10))) hS (lv_sub hl [1, 0] ?_)
              show [_, _] = [_, _]
              rw [ii1]
              first | done | rfl
            · rw [nI_m1_neg (by omega)] at c24
              obtain ⟨i, rfl⟩ : ∃ k, i = k + 1 := ⟨i - 1, by omega⟩
              rw [nI_pred] at hl
              obtain ⟨q, hq4, hq⟩ := hkq i (by omega)
              obtain ⟨rn, hrn4, hrr⟩ := hrn q hq4
              refine lv_bipush (v := 10) F.1.1 F.1.2.1 d_Mod_oneYear_27 (by decide) ?_
              refine lv_iload_n F.1.1 F.1.2.1 d_Mod_oneYear_29 rfl (lv_at hl 1 rfl) ?_
              refine lv_imul F.1.1 F.1.2.1 d_Mod_oneYear_30 ?_
              refine lv_iload F.1.1 F.1.2.1 d_Mod_oneYear_31 (lv_at hl 3 rfl) ?_
              refine lv_iadd F.1.1 F.1.2.1 d_Mod_oneYear_33 ?_
              rw [show (10 : Int32) * nI c0 + nI i = nI (10 * c0 + i) from by rw [← nI_add, ← pk_mul]; rfl]
              refine lv_istore F.1.1 F.1.2.1 d_Mod_oneYear_34 hl (by decide) rfl (fun ls hl => ?_)
              refine lv_aload_n F.1.1 F.1.2.1 d_Mod_oneYear_36 rfl (lv_at hl 1 rfl) ?_
              refine gR ck_Mod F hH q_fl_Mod_35 (k := 11) (by decide) rfl (by decide) d_Mod_oneYear_37 ?_
              refine lv_iload F.1.1 F.1.2.1 d_Mod_oneYear_40 (lv_at hl 0 rfl) ?_
              refine lA F hH rfl (vp_in_nI (by omega) (by omega)) d_Mod_oneYear_42 ?_
              rw [nI_clamp (by omega)]
              rw [show oA (sB o 13 (tS o c0 (i + 1))) 11 (10 * c0 + i) = nI q from hq]
              refine lv_istore F.1.1 F.1.2.1 d_Mod_oneYear_43 hl (by decide) rfl (fun ls hl => ?_)
              refine lv_lconst (v := 0) F.1.1 F.1.2.1 d_Mod_oneYear_45 (by decide) ?_
              refine lv_lstore F.1.1 F.1.2.1 d_Mod_oneYear_46 hl (by decide) rfl (fun ls hl => ?_)
              refine lv_iconst (v := 0) F.1.1 F.1.2.1 d_Mod_oneYear_48 (by decide) ?_
              refine lv_istore F.1.1 F.1.2.1 d_Mod_oneYear_49 hl (by decide) rfl (fun ls hl => ?_)
              have L51 : ∀ (u : Nat) (r : Nat) (H : Heap) (locs : List Loc) (ls : Array Slot), (r ≤ rn) → rn - r < u → hw D L0 ad (obP D ad β 6 shMod (sB o 13 (tS o c0 (i + 1))) f) H → va_S (fun q => L0 ≤ q) s.heap H locs → lv_has ls 10 [(0, .ref (ad β)), (1, .int (nI c0)), (2, .long (dn (fun j => oB o 12 (10 * c0 + j)) n (n - (i + 1)))), (4, .int (nI i)), (5, .int (nI (10 * c0 + i))), (6, .int (nI q)), (7, .long (byF (fun r => oB o 17 (4 * q + r)) (fun r => oA o 18 (4 * q + r)) (dn (fun j => oB o 12 (10 * c0 + j)) n (n - (i + 1))) r)), (9, .int (nI r))] → W p l e { frames := 0, cells := 0, slots := 0, locals := 0 } s m [.ref (ad β)].toArray below meth c H locs 0 0 (MQ below (dt D L0 ad (none) (obP D ad β 6 shMod (mYr o C 1) f)) [.ref (ad β)].toArray s 0 0 (fun q => L0 ≤ q)) (F0 m 51 ls []) := by
                intro u
                induction u with
                | zero => intros; exact absurd ‹(_ : Nat) < 0› (Nat.not_lt_zero _)
                | succ u ih51 =>
                  intro r H locs ls hr_ hu hH hS hl
                  refine lv_iload F.1.1 F.1.2.1 d_Mod_oneYear_51 (lv_at hl 7 rfl) ?_
                  refine lv_aload_n F.1.1 F.1.2.1 d_Mod_oneYear_53 rfl (lv_at hl 0 rfl) ?_
                  refine gR ck_Mod F hH q_fl_Mod_50 (k := 16) (by decide) rfl (by decide) d_Mod_oneYear_54 ?_
                  refine lv_iload F.1.1 F.1.2.1 d_Mod_oneYear_57 (lv_at hl 5 rfl) ?_
                  refine lA F hH rfl (vp_in_nI (by omega) (by omega)) d_Mod_oneYear_59 ?_
                  refine lv_icmp_ge (tgt := 106) F.1.1 F.1.2.1 d_Mod_oneYear_60 (by decide) (fun c60 => ?_) (fun c60 => ?_)
                  · rw [show oA (sB o 13 (tS o c0 (i + 1))) 16 (nI q).toNatClampNeg = nI rn from by rw [nI_clamp (by omega)]; exact hrr] at c60
                    have hir := (nI_leI (by omega) (by omega)).mp c60
                    obtain rfl : r = rn := by omega
                    refine lv_aload_n F.1.1 F.1.2.1 d_Mod_oneYear_106 rfl (lv_at hl 0 rfl) ?_
                    refine gR ck_Mod F hH q_fl_Mod_41 (k := 13) (by decide) rfl (by decide) d_Mod_oneYear_107 ?_
                    refine lv_iload F.1.1 F.1.2.1 d_Mod_oneYear_110 (lv_at hl 4 rfl) ?_
                    refine lv_dup2_11 F.1.1 F.1.2.1 d_Mod_oneYear_112 rfl rfl ?_
                    refine lB F hH rfl (vp_in_nI (by omega) (by omega)) d_Mod_oneYear_113 ?_
                    refine lv_aload_n F.1.1 F.1.2.1 d_Mod_oneYear_114 rfl (lv_at hl 0 rfl) ?_
                    refine gR ck_Mod F hH q_fl_Mod_41 (k := 13) (by decide) rfl (by decide) d_Mod_oneYear_115 ?_
                    refine lv_iload F.1.1 F.1.2.1 d_Mod_oneYear_118 (lv_at hl 4 rfl) ?_
                    refine lB F hH rfl (vp_in_nI (by omega) (by omega)) d_Mod_oneYear_120 ?_
                    refine lv_lload F.1.1 F.1.2.1 d_Mod_oneYear_121 (lv_at hl 6 rfl) ?_
                    refine lv_lmul F.1.1 F.1.2.1 d_Mod_oneYear_123 ?_
                    refine lv_aload_n F.1.1 F.1.2.1 d_Mod_oneYear_124 rfl (lv_at hl 0 rfl) ?_
                    refine gR ck_Mod F hH q_fl_Mod_13 (k := 3) (by decide) rfl (by decide) d_Mod_oneYear_125 ?_
                    refine lv_iload F.1.1 F.1.2.1 d_Mod_oneYear_128 (lv_at hl 5 rfl) ?_
                    refine lA F hH rfl (vp_in_nI (by omega) (by omega)) d_Mod_oneYear_130 ?_
                    refine lv_i2l F.1.1 F.1.2.1 d_Mod_oneYear_131 rfl ?_
                    refine lv_lmul F.1.1 F.1.2.1 d_Mod_oneYear_132 ?_
                    refine lv_ldc2 F.1.1 F.1.2.1 F.1.2.2.2.1 (F.1.2.2.2.2 _ q_cl_Mod_88) d_Mod_oneYear_133 ?_
                    refine lv_ldiv F.1.1 F.1.2.1 d_Mod_oneYear_136 (by decide) ?_
                    refine lv_lsub F.1.1 F.1.2.1 d_Mod_oneYear_137 ?_
                    refine tB F hH hS rfl (vp_in_nI (by omega) (by omega)) d_Mod_oneYear_138 (fun H locs hH hS => ?_)
                    refine lv_lload_n F.1.1 F.1.2.1 d_Mod_oneYear_139 rfl (lv_at hl 2 rfl) ?_
                    refine lv_aload_n F.1.1 F.1.2.1 d_Mod_oneYear_140 rfl (lv_at hl 0 rfl) ?_
                    refine gR ck_Mod F hH q_fl_Mod_38 (k := 12) (by decide) rfl (by decide) d_Mod_oneYear_141 ?_
                    refine lv_iload F.1.1 F.1.2.1 d_Mod_oneYear_144 (lv_at hl 4 rfl) ?_
                    refine lB F hH rfl (vp_in_nI (by omega) (by omega)) d_Mod_oneYear_146 ?_
                    refine lv_ladd F.1.1 F.1.2.1 d_Mod_oneYear_147 ?_
                    refine lv_lstore_n F.1.1 F.1.2.1 d_Mod_oneYear_148 rfl hl (by decide) rfl (fun ls hl => ?_)
                    refine lv_iinc F.1.1 F.1.2.1 d_Mod_oneYear_149 hl (k := 3) rfl rfl (by decide) rfl (fun ls hl => ?_)
                    refine lv_goto (tgt := 22) F.1.1 F.1.2.1 d_Mod_oneYear_152 (by decide) ?_
                    refine ih22 i H locs ls (by omega) (by omega) (hH.to (congrArg (fun o => obP D ad β 6 shMod o f) (tS_s hn hn10 (by omega) hq hrr (by omega) (by omega)))) hS (lv_sub hl [2, 3, 1, 0] ?_)
                    show [_, _, _, _] = [_, _, _, _]
                    rw [nI_pn, nI_clamp (by omega), show n - i = (n - (i + 1)) + 1 by omega, dn_s (by omega)]
                    first | done | rfl
                  · rw [show oA (sB o 13 (tS o c0 (i + 1))) 16 (nI q).toNatClampNeg = nI rn from by rw [nI_clamp (by omega)]; exact hrr] at c60
                    have hir : r < rn := by
                      rcases Nat.lt_or_ge r rn with q | q
                      · exact q
                      · exact absurd (nI_le q (by omega)) c60
                    refine lv_aload_n F.1.1 F.1.2.1 d_Mod_oneYear_63 rfl (lv_at hl 0 rfl) ?_
                    refine gR ck_Mod F hH q_fl_Mod_53 (k := 17) (by decide) rfl (by decide) d_Mod_oneYear_64 ?_
                    refine lv_iconst (v := 4) F.1.1 F.1.2.1 d_Mod_oneYear_67 (by decide) ?_
                    refine lv_iload F.1.1 F.1.2.1 d_Mod_oneYear_68 (lv_at hl 5 rfl) ?_
                    refine lv_imul F.1.1 F.1.2.1 d_Mod_oneYear_70 ?_
                    refine lv_iload F.1.1 F.1.2.1 d_Mod_oneYear_71 (lv_at hl 7 rfl) ?_
                    refine lv_iadd F.1.1 F.1.2.1 d_Mod_oneYear_73 ?_
                    rw [show (4 : Int32) * nI q + nI r = nI (4 * q + r) from by rw [← nI_add, ← pk_mul]; rfl]
                    refine lB F hH rfl (vp_in_nI (by omega) (by omega)) d_Mod_oneYear_74 ?_
                    refine lv_lload_n F.1.1 F.1.2.1 d_Mod_oneYear_75 rfl (lv_at hl 2 rfl) ?_
                    refine W.lcmp F.1.1 F.1.2.1 d_Mod_oneYear_76 ?_
                    refine lv_if_gt (tgt := 96) F.1.1 F.1.2.1 d_Mod_oneYear_77 (by decide) (fun c77 => ?_) (fun c77 => ?_)
                    · rw [lg_cmp_gt, nI_clamp (by omega)] at c77
                      refine lv_lload F.1.1 F.1.2.1 d_Mod_oneYear_96 (lv_at hl 6 rfl) ?_
                      refine lv_lstore F.1.1 F.1.2.1 d_Mod_oneYear_98 hl (by decide) rfl (fun ls hl => ?_)
                      refine lv_iinc F.1.1 F.1.2.1 d_Mod_oneYear_100 hl (k := 7) rfl rfl (by decide) rfl (fun ls hl => ?_)
                      refine lv_goto (tgt := 51) F.1.1 F.1.2.1 d_Mod_oneYear_103 (by decide) ?_
                      refine ih51 (r + 1) H locs ls (by omega) (by omega) hH hS (lv_sub hl [2, 3, 4, 5, 6, 7, 1, 0] ?_)
                      show [_, _, _, _, _, _, _, _] = [_, _, _, _, _, _, _, _]
                      rw [ii1, byF_0 (lds := fun r => oB o 17 (4 * q + r)) (k := r) (Int64.not_le.mpr c77)]
                      first | done | rfl
                    · rw [lg_cmp_gt, nI_clamp (by omega)] at c77
                      refine lv_aload_n F.1.1 F.1.2.1 d_Mod_oneYear_80 rfl (lv_at hl 0 rfl) ?_
                      refine gR ck_Mod F hH q_fl_Mod_56 (k := 18) (by decide) rfl (by decide) d_Mod_oneYear_81 ?_
                      refine lv_iconst (v := 4) F.1.1 F.1.2.1 d_Mod_oneYear_84 (by decide) ?_
                      refine lv_iload F.1.1 F.1.2.1 d_Mod_oneYear_85 (lv_at hl 5 rfl) ?_
                      refine lv_imul F.1.1 F.1.2.1 d_Mod_oneYear_87 ?_
                      refine lv_iload F.1.1 F.1.2.1 d_Mod_oneYear_88 (lv_at hl 7 rfl) ?_
                      refine lv_iadd F.1.1 F.1.2.1 d_Mod_oneYear_90 ?_
                      rw [show (4 : Int32) * nI q + nI r = nI (4 * q + r) from by rw [← nI_add, ← pk_mul]; rfl]
                      refine lA F hH rfl (vp_in_nI (by omega) (by omega)) d_Mod_oneYear_91 ?_
                      refine lv_i2l F.1.1 F.1.2.1 d_Mod_oneYear_92 rfl ?_
                      refine lv_goto (tgt := 98) F.1.1 F.1.2.1 d_Mod_oneYear_93 (by decide) ?_
                      refine lv_lstore F.1.1 F.1.2.1 d_Mod_oneYear_98 hl (by decide) rfl (fun ls hl => ?_)
                      refine lv_iinc F.1.1 F.1.2.1 d_Mod_oneYear_100 hl (k := 7) rfl rfl (by decide) rfl (fun ls hl => ?_)
                      refine lv_goto (tgt := 51) F.1.1 F.1.2.1 d_Mod_oneYear_103 (by decide) ?_
                      refine ih51 (r + 1) H locs ls (by omega) (by omega) hH hS (lv_sub hl [2, 3, 4, 5, 6, 7, 1, 0] ?_)
                      show [_, _, _, _, _, _, _, _] = [_, _, _, _, _, _, _, _]
                      rw [ii1, nI_clamp (by omega), byF_1 (lds := fun r => oB o 17 (4 * q + r)) (k := r) (Int64.not_lt.mp c77)]
                      first | done | rfl
              exact L51 (rn - 0 + 1) 0 H locs ls (Nat.zero_le _) (Nat.lt_succ_self _) hH hS (lv_sub hl [4, 5, 6, 7, 3, 2, 1, 0] rfl)
        refine L22 (n + 1) n H locs ls (Nat.le_refl _) (Nat.lt_succ_self _) (hH.to (congrArg (fun g => obP D ad β 6 shMod (sB o 13 g) f) (tS_n hn hn10))) hS (lv_sub hl [2, 3, 1, 0] ?_)
        show [_, _, _, _] = [_, _, _, _]
        rw [Nat.sub_self]
        first | done | rfl
  exact L2 (C - 0 + 1) 0 s.heap [] ls (Nat.zero_le _) (Nat.lt_succ_self _) (hH.to (by rw [tS_0, sB_self])) hS (lv_sub hl [1, 0] rfl)
