/-! CellSettling$Kind: contracts; printed by wip/gen/col.py -/
def rowF (o : Ob) (n : Nat) (ld : Int64) (sh : Int32) : Ob := sI (sA (sB o 0 (vp_updL (oB o 0) n ld)) 1 (upd (oA o 1) n sh)) 2 (nI (n + 1))
theorem row_eq {o : Ob} {n : Nat} {ld : Int64} {sh : Int32} (hn : oI o 2 = nI n) (h : n < 4) : sI (sA (sB o 0 (vp_updL (oB o 0) (oI o 2).toNatClampNeg ld)) 1 (upd (oA o 1) (oI o 2).toNatClampNeg sh)) 2 (oI o 2 + 1) = rowF o n ld sh := by
  rw [hn, nI_clamp (by omega), nI_1]; rfl
def byF (lds : Nat → Int64) (ts : Nat → Int32) (ld : Int64) : Nat → Int64
  | 0 => 0
  | k + 1 => if lds k ≤ ld then (ts k).toInt64 else byF lds ts ld k
theorem nI_pn {n : Nat} : nI n + Int32.ofInt (-1) = nI n - 1 := by
  show nI n + (-1) = nI n - 1
  exact (Int32.sub_eq_add_neg _ _).symm
def tkF (o : Ob) (n : Nat) (ld : Int64) (sh : Int32) : Prop := n < 4 ∧ (0 ≤ ld ∧ ld ≤ 100000000) ∧ (0 ≤ sh.toInt64 ∧ sh.toInt64 ≤ 300) ∧ (n = 0 ∨ oB o 0 (n - 1) < ld)
noncomputable def tkFd (o : Ob) (n : Nat) (ld : Int64) (sh : Int32) : Decidable (tkF o n ld sh) := Classical.propDecidable _
set_option maxHeartbeats 1000000 in
theorem c_Kin_forgetRows (l : Launch) (D : va_G) (L0 : Nat) (ad : Nat → Nat) (β : Nat) (o : Ob) (f : Nat → Option va_E) (hA : hasO D ad β 1 shKin o f) : Met l y_Kin_forgetRows (wd y_Kin_forgetRows b_Kin_forgetRows 1 none) { frames := 0, cells := 0, slots := 0, locals := 0 } (va_Pc [.ref (ad β)] (cp D L0 ad (f))) (dt D L0 ad (none) (obP D ad β 1 shKin (sI o 2 0) f)) 0 0 (fun q => L0 ≤ q) := by
  refine hw_met (by decide) (Nat.le_of_ble_eq_true rfl) ?_
  intro p e s m below meth c ls F hr hlocks hnm hL hH hS hl
  replace hH := hH.to hA.symm
  refine lv_aload_n F.1.1 F.1.2.1 d_Kin_forgetRows_0 rfl (lv_at hl 0 rfl) ?_
  refine lv_iconst (v := 0) F.1.1 F.1.2.1 d_Kin_forgetRows_1 (by decide) ?_
  refine pI ck_Kin F hH hS q_fl_Kin_24 (k := 2) (by decide) rfl rfl rfl d_Kin_forgetRows_2 (fun H locs hH hS => ?_)
  exact hw_vret F hr hlocks hH hS d_Kin_forgetRows_5 rfl
set_option maxHeartbeats 1000000 in
theorem c_Kin_addRow (l : Launch) (D : va_G) (L0 : Nat) (ad : Nat → Nat) (β : Nat) (o : Ob) (f : Nat → Option va_E) (hA : hasO D ad β 1 shKin o f) (ld : Int64) (sh : Int32) (n : Nat) (hn : oI o 2 = nI n) (hn4 : n < 4) : Met l y_Kin_addRow (wd y_Kin_addRow b_Kin_addRow 4 none) { frames := 0, cells := 0, slots := 0, locals := 0 } (va_Pc [.ref (ad β), .long ld, .int sh] (cp D L0 ad (f))) (dt D L0 ad (none) (obP D ad β 1 shKin (rowF o n ld sh) f)) 0 0 (fun q => L0 ≤ q) := by
  refine hw_met (by decide) (Nat.le_of_ble_eq_true rfl) ?_
  intro p e s m below meth c ls F hr hlocks hnm hL hH hS hl
  replace hH := hH.to hA.symm
  have hix : vp_in (oI o 2) 4 := by rw [hn]; exact vp_in_nI (by omega) (by omega)
  refine lv_aload_n F.1.1 F.1.2.1 d_Kin_addRow_0 rfl (lv_at hl 0 rfl) ?_
  refine gI ck_Kin F hH q_fl_Kin_24 (k := 2) (by decide) rfl d_Kin_addRow_1 ?_
  refine lv_iconst (v := 4) F.1.1 F.1.2.1 d_Kin_addRow_4 (by decide) ?_
  refine lv_icmp_lt (tgt := 9) F.1.1 F.1.2.1 d_Kin_addRow_5 (by decide) (fun c5 => ?_) (fun c5 => ?_)
  · refine lv_aload_n F.1.1 F.1.2.1 d_Kin_addRow_9 rfl (lv_at hl 0 rfl) ?_
    refine gR ck_Kin F hH q_fl_Kin_9 (k := 0) (by decide) rfl (by decide) d_Kin_addRow_10 ?_
    refine lv_aload_n F.1.1 F.1.2.1 d_Kin_addRow_13 rfl (lv_at hl 0 rfl) ?_
    refine gI ck_Kin F hH q_fl_Kin_24 (k := 2) (by decide) rfl d_Kin_addRow_14 ?_
    refine lv_lload_n F.1.1 F.1.2.1 d_Kin_addRow_17 rfl (lv_at hl 1 rfl) ?_
    refine tB F hH hS rfl hix d_Kin_addRow_18 (fun H locs hH hS => ?_)
    refine lv_aload_n F.1.1 F.1.2.1 d_Kin_addRow_19 rfl (lv_at hl 0 rfl) ?_
    refine gR ck_Kin F hH q_fl_Kin_13 (k := 1) (by decide) rfl (by decide) d_Kin_addRow_20 ?_
    refine lv_aload_n F.1.1 F.1.2.1 d_Kin_addRow_23 rfl (lv_at hl 0 rfl) ?_
    refine gI ck_Kin F hH q_fl_Kin_24 (k := 2) (by decide) rfl d_Kin_addRow_24 ?_
    refine lv_iload_n F.1.1 F.1.2.1 d_Kin_addRow_27 rfl (lv_at hl 2 rfl) ?_
    refine tA F hH hS rfl hix d_Kin_addRow_28 (fun H locs hH hS => ?_)
    refine lv_aload_n F.1.1 F.1.2.1 d_Kin_addRow_29 rfl (lv_at hl 0 rfl) ?_
    refine lv_dup F.1.1 F.1.2.1 d_Kin_addRow_30 rfl ?_
    refine gI ck_Kin F hH q_fl_Kin_24 (k := 2) (by decide) rfl d_Kin_addRow_31 ?_
    refine lv_iconst (v := 1) F.1.1 F.1.2.1 d_Kin_addRow_34 (by decide) ?_
    refine lv_iadd F.1.1 F.1.2.1 d_Kin_addRow_35 ?_
    refine pI ck_Kin F hH hS q_fl_Kin_24 (k := 2) (by decide) rfl rfl rfl d_Kin_addRow_36 (fun H locs hH hS => ?_)
    exact hw_vret F hr hlocks hH hS d_Kin_addRow_39 (congrArg (fun o => obP D ad β 1 shKin o f) (row_eq hn hn4))
  · exact absurd (by rw [hn]; exact (nI_lt hn4 (by omega) : nI n < nI 4)) c5
set_option maxHeartbeats 1000000 in
theorem c_Kin_yearlyMillionths (l : Launch) (D : va_G) (L0 : Nat) (ad : Nat → Nat) (β : Nat) (o : Ob) (f : Nat → Option va_E) (hA : hasO D ad β 1 shKin o f) (ld : Int64) (n : Nat) (hn : oI o 2 = nI n) (hn4 : n ≤ 4) : Met l y_Kin_yearlyMillionths (wd y_Kin_yearlyMillionths b_Kin_yearlyMillionths 4 (some .long)) { frames := 0, cells := 0, slots := 0, locals := 0 } (va_Pc [.ref (ad β), .long ld] (cp D L0 ad (f))) (dt D L0 ad (some (.long (byF (oB o 0) (oA o 1) ld n * (oI o 4).toInt64))) (f)) 0 0 (fun q => L0 ≤ q) := by
  refine hw_met (by decide) (Nat.le_of_ble_eq_true rfl) ?_
  intro p e s m below meth c ls F hr hlocks hnm hL hH hS hl
  replace hH := hH.to hA.symm
  refine lv_aload_n F.1.1 F.1.2.1 d_Kin_yearlyMillionths_0 rfl (lv_at hl 0 rfl) ?_
  refine gI ck_Kin F hH q_fl_Kin_24 (k := 2) (by decide) rfl d_Kin_yearlyMillionths_1 ?_
  refine lv_iconst (v := 1) F.1.1 F.1.2.1 d_Kin_yearlyMillionths_4 (by decide) ?_
  refine lv_isub F.1.1 F.1.2.1 d_Kin_yearlyMillionths_5 ?_
  refine lv_istore_n F.1.1 F.1.2.1 d_Kin_yearlyMillionths_6 rfl hl (by decide) rfl (fun ls hl => ?_)
  have L7 : ∀ (u : Nat) (i : Nat) (H : Heap) (locs : List Loc) (ls : Array Slot), (i ≤ n) → (byF (oB o 0) (oA o 1) ld i = byF (oB o 0) (oA o 1) ld n) → i < u → hw D L0 ad (obP D ad β 1 shKin o f) H → va_S (fun q => L0 ≤ q) s.heap H locs → lv_has ls 4 [(0, .ref (ad β)), (1, .long ld), (3, .int (nI i - 1))] → W p l e { frames := 0, cells := 0, slots := 0, locals := 0 } s m [.ref (ad β), .long ld].toArray below meth c H locs 0 0 (MQ below (dt D L0 ad (some (.long (byF (oB o 0) (oA o 1) ld n * (oI o 4).toInt64))) (f)) [.ref (ad β), .long ld].toArray s 0 0 (fun q => L0 ≤ q)) (F0 m 7 ls []) := by
    intro u
    induction u with
    | zero => intros; exact absurd ‹(_ : Nat) < 0› (Nat.not_lt_zero _)
    | succ u ih7 =>
      intro i H locs ls hi he hu hH hS hl
      refine lv_iload_n F.1.1 F.1.2.1 d_Kin_yearlyMillionths_7 rfl (lv_at hl 2 rfl) ?_
      refine lv_if_lt (tgt := 42) F.1.1 F.1.2.1 d_Kin_yearlyMillionths_8 (by decide) (fun c8 => ?_) (fun c8 => ?_)
      · rw [nI_m1_neg (by omega)] at c8
        subst c8
        refine lv_lconst (v := 0) F.1.1 F.1.2.1 d_Kin_yearlyMillionths_42 (by decide) ?_
        exact hw_lret F hr hlocks hH hS d_Kin_yearlyMillionths_43 (by rw [← he]; exact (Int64.zero_mul).symm) hA
      · rw [nI_m1_neg (by omega)] at c8
        obtain ⟨k, rfl⟩ : ∃ k, i = k + 1 := ⟨i - 1, by omega⟩
        rw [nI_pred] at hl
        refine lv_aload_n F.1.1 F.1.2.1 d_Kin_yearlyMillionths_11 rfl (lv_at hl 0 rfl) ?_
        refine gR ck_Kin F hH q_fl_Kin_9 (k := 0) (by decide) rfl (by decide) d_Kin_yearlyMillionths_12 ?_
        refine lv_iload_n F.1.1 F.1.2.1 d_Kin_yearlyMillionths_15 rfl (lv_at hl 2 rfl) ?_
        refine lB F hH rfl (vp_in_nI (by omega) (by omega)) d_Kin_yearlyMillionths_16 ?_
        refine lv_lload_n F.1.1 F.1.2.1 d_Kin_yearlyMillionths_17 rfl (lv_at hl 1 rfl) ?_
        refine W.lcmp F.1.1 F.1.2.1 d_Kin_yearlyMillionths_18 ?_
        refine lv_if_gt (tgt := 36) F.1.1 F.1.2.1 d_Kin_yearlyMillionths_19 (by decide) (fun c19 => ?_) (fun c19 => ?_)
        · rw [lg_cmp_gt, nI_clamp (by omega)] at c19
          refine lv_iinc F.1.1 F.1.2.1 d_Kin_yearlyMillionths_36 hl (k := 2) rfl rfl (by decide) rfl (fun ls hl => ?_)
          refine lv_goto (tgt := 7) F.1.1 F.1.2.1 d_Kin_yearlyMillionths_39 (by decide) ?_
          refine ih7 k H locs ls (by omega) ?_ (by omega) hH hS (lv_sub hl [1, 2, 0] ?_)
          · rw [← he]; show _ = (if _ then _ else _); rw [if_neg (Int64.not_le.mpr c19)]
          · show [_, _, _] = [_, _, _]
            rw [nI_pn]
            first | done | rfl
        · rw [lg_cmp_gt, nI_clamp (by omega)] at c19
          refine lv_aload_n F.1.1 F.1.2.1 d_Kin_yearlyMillionths_22 rfl (lv_at hl 0 rfl) ?_
          refine gR ck_Kin F hH q_fl_Kin_13 (k := 1) (by decide) rfl (by decide) d_Kin_yearlyMillionths_23 ?_
          refine lv_iload_n F.1.1 F.1.2.1 d_Kin_yearlyMillionths_26 rfl (lv_at hl 2 rfl) ?_
          refine lA F hH rfl (vp_in_nI (by omega) (by omega)) d_Kin_yearlyMillionths_27 ?_
          refine lv_i2l F.1.1 F.1.2.1 d_Kin_yearlyMillionths_28 rfl ?_
          refine lv_aload_n F.1.1 F.1.2.1 d_Kin_yearlyMillionths_29 rfl (lv_at hl 0 rfl) ?_
          refine gI ck_Kin F hH q_fl_Kin_21 (k := 4) (by decide) rfl d_Kin_yearlyMillionths_30 ?_
          refine lv_i2l F.1.1 F.1.2.1 d_Kin_yearlyMillionths_33 rfl ?_
          refine lv_lmul F.1.1 F.1.2.1 d_Kin_yearlyMillionths_34 ?_
          exact hw_lret F hr hlocks hH hS d_Kin_yearlyMillionths_35 (by rw [← he, nI_clamp (by omega)]; unfold byF; rw [if_pos (Int64.not_lt.mp c19)]) hA
  refine L7 (n + 1) n s.heap [] ls (Nat.le_refl n) rfl (Nat.lt_succ_self _) hH hS (lv_sub hl [1, 2, 0] ?_)
  show [_, _, _] = [_, _, _]
  rw [hn]
  first | done | rfl
set_option maxHeartbeats 1000000 in
theorem c_Kin_takesRow (l : Launch) (D : va_G) (L0 : Nat) (ad : Nat → Nat) (β : Nat) (o : Ob) (f : Nat → Option va_E) (hA : hasO D ad β 1 shKin o f) (ld : Int64) (sh : Int32) (n : Nat) (hn : oI o 2 = nI n) (hn4 : n ≤ 4) : Met l y_Kin_takesRow (wd y_Kin_takesRow b_Kin_takesRow 4 (some .boolean)) { frames := 1, cells := 0, slots := 0, locals := 25 } (va_Pc [.ref (ad β), .long ld, .int sh] (cp D L0 ad (f))) (dt D L0 ad (some (.int (@ite Int32 (tkF o n ld sh) (tkFd o n ld sh) 1 0))) (f)) 0 0 (fun q => L0 ≤ q) := by
  refine hw_met (by decide) (Nat.le_of_ble_eq_true rfl) ?_
  intro p e s m below meth c ls F hr hlocks hnm hL hH hS hl
  replace hH := hH.to hA.symm
  refine lv_aload_n F.1.1 F.1.2.1 d_Kin_takesRow_0 rfl (lv_at hl 0 rfl) ?_
  refine gI ck_Kin F hH q_fl_Kin_24 (k := 2) (by decide) rfl d_Kin_takesRow_1 ?_
  refine lv_iconst (v := 4) F.1.1 F.1.2.1 d_Kin_takesRow_4 (by decide) ?_
  refine lv_icmp_lt (tgt := 10) F.1.1 F.1.2.1 d_Kin_takesRow_5 (by decide) (fun c5 => ?_) (fun c5 => ?_)
  · rw [hn] at c5
    have hn4 : n < 4 := (nI_ltI (by omega) (by omega)).mp (show nI n < nI 4 from c5)
    refine lv_lload_n F.1.1 F.1.2.1 d_Kin_takesRow_10 rfl (lv_at hl 1 rfl) ?_
    refine lv_lconst (v := 0) F.1.1 F.1.2.1 d_Kin_takesRow_11 (by decide) ?_
    refine lv_ldc2 F.1.1 F.1.2.1 F.1.2.2.2.1 (F.1.2.2.2.2 _ q_cl_Kin_27) d_Kin_takesRow_12 ?_
    refine hw_call1 (hw_runSN F hL hS hH hl (c_Cel_isWithin l D L0 ad _ _ _ _) q_mn_Kin_29 q_st_Cel_isWithin q_in_Cel q_co_Cel_isWithin rfl (k := 3) ⟨rfl, rfl, by decide +kernel, ⟨Nat.le_of_ble_eq_true rfl, Nat.le_of_ble_eq_true rfl⟩, Nat.le_of_ble_eq_true rfl⟩ rfl d_Kin_takesRow_15 ⟨Nat.le_of_ble_eq_true rfl, Nat.le_of_ble_eq_true rfl⟩) hS (fun H locs hH hS => ?_)
    refine lv_if_eq (tgt := 33) F.1.1 F.1.2.1 d_Kin_takesRow_18 (by decide) (fun c18 => ?_) (fun c18 => ?_)
    · rw [wi_0] at c18
      refine lv_iconst (v := 0) F.1.1 F.1.2.1 d_Kin_takesRow_33 (by decide) ?_
      exact hw_zret F hr hlocks hH hS d_Kin_takesRow_34 (by first | decide | (split <;> decide) | (unfold cif; split <;> decide)) (by rw [if_neg (fun q => c18 q.2.1)]) hA
    · rw [wi_1] at c18
      refine lv_iload_n F.1.1 F.1.2.1 d_Kin_takesRow_21 rfl (lv_at hl 2 rfl) ?_
      refine lv_i2l F.1.1 F.1.2.1 d_Kin_takesRow_22 rfl ?_
      refine lv_lconst (v := 0) F.1.1 F.1.2.1 d_Kin_takesRow_23 (by decide) ?_
      refine lv_ldc2 F.1.1 F.1.2.1 F.1.2.2.2.1 (F.1.2.2.2.2 _ q_cl_Kin_35) d_Kin_takesRow_24 ?_
      refine hw_call1 (hw_runSN F hL hS hH hl (c_Cel_isWithin l D L0 ad _ _ _ _) q_mn_Kin_29 q_st_Cel_isWithin q_in_Cel q_co_Cel_isWithin rfl (k := 3) ⟨rfl, rfl, by decide +kernel, ⟨Nat.le_of_ble_eq_true rfl, Nat.le_of_ble_eq_true rfl⟩, Nat.le_of_ble_eq_true rfl⟩ rfl d_Kin_takesRow_27 ⟨Nat.le_of_ble_eq_true rfl, Nat.le_of_ble_eq_true rfl⟩) hS (fun H locs hH hS => ?_)
      refine lv_if_ne (tgt := 35) F.1.1 F.1.2.1 d_Kin_takesRow_30 (by decide) (fun c30 => ?_) (fun c30 => ?_)
      · rw [wi_1] at c30
        refine lv_aload_n F.1.1 F.1.2.1 d_Kin_takesRow_35 rfl (lv_at hl 0 rfl) ?_
        refine gI ck_Kin F hH q_fl_Kin_24 (k := 2) (by decide) rfl d_Kin_takesRow_36 ?_
        refine lv_if_eq (tgt := 58) F.1.1 F.1.2.1 d_Kin_takesRow_39 (by decide) (fun c39 => ?_) (fun c39 => ?_)
        · rw [hn] at c39
          have hn0 : n = 0 := (nI_eq (by omega) (by omega)).mp (show nI n = nI 0 from c39)
          refine lv_iconst (v := 1) F.1.1 F.1.2.1 d_Kin_takesRow_58 (by decide) ?_
          refine lv_goto (tgt := 63) F.1.1 F.1.2.1 d_Kin_takesRow_59 (by decide) ?_
          exact hw_zret F hr hlocks hH hS d_Kin_takesRow_63 (by first | decide | (split <;> decide) | (unfold cif; split <;> decide)) (by rw [if_pos ⟨hn4, c18, c30, Or.inl hn0⟩]) hA
        · rw [hn] at c39
          obtain ⟨k, rfl⟩ : ∃ k, n = k + 1 := ⟨n - 1, by have : n ≠ 0 := fun q => c39 (by rw [q]; rfl); omega⟩
          have hix : vp_in (oI o 2 - 1) 4 := by rw [hn, nI_pred]; exact vp_in_nI (by omega) (by omega)
          refine lv_lload_n F.1.1 F.1.2.1 d_Kin_takesRow_42 rfl (lv_at hl 1 rfl) ?_
          refine lv_aload_n F.1.1 F.1.2.1 d_Kin_takesRow_43 rfl (lv_at hl 0 rfl) ?_
          refine gR ck_Kin F hH q_fl_Kin_9 (k := 0) (by decide) rfl (by decide) d_Kin_takesRow_44 ?_
          refine lv_aload_n F.1.1 F.1.2.1 d_Kin_takesRow_47 rfl (lv_at hl 0 rfl) ?_
          refine gI ck_Kin F hH q_fl_Kin_24 (k := 2) (by decide) rfl d_Kin_takesRow_48 ?_
          refine lv_iconst (v := 1) F.1.1 F.1.2.1 d_Kin_takesRow_51 (by decide) ?_
          refine lv_isub F.1.1 F.1.2.1 d_Kin_takesRow_52 ?_
          refine lB F hH rfl hix d_Kin_takesRow_53 ?_
          refine W.lcmp F.1.1 F.1.2.1 d_Kin_takesRow_54 ?_
          refine lv_if_le (tgt := 62) F.1.1 F.1.2.1 d_Kin_takesRow_55 (by decide) (fun c55 => ?_) (fun c55 => ?_)
          · rw [lg_cmp_le, hn, nI_pred, nI_clamp (by omega)] at c55
            refine lv_iconst (v := 0) F.1.1 F.1.2.1 d_Kin_takesRow_62 (by decide) ?_
            exact hw_zret F hr hlocks hH hS d_Kin_takesRow_63 (by first | decide | (split <;> decide) | (unfold cif; split <;> decide)) (by rw [if_neg (fun q => q.2.2.2.elim (fun z => by omega) (fun z => absurd z (Int64.not_lt.mpr c55)))]) hA
          · rw [lg_cmp_le, hn, nI_pred, nI_clamp (by omega)] at c55
            refine lv_iconst (v := 1) F.1.1 F.1.2.1 d_Kin_takesRow_58 (by decide) ?_
            refine lv_goto (tgt := 63) F.1.1 F.1.2.1 d_Kin_takesRow_59 (by decide) ?_
            exact hw_zret F hr hlocks hH hS d_Kin_takesRow_63 (by first | decide | (split <;> decide) | (unfold cif; split <;> decide)) (by rw [if_pos ⟨hn4, c18, c30, Or.inr (Int64.not_le.mp c55)⟩]) hA
      · rw [wi_0] at c30
        refine lv_iconst (v := 0) F.1.1 F.1.2.1 d_Kin_takesRow_33 (by decide) ?_
        exact hw_zret F hr hlocks hH hS d_Kin_takesRow_34 (by first | decide | (split <;> decide) | (unfold cif; split <;> decide)) (by rw [if_neg (fun q => c30 q.2.2.1)]) hA
  · rw [hn] at c5
    have hn4 : ¬ n < 4 := fun q => c5 (show nI n < nI 4 from nI_lt q (by omega))
    refine lv_iconst (v := 0) F.1.1 F.1.2.1 d_Kin_takesRow_8 (by decide) ?_
    exact hw_zret F hr hlocks hH hS d_Kin_takesRow_9 (by first | decide | (split <;> decide) | (unfold cif; split <;> decide)) (by rw [if_neg (fun q => hn4 q.1)]) hA
