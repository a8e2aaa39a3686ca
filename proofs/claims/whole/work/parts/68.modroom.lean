/-! CellSettlingModel: room; printed by wip/gen/modf.py -/
set_option maxHeartbeats 1000000 in
theorem c_Mod_apart (l : Launch) (D : va_G) (L0 : Nat) (ad : Nat → Nat) (β : Nat) (o : Ob) (f : Nat → Option va_E) (hA : hasO D ad β 6 shMod o f) (a b : Nat) (ha : a < 4) (hb : b < 4) (j : Nat) (hj : j < 25) : Met l y_Mod_apart (wd y_Mod_apart b_Mod_apart 4 (some .long)) { frames := 0, cells := 0, slots := 0, locals := 0 } (va_Pc [.ref (ad β), .int (nI a), .int (nI b), .int (nI j)] (cp D L0 ad (f))) (dt D L0 ad (some (.long (apM o a b j))) (f)) 0 0 (fun q => L0 ≤ q) := by
  refine hw_met (by decide) (Nat.le_of_ble_eq_true rfl) ?_
  intro p e s m below meth c ls F hr hlocks hnm hL hH hS hl
  replace hH := hH.to hA.symm
  refine lv_aload_n F.1.1 F.1.2.1 d_Mod_apart_0 rfl (lv_at hl 0 rfl) ?_
  refine gR ck_Mod F hH q_fl_Mod_59 (k := 23) (by decide) rfl (by decide) d_Mod_apart_1 ?_
  refine lv_bipush (v := 25) F.1.1 F.1.2.1 d_Mod_apart_4 (by decide) ?_
  refine lv_iload_n F.1.1 F.1.2.1 d_Mod_apart_6 rfl (lv_at hl 2 rfl) ?_
  refine lv_imul F.1.1 F.1.2.1 d_Mod_apart_7 ?_
  refine lv_iload_n F.1.1 F.1.2.1 d_Mod_apart_8 rfl (lv_at hl 3 rfl) ?_
  refine lv_iadd F.1.1 F.1.2.1 d_Mod_apart_9 ?_
  rw [show (25 : Int32) * nI b + nI j = nI (25 * b + j) from by rw [show (25 : Int32) = nI 25 from rfl, pk_mul, nI_add]]
  refine lA F hH rfl (vp_in_nI (by omega) (by omega)) d_Mod_apart_10 ?_
  refine lv_aload_n F.1.1 F.1.2.1 d_Mod_apart_11 rfl (lv_at hl 0 rfl) ?_
  refine gR ck_Mod F hH q_fl_Mod_59 (k := 23) (by decide) rfl (by decide) d_Mod_apart_12 ?_
  refine lv_bipush (v := 25) F.1.1 F.1.2.1 d_Mod_apart_15 (by decide) ?_
  refine lv_iload_n F.1.1 F.1.2.1 d_Mod_apart_17 rfl (lv_at hl 1 rfl) ?_
  refine lv_imul F.1.1 F.1.2.1 d_Mod_apart_18 ?_
  refine lv_iload_n F.1.1 F.1.2.1 d_Mod_apart_19 rfl (lv_at hl 3 rfl) ?_
  refine lv_iadd F.1.1 F.1.2.1 d_Mod_apart_20 ?_
  rw [show (25 : Int32) * nI a + nI j = nI (25 * a + j) from by rw [show (25 : Int32) = nI 25 from rfl, pk_mul, nI_add]]
  refine lA F hH rfl (vp_in_nI (by omega) (by omega)) d_Mod_apart_21 ?_
  refine lv_isub F.1.1 F.1.2.1 d_Mod_apart_22 ?_
  refine lv_i2l F.1.1 F.1.2.1 d_Mod_apart_23 rfl ?_
  exact hw_lret F hr hlocks hH hS d_Mod_apart_24 (by rw [nI_clamp (show 25 * b + j < 2 ^ 31 by omega), nI_clamp (show 25 * a + j < 2 ^ 31 by omega)]; rfl) hA
set_option maxHeartbeats 1000000 in
theorem c_Mod_isTold (l : Launch) (D : va_G) (L0 : Nat) (ad : Nat → Nat) (β : Nat) (o : Ob) (f : Nat → Option va_E) (hA : hasO D ad β 6 shMod o f) (a b : Nat) (ha : a < 4) (hb : b < 4) (j : Nat) (hj : j < 25) : Met l y_Mod_isTold (wd y_Mod_isTold b_Mod_isTold 4 (some .boolean)) { frames := 0, cells := 0, slots := 0, locals := 0 } (va_Pc [.ref (ad β), .int (nI a), .int (nI b), .int (nI j)] (cp D L0 ad (f))) (dt D L0 ad (some (.int (tdM o a b j))) (f)) 0 0 (fun q => L0 ≤ q) := by
  refine hw_met (by decide) (Nat.le_of_ble_eq_true rfl) ?_
  intro p e s m below meth c ls F hr hlocks hnm hL hH hS hl
  replace hH := hH.to hA.symm
  refine lv_aload_n F.1.1 F.1.2.1 d_Mod_isTold_0 rfl (lv_at hl 0 rfl) ?_
  refine gR ck_Mod F hH q_fl_Mod_62 (k := 24) (by decide) rfl (by decide) d_Mod_isTold_1 ?_
  refine lv_bipush (v := 25) F.1.1 F.1.2.1 d_Mod_isTold_4 (by decide) ?_
  refine lv_iload_n F.1.1 F.1.2.1 d_Mod_isTold_6 rfl (lv_at hl 1 rfl) ?_
  refine lv_imul F.1.1 F.1.2.1 d_Mod_isTold_7 ?_
  refine lv_iload_n F.1.1 F.1.2.1 d_Mod_isTold_8 rfl (lv_at hl 3 rfl) ?_
  refine lv_iadd F.1.1 F.1.2.1 d_Mod_isTold_9 ?_
  rw [show (25 : Int32) * nI a + nI j = nI (25 * a + j) from by rw [show (25 : Int32) = nI 25 from rfl, pk_mul, nI_add]]
  refine lZ F hH rfl (vp_in_nI (by omega) (by omega)) d_Mod_isTold_10 ?_
  refine lv_if_eq (tgt := 32) F.1.1 F.1.2.1 d_Mod_isTold_11 (by decide) (fun c11 => ?_) (fun c11 => ?_)
  · rw [nI_clamp (by omega)] at c11
    refine lv_iconst (v := 0) F.1.1 F.1.2.1 d_Mod_isTold_32 (by decide) ?_
    exact hw_zret F hr hlocks hH hS d_Mod_isTold_33 (by first | decide | (split <;> decide) | (unfold cif; split <;> decide)) (by unfold tdM; rw [if_pos (Or.inl c11)]) hA
  · rw [nI_clamp (by omega)] at c11
    refine lv_aload_n F.1.1 F.1.2.1 d_Mod_isTold_14 rfl (lv_at hl 0 rfl) ?_
    refine gR ck_Mod F hH q_fl_Mod_62 (k := 24) (by decide) rfl (by decide) d_Mod_isTold_15 ?_
    refine lv_bipush (v := 25) F.1.1 F.1.2.1 d_Mod_isTold_18 (by decide) ?_
    refine lv_iload_n F.1.1 F.1.2.1 d_Mod_isTold_20 rfl (lv_at hl 2 rfl) ?_
    refine lv_imul F.1.1 F.1.2.1 d_Mod_isTold_21 ?_
    refine lv_iload_n F.1.1 F.1.2.1 d_Mod_isTold_22 rfl (lv_at hl 3 rfl) ?_
    refine lv_iadd F.1.1 F.1.2.1 d_Mod_isTold_23 ?_
    rw [show (25 : Int32) * nI b + nI j = nI (25 * b + j) from by rw [show (25 : Int32) = nI 25 from rfl, pk_mul, nI_add]]
    refine lZ F hH rfl (vp_in_nI (by omega) (by omega)) d_Mod_isTold_24 ?_
    refine lv_if_eq (tgt := 32) F.1.1 F.1.2.1 d_Mod_isTold_25 (by decide) (fun c25 => ?_) (fun c25 => ?_)
    · rw [nI_clamp (by omega)] at c25
      refine lv_iconst (v := 0) F.1.1 F.1.2.1 d_Mod_isTold_32 (by decide) ?_
      exact hw_zret F hr hlocks hH hS d_Mod_isTold_33 (by first | decide | (split <;> decide) | (unfold cif; split <;> decide)) (by unfold tdM; rw [if_pos (Or.inr c25)]) hA
    · rw [nI_clamp (by omega)] at c25
      refine lv_iconst (v := 1) F.1.1 F.1.2.1 d_Mod_isTold_28 (by decide) ?_
      refine lv_goto (tgt := 33) F.1.1 F.1.2.1 d_Mod_isTold_29 (by decide) ?_
      exact hw_zret F hr hlocks hH hS d_Mod_isTold_33 (by first | decide | (split <;> decide) | (unfold cif; split <;> decide)) (by unfold tdM; rw [if_neg (fun q => q.elim c11 c25)]) hA
set_option maxHeartbeats 1000000 in
theorem c_Mod_common (l : Launch) (D : va_G) (L0 : Nat) (ad : Nat → Nat) (n : Int64) (hn : -9223372036854775808 < n.toInt) (f : Nat → Option va_E) : Met l y_Mod_common (wd y_Mod_common b_Mod_common 10 (some .long)) { frames := 0, cells := 0, slots := 0, locals := 0 } (va_Pc [.long n, .long 6] (cp D L0 ad (f))) (dt D L0 ad (some (.long (lN (Nat.gcd n.toInt.natAbs 6)))) (f)) 0 0 (fun q => L0 ≤ q) := by
  refine hw_met (by decide) (Nat.le_of_ble_eq_true rfl) ?_
  intro p e s m below meth c ls F hr hlocks hnm hL hH hS hl
  refine lv_lload_n F.1.1 F.1.2.1 d_Mod_common_0 rfl (lv_at hl 0 rfl) ?_
  refine lv_lconst (v := 0) F.1.1 F.1.2.1 d_Mod_common_1 (by decide) ?_
  refine W.lcmp F.1.1 F.1.2.1 d_Mod_common_2 ?_
  refine lv_if_ge (tgt := 11) F.1.1 F.1.2.1 d_Mod_common_3 (by decide) (fun c3 => ?_) (fun c3 => ?_)
  · rw [lg_cmp_ge] at c3
    refine lv_lload_n F.1.1 F.1.2.1 d_Mod_common_11 rfl (lv_at hl 0 rfl) ?_
    refine lv_lstore F.1.1 F.1.2.1 d_Mod_common_12 hl (by decide) rfl (fun ls hl => ?_)
    refine lv_lload_n F.1.1 F.1.2.1 d_Mod_common_14 rfl (lv_at hl 2 rfl) ?_
    refine lv_lstore F.1.1 F.1.2.1 d_Mod_common_15 hl (by decide) rfl (fun ls hl => ?_)
    have L17 : ∀ (u : Nat) (a b : Nat) (H : Heap) (locs : List Loc) (ls : Array Slot), (a < 2 ^ 63) → (b < 2 ^ 63) → (Nat.gcd a b = Nat.gcd n.toInt.natAbs 6) → a < u → hw D L0 ad (f) H → va_S (fun q => L0 ≤ q) s.heap H locs → lv_has ls 10 [(0, .long n), (2, .long 6), (4, .long (lN a)), (6, .long (lN b))] → W p l e { frames := 0, cells := 0, slots := 0, locals := 0 } s m [.long n, .long 6].toArray below meth c H locs 0 0 (MQ below (dt D L0 ad (some (.long (lN (Nat.gcd n.toInt.natAbs 6)))) (f)) [.long n, .long 6].toArray s 0 0 (fun q => L0 ≤ q)) (F0 m 17 ls []) := by
      intro u
      induction u with
      | zero => intros; exact absurd ‹(_ : Nat) < 0› (Nat.not_lt_zero _)
      | succ u ih17 =>
        intro a b H locs ls ha hb hg hu hH hS hl
        refine lv_lload F.1.1 F.1.2.1 d_Mod_common_17 (lv_at hl 2 rfl) ?_
        refine lv_lconst (v := 0) F.1.1 F.1.2.1 d_Mod_common_19 (by decide) ?_
        refine W.lcmp F.1.1 F.1.2.1 d_Mod_common_20 ?_
        refine lv_if_eq (tgt := 42) F.1.1 F.1.2.1 d_Mod_common_21 (by decide) (fun c21 => ?_) (fun c21 => ?_)
        · rw [lg_cmp_eq] at c21
          have h0 : a = 0 := (pk_lEQ (by omega) (by omega)).mp (show lN a = lN 0 from c21)
          subst h0
          refine lv_lload F.1.1 F.1.2.1 d_Mod_common_42 (lv_at hl 3 rfl) ?_
          exact hw_lret F hr hlocks hH hS d_Mod_common_44 (by rw [← hg, Nat.gcd_zero_left]) rfl
        · rw [lg_cmp_eq] at c21
          have h0 : a ≠ 0 := fun q => c21 (by rw [q]; rfl)
          refine lv_lload F.1.1 F.1.2.1 d_Mod_common_24 (lv_at hl 3 rfl) ?_
          refine lv_lload F.1.1 F.1.2.1 d_Mod_common_26 (lv_at hl 2 rfl) ?_
          refine lv_lrem F.1.1 F.1.2.1 d_Mod_common_28 c21 ?_
          refine lv_lstore F.1.1 F.1.2.1 d_Mod_common_29 hl (by decide) rfl (fun ls hl => ?_)
          refine lv_lload F.1.1 F.1.2.1 d_Mod_common_31 (lv_at hl 3 rfl) ?_
          refine lv_lstore F.1.1 F.1.2.1 d_Mod_common_33 hl (by decide) rfl (fun ls hl => ?_)
          refine lv_lload F.1.1 F.1.2.1 d_Mod_common_35 (lv_at hl 1 rfl) ?_
          refine lv_lstore F.1.1 F.1.2.1 d_Mod_common_37 hl (by decide) rfl (fun ls hl => ?_)
          refine lv_goto (tgt := 17) F.1.1 F.1.2.1 d_Mod_common_39 (by decide) ?_
          refine ih17 (b % a) a H locs ls (Nat.lt_of_lt_of_le (Nat.mod_lt _ (by omega)) (by omega)) ha ?_ (Nat.lt_of_lt_of_le (Nat.mod_lt b (by omega)) (by omega)) hH hS (lv_sub hl [3, 4, 0, 1] ?_)
          · rw [← hg, Nat.gcd_rec a b]
          · show [_, _, _, _] = [_, _, _, _]
            rw [pk_lRem hb (by omega) ha]
            first | done | rfl
    refine L17 (n.toInt.natAbs + 1) n.toInt.natAbs 6 s.heap [] ls (absN_lt hn) (by omega) rfl (Nat.lt_succ_self _) hH hS (lv_sub hl [2, 3, 1, 0] ?_)
    show [_, _, _, _] = [_, _, _, _]
    rw [← absN_p c3]
    first | done | rfl
  · rw [lg_cmp_ge] at c3
    refine lv_lload_n F.1.1 F.1.2.1 d_Mod_common_6 rfl (lv_at hl 0 rfl) ?_
    refine lv_lneg F.1.1 F.1.2.1 d_Mod_common_7 ?_
    refine lv_goto (tgt := 12) F.1.1 F.1.2.1 d_Mod_common_8 (by decide) ?_
    refine lv_lstore F.1.1 F.1.2.1 d_Mod_common_12 hl (by decide) rfl (fun ls hl => ?_)
    refine lv_lload_n F.1.1 F.1.2.1 d_Mod_common_14 rfl (lv_at hl 2 rfl) ?_
    refine lv_lstore F.1.1 F.1.2.1 d_Mod_common_15 hl (by decide) rfl (fun ls hl => ?_)
    have L17 : ∀ (u : Nat) (a b : Nat) (H : Heap) (locs : List Loc) (ls : Array Slot), (a < 2 ^ 63) → (b < 2 ^ 63) → (Nat.gcd a b = Nat.gcd n.toInt.natAbs 6) → a < u → hw D L0 ad (f) H → va_S (fun q => L0 ≤ q) s.heap H locs → lv_has ls 10 [(0, .long n), (2, .long 6), (4, .long (lN a)), (6, .long (lN b))] → W p l e { frames := 0, cells := 0, slots := 0, locals := 0 } s m [.long n, .long 6].toArray below meth c H locs 0 0 (MQ below (dt D L0 ad (some (.long (lN (Nat.gcd n.toInt.natAbs 6)))) (f)) [.long n, .long 6].toArray s 0 0 (fun q => L0 ≤ q)) (F0 m 17 ls []) := by
      intro u
      induction u with
      | zero => intros; exact absurd ‹(_ : Nat) < 0› (Nat.not_lt_zero _)
      | succ u ih17 =>
        intro a b H locs ls ha hb hg hu hH hS hl
        refine lv_lload F.1.1 F.1.2.1 d_Mod_common_17 (lv_at hl 2 rfl) ?_
        refine lv_lconst (v := 0) F.1.1 F.1.2.1 d_Mod_common_19 (by decide) ?_
        refine W.lcmp F.1.1 F.1.2.1 d_Mod_common_20 ?_
        refine lv_if_eq (tgt := 42) F.1.1 F.1.2.1 d_Mod_common_21 (by decide) (fun c21 => ?_) (fun c21 => ?_)
        · rw [lg_cmp_eq] at c21
          have h0 : a = 0 := (pk_lEQ (by omega) (by omega)).mp (show lN a = lN 0 from c21)
          subst h0
          refine lv_lload F.1.1 F.1.2.1 d_Mod_common_42 (lv_at hl 3 rfl) ?_
          exact hw_lret F hr hlocks hH hS d_Mod_common_44 (by rw [← hg, Nat.gcd_zero_left]) rfl
        · rw [lg_cmp_eq] at c21
          have h0 : a ≠ 0 := fun q => c21 (by rw [q]; rfl)
          refine lv_lload F.1.1 F.1.2.1 d_Mod_common_24 (lv_at hl 3 rfl) ?_
          refine lv_lload F.1.1 F.1.2.1 d_Mod_common_26 (lv_at hl 2 rfl) ?_
          refine lv_lrem F.1.1 F.1.2.1 d_Mod_common_28 c21 ?_
          refine lv_lstore F.1.1 F.1.2.1 d_Mod_common_29 hl (by decide) rfl (fun ls hl => ?_)
          refine lv_lload F.1.1 F.1.2.1 d_Mod_common_31 (lv_at hl 3 rfl) ?_
          refine lv_lstore F.1.1 F.1.2.1 d_Mod_common_33 hl (by decide) rfl (fun ls hl => ?_)
          refine lv_lload F.1.1 F.1.2.1 d_Mod_common_35 (lv_at hl 1 rfl) ?_
          refine lv_lstore F.1.1 F.1.2.1 d_Mod_common_37 hl (by decide) rfl (fun ls hl => ?_)
          refine lv_goto (tgt := 17) F.1.1 F.1.2.1 d_Mod_common_39 (by decide) ?_
          refine ih17 (b % a) a H locs ls (Nat.lt_of_lt_of_le (Nat.mod_lt _ (by omega)) (by omega)) ha ?_ (Nat.lt_of_lt_of_le (Nat.mod_lt b (by omega)) (by omega)) hH hS (lv_sub hl [3, 4, 0, 1] ?_)
          · rw [← hg, Nat.gcd_rec a b]
          · show [_, _, _, _] = [_, _, _, _]
            rw [pk_lRem hb (by omega) ha]
            first | done | rfl
    refine L17 (n.toInt.natAbs + 1) n.toInt.natAbs 6 s.heap [] ls (absN_lt hn) (by omega) rfl (Nat.lt_succ_self _) hH hS (lv_sub hl [2, 3, 1, 0] ?_)
    show [_, _, _, _] = [_, _, _, _]
    rw [← absN_n hn c3]
    first | done | rfl
set_option maxHeartbeats 1000000 in
theorem c_Mod_room (l : Launch) (D : va_G) (L0 : Nat) (ad : Nat → Nat) (β : Nat) (o : Ob) (f : Nat → Option va_E) (hA : hasO D ad β 6 shMod o f) (σ : Xs) (hR : xR σ) (hAR : AR σ) (hQ : Rl σ o) (hSv : xSv σ) (su sv part : Int32) : Met l y_Mod_room (wd y_Mod_room b_Mod_room 10 (some .long)) { frames := 1, cells := 0, slots := 0, locals := 29 } (va_Pc [.ref (ad β), .int su, .int sv, .int part] (cp D L0 ad (f))) (dt D L0 ad (some (.long (cif (rmP σ su sv part) (rmF σ su.toNatClampNeg sv.toNatClampNeg part) (-9223372036854775808)))) (f)) 0 0 (fun q => L0 ≤ q) := by
  refine hw_met (by decide) (Nat.le_of_ble_eq_true rfl) ?_
  intro p e s m below meth c ls F hr hlocks hnm hL hH hS hl
  replace hH := hH.to hA.symm
  have hX := xOK_of hR.1 hR.2.1
  have hC := hR.1.1
  have hTc := hR.1.2.2.2.2.2
  have hL_ := hQ.2.1
  have hn4 := hQ.2.2.1
  have hsc := hQ.2.2.2.2.2.1.1
  have hs4 := hX.2.1
  refine lv_aload_n F.1.1 F.1.2.1 d_Mod_room_0 rfl (lv_at hl 0 rfl) ?_
  refine lv_iload_n F.1.1 F.1.2.1 d_Mod_room_1 rfl (lv_at hl 1 rfl) ?_
  refine hw_call1 (hw_runV F hL hS hH hl (c_Mod_isSurface l D L0 ad β o _ obP_id σ hR hAR hQ _) ck_Mod obP_o rfl q_ml_Mod_156 q_im_Mod_isSurface q_se_Mod_isSurface q_in_Mod q_co_Mod_isSurface rfl (k := 1) ⟨rfl, rfl, by decide +kernel, ⟨Nat.le_of_ble_eq_true rfl, Nat.le_of_ble_eq_true rfl⟩, Nat.le_of_ble_eq_true rfl⟩ rfl d_Mod_room_2 ⟨Nat.le_of_ble_eq_true rfl, Nat.le_of_ble_eq_true rfl⟩) hS (fun H locs hH hS => ?_)
  refine lv_if_eq (tgt := 26) F.1.1 F.1.2.1 d_Mod_room_5 (by decide) (fun c5 => ?_) (fun c5 => ?_)
  · refine lv_ldc2 F.1.1 F.1.2.1 F.1.2.2.2.1 (F.1.2.2.2.2 _ q_cl_Mod_165) d_Mod_room_26 ?_
    exact hw_lret F hr hlocks hH hS d_Mod_room_29 (cif_f (fun q => q.1 c5)).symm hA
  · obtain ⟨a, ha, rfl⟩ := ixN (by omega) c5
    refine lv_aload_n F.1.1 F.1.2.1 d_Mod_room_8 rfl (lv_at hl 0 rfl) ?_
    refine lv_iload_n F.1.1 F.1.2.1 d_Mod_room_9 rfl (lv_at hl 2 rfl) ?_
    refine hw_call1 (hw_runV F hL hS hH hl (c_Mod_isSurface l D L0 ad β o _ obP_id σ hR hAR hQ _) ck_Mod obP_o rfl q_ml_Mod_156 q_im_Mod_isSurface q_se_Mod_isSurface q_in_Mod q_co_Mod_isSurface rfl (k := 1) ⟨rfl, rfl, by decide +kernel, ⟨Nat.le_of_ble_eq_true rfl, Nat.le_of_ble_eq_true rfl⟩, Nat.le_of_ble_eq_true rfl⟩ rfl d_Mod_room_10 ⟨Nat.le_of_ble_eq_true rfl, Nat.le_of_ble_eq_true rfl⟩) hS (fun H locs hH hS => ?_)
    refine lv_if_eq (tgt := 26) F.1.1 F.1.2.1 d_Mod_room_13 (by decide) (fun c13 => ?_) (fun c13 => ?_)
    · refine lv_ldc2 F.1.1 F.1.2.1 F.1.2.2.2.1 (F.1.2.2.2.2 _ q_cl_Mod_165) d_Mod_room_26 ?_
      exact hw_lret F hr hlocks hH hS d_Mod_room_29 (cif_f (fun q => q.2.1 c13)).symm hA
    · obtain ⟨b, hb, rfl⟩ := ixN (by omega) c13
      refine lv_iload_n F.1.1 F.1.2.1 d_Mod_room_16 rfl (lv_at hl 3 rfl) ?_
      refine lv_i2l F.1.1 F.1.2.1 d_Mod_room_17 rfl ?_
      refine lv_lconst (v := 0) F.1.1 F.1.2.1 d_Mod_room_18 (by decide) ?_
      refine lv_lconst (v := 1) F.1.1 F.1.2.1 d_Mod_room_19 (by decide) ?_
      refine hw_call1 (hw_runS F hL hS hH hl (c_Mod_isIn l D L0 ad _ _ _ _) q_ml_Mod_84 q_st_Mod_isIn q_in_Mod q_co_Mod_isIn rfl (k := 3) ⟨rfl, rfl, by decide +kernel, ⟨Nat.le_of_ble_eq_true rfl, Nat.le_of_ble_eq_true rfl⟩, Nat.le_of_ble_eq_true rfl⟩ rfl d_Mod_room_20 ⟨Nat.le_of_ble_eq_true rfl, Nat.le_of_ble_eq_true rfl⟩) hS (fun H locs hH hS => ?_)
      refine lv_if_ne (tgt := 30) F.1.1 F.1.2.1 d_Mod_room_23 (by decide) (fun c23 => ?_) (fun c23 => ?_)
      · refine lv_lconst (v := 0) F.1.1 F.1.2.1 d_Mod_room_30 (by decide) ?_
        refine lv_lstore F.1.1 F.1.2.1 d_Mod_room_31 hl (by decide) rfl (fun ls hl => ?_)
        refine lv_iconst (v := 0) F.1.1 F.1.2.1 d_Mod_room_33 (by decide) ?_
        refine lv_istore F.1.1 F.1.2.1 d_Mod_room_34 hl (by decide) rfl (fun ls hl => ?_)
        have L36 : ∀ (u : Nat) (y : Nat) (H : Heap) (locs : List Loc) (ls : Array Slot), (y ≤ 4) → 4 - y < u → hw D L0 ad (obP D ad β 6 shMod o f) H → va_S (fun q => L0 ≤ q) s.heap H locs → lv_has ls 10 [(0, .ref (ad β)), (1, .int (nI a)), (2, .int (nI b)), (3, .int part), (4, .long (sixM o a b y)), (6, .int (nI y))] → W p l e { frames := 1, cells := 0, slots := 0, locals := 29 } s m [.ref (ad β), .int (nI a), .int (nI b), .int part].toArray below meth c H locs 0 0 (MQ below (dt D L0 ad (some (.long (cif (rmP σ (nI a) (nI b) part) (rmF σ (nI a).toNatClampNeg (nI b).toNatClampNeg part) (-9223372036854775808)))) (f)) [.ref (ad β), .int (nI a), .int (nI b), .int part].toArray s 0 0 (fun q => L0 ≤ q)) (F0 m 36 ls []) := by
          intro u
          induction u with
          | zero => intros; exact absurd ‹(_ : Nat) < 0› (Nat.not_lt_zero _)
          | succ u ih36 =>
            intro y H locs ls hy hu hH hS hl
            refine lv_iload F.1.1 F.1.2.1 d_Mod_room_36 (lv_at hl 5 rfl) ?_
            refine lv_iconst (v := 4) F.1.1 F.1.2.1 d_Mod_room_38 (by decide) ?_
            refine lv_icmp_ge (tgt := 178) F.1.1 F.1.2.1 d_Mod_room_39 (by decide) (fun c39 => ?_) (fun c39 => ?_)
            · have hin : 4 ≤ y := (nI_leI (by omega) (by omega)).mp (show nI 4 ≤ nI y from c39)
              have hy4 : y = 4 := by omega
              subst hy4
              refine lv_lload F.1.1 F.1.2.1 d_Mod_room_178 (lv_at hl 4 rfl) ?_
              refine lv_aload_n F.1.1 F.1.2.1 d_Mod_room_180 rfl (lv_at hl 0 rfl) ?_
              refine gI ck_Mod F hH q_fl_Mod_79 (k := 1) (by decide) rfl d_Mod_room_181 ?_
              refine lv_i2l F.1.1 F.1.2.1 d_Mod_room_184 rfl ?_
              refine lv_lmul F.1.1 F.1.2.1 d_Mod_room_185 ?_
              refine lv_aload_n F.1.1 F.1.2.1 d_Mod_room_186 rfl (lv_at hl 0 rfl) ?_
              refine gI ck_Mod F hH q_fl_Mod_79 (k := 1) (by decide) rfl d_Mod_room_187 ?_
              refine lv_i2l F.1.1 F.1.2.1 d_Mod_room_190 rfl ?_
              refine lv_lmul F.1.1 F.1.2.1 d_Mod_room_191 ?_
              refine lv_lstore F.1.1 F.1.2.1 d_Mod_room_192 hl (by decide) rfl (fun ls hl => ?_)
              refine lv_lload F.1.1 F.1.2.1 d_Mod_room_194 (lv_at hl 0 rfl) ?_
              refine lv_ldc2 F.1.1 F.1.2.1 F.1.2.2.2.1 (F.1.2.2.2.2 _ q_cl_Mod_177) d_Mod_room_196 ?_
              refine hw_call1 (hw_runS F hL hS hH hl (c_Mod_common l D L0 ad (sixM o a b 4 * (oI o 1).toInt64 * (oI o 1).toInt64) (ov_gt hR hQ hSv ha hb) _) q_ml_Mod_179 q_st_Mod_common q_in_Mod q_co_Mod_common rfl (k := 2) ⟨rfl, rfl, by decide +kernel, ⟨Nat.le_of_ble_eq_true rfl, Nat.le_of_ble_eq_true rfl⟩, Nat.le_of_ble_eq_true rfl⟩ rfl d_Mod_room_199 ⟨Nat.le_of_ble_eq_true rfl, Nat.le_of_ble_eq_true rfl⟩) hS (fun H locs hH hS => ?_)
              refine lv_lstore F.1.1 F.1.2.1 d_Mod_room_202 hl (by decide) rfl (fun ls hl => ?_)
              refine lv_iload_n F.1.1 F.1.2.1 d_Mod_room_204 rfl (lv_at hl 5 rfl) ?_
              refine lv_if_ne (tgt := 216) F.1.1 F.1.2.1 d_Mod_room_205 (by decide) (fun c205 => ?_) (fun c205 => ?_)
              · refine lv_ldc2 F.1.1 F.1.2.1 F.1.2.2.2.1 (F.1.2.2.2.2 _ q_cl_Mod_177) d_Mod_room_216 ?_
                refine lv_lload F.1.1 F.1.2.1 d_Mod_room_219 (lv_at hl 0 rfl) ?_
                refine lv_ldiv F.1.1 F.1.2.1 d_Mod_room_221 (gc_nz) ?_
                exact hw_lret F hr hlocks hH hS d_Mod_room_222 (by rw [cif_t ⟨c5, c13, c23⟩, nI_clamp (show a < 2 ^ 31 by omega), nI_clamp (show b < 2 ^ 31 by omega)]; exact rm_n hR hQ hSv ha hb c205) hA
              · refine lv_lload F.1.1 F.1.2.1 d_Mod_room_208 (lv_at hl 1 rfl) ?_
                refine lv_lload F.1.1 F.1.2.1 d_Mod_room_210 (lv_at hl 0 rfl) ?_
                refine lv_ldiv F.1.1 F.1.2.1 d_Mod_room_212 (gc_nz) ?_
                refine lv_goto (tgt := 222) F.1.1 F.1.2.1 d_Mod_room_213 (by decide) ?_
                exact hw_lret F hr hlocks hH hS d_Mod_room_222 (by rw [cif_t ⟨c5, c13, c23⟩, nI_clamp (show a < 2 ^ 31 by omega), nI_clamp (show b < 2 ^ 31 by omega)]; exact rm_y hR hQ hSv ha hb c205) hA
            · have hin : y < 4 := by
                rcases Nat.lt_or_ge y 4 with q | q
                · exact q
                · exact absurd (show nI 4 ≤ nI y from nI_le q (by omega)) c39
              refine lv_iconst (v := 0) F.1.1 F.1.2.1 d_Mod_room_42 (by decide) ?_
              refine lv_istore F.1.1 F.1.2.1 d_Mod_room_43 hl (by decide) rfl (fun ls hl => ?_)
              have L45 : ∀ (u : Nat) (x : Nat) (H : Heap) (locs : List Loc) (ls : Array Slot), (x ≤ 4) → 4 - x < u → hw D L0 ad (obP D ad β 6 shMod o f) H → va_S (fun q => L0 ≤ q) s.heap H locs → lv_has ls 10 [(0, .ref (ad β)), (1, .int (nI a)), (2, .int (nI b)), (3, .int part), (4, .long (ac (fun x => tmM o a b (5 * y + x)) (sixM o a b y) x)), (6, .int (nI y)), (7, .int (nI x))] → W p l e { frames := 1, cells := 0, slots := 0, locals := 29 } s m [.ref (ad β), .int (nI a), .int (nI b), .int part].toArray below meth c H locs 0 0 (MQ below (dt D L0 ad (some (.long (cif (rmP σ (nI a) (nI b) part) (rmF σ (nI a).toNatClampNeg (nI b).toNatClampNeg part) (-9223372036854775808)))) (f)) [.ref (ad β), .int (nI a), .int (nI b), .int part].toArray s 0 0 (fun q => L0 ≤ q)) (F0 m 45 ls []) := by
                intro u
                induction u with
                | zero => intros; exact absurd ‹(_ : Nat) < 0› (Nat.not_lt_zero _)
                | succ u ih45 =>
                  intro x H locs ls hx hu hH hS hl
                  refine lv_iload F.1.1 F.1.2.1 d_Mod_room_45 (lv_at hl 6 rfl) ?_
                  refine lv_iconst (v := 4) F.1.1 F.1.2.1 d_Mod_room_47 (by decide) ?_
                  refine lv_icmp_ge (tgt := 172) F.1.1 F.1.2.1 d_Mod_room_48 (by decide) (fun c48 => ?_) (fun c48 => ?_)
                  · have hix : 4 ≤ x := (nI_leI (by omega) (by omega)).mp (show nI 4 ≤ nI x from c48)
                    refine lv_iinc F.1.1 F.1.2.1 d_Mod_room_172 hl (k := 5) rfl rfl (by decide) rfl (fun ls hl => ?_)
                    refine lv_goto (tgt := 36) F.1.1 F.1.2.1 d_Mod_room_175 (by decide) ?_
                    refine ih36 (y + 1) H locs ls (by omega) (by omega) hH hS (lv_sub hl [1, 2, 3, 4, 5, 0] ?_)
                    show [_, _, _, _, _, _] = [_, _, _, _, _, _]
                    rw [ii1, show x = 4 by omega]
                    first | done | rfl
                  · have hix : x < 4 := by
                      rcases Nat.lt_or_ge x 4 with q | q
                      · exact q
                      · exact absurd (show nI 4 ≤ nI x from nI_le q (by omega)) c48
                    refine lv_iconst (v := 5) F.1.1 F.1.2.1 d_Mod_room_51 (by decide) ?_
                    refine lv_iload F.1.1 F.1.2.1 d_Mod_room_52 (lv_at hl 5 rfl) ?_
                    refine lv_imul F.1.1 F.1.2.1 d_Mod_room_54 ?_
                    refine lv_iload F.1.1 F.1.2.1 d_Mod_room_55 (lv_at hl 6 rfl) ?_
                    refine lv_iadd F.1.1 F.1.2.1 d_Mod_room_57 ?_
                    rw [show (5 : Int32) * nI y + nI x = nI (5 * y + x) from by rw [show (5 : Int32) = nI 5 from rfl, pk_mul, nI_add]]
                    refine lv_istore F.1.1 F.1.2.1 d_Mod_room_58 hl (by decide) rfl (fun ls hl => ?_)
                    refine lv_aload_n F.1.1 F.1.2.1 d_Mod_room_60 rfl (lv_at hl 1 rfl) ?_
                    refine lv_iload_n F.1.1 F.1.2.1 d_Mod_room_61 rfl (lv_at hl 2 rfl) ?_
                    refine lv_iload_n F.1.1 F.1.2.1 d_Mod_room_62 rfl (lv_at hl 3 rfl) ?_
                    refine lv_iload F.1.1 F.1.2.1 d_Mod_room_63 (lv_at hl 0 rfl) ?_
                    refine hw_call1 (hw_runV F hL hS hH hl (c_Mod_isTold l D L0 ad β o _ obP_id a b (by omega) (by omega) (5 * y + x) (by omega)) ck_Mod obP_o rfl q_ml_Mod_167 q_im_Mod_isTold q_se_Mod_isTold q_in_Mod q_co_Mod_isTold rfl (k := 3) ⟨rfl, rfl, by decide +kernel, ⟨Nat.le_of_ble_eq_true rfl, Nat.le_of_ble_eq_true rfl⟩, Nat.le_of_ble_eq_true rfl⟩ rfl d_Mod_room_65 ⟨Nat.le_of_ble_eq_true rfl, Nat.le_of_ble_eq_true rfl⟩) hS (fun H locs hH hS => ?_)
                    refine lv_if_eq (tgt := 166) F.1.1 F.1.2.1 d_Mod_room_68 (by decide) (fun c68 => ?_) (fun c68 => ?_)
                    · refine lv_iinc F.1.1 F.1.2.1 d_Mod_room_166 hl (k := 7) rfl rfl (by decide) rfl (fun ls hl => ?_)
                      refine lv_goto (tgt := 45) F.1.1 F.1.2.1 d_Mod_room_169 (by decide) ?_
                      refine ih45 (x + 1) H locs ls (by omega) (by omega) hH hS (lv_sub hl [2, 3, 4, 5, 6, 7, 0] ?_)
                      show [_, _, _, _, _, _, _] = [_, _, _, _, _, _, _]
                      rw [ii1, show ac (fun x => tmM o a b (5 * y + x)) (sixM o a b y) (x + 1) = ac (fun x => tmM o a b (5 * y + x)) (sixM o a b y) x from by show _ + tmM o a b (5 * y + x) = _; unfold tmM; rw [if_pos (Or.inl c68)]; exact Int64.add_zero _]
                      first | done | rfl
                    · refine lv_aload_n F.1.1 F.1.2.1 d_Mod_room_71 rfl (lv_at hl 1 rfl) ?_
                      refine lv_iload_n F.1.1 F.1.2.1 d_Mod_room_72 rfl (lv_at hl 2 rfl) ?_
                      refine lv_iload_n F.1.1 F.1.2.1 d_Mod_room_73 rfl (lv_at hl 3 rfl) ?_
                      refine lv_iload F.1.1 F.1.2.1 d_Mod_room_74 (lv_at hl 0 rfl) ?_
                      refine lv_iconst (v := 1) F.1.1 F.1.2.1 d_Mod_room_76 (by decide) ?_
                      refine lv_iadd F.1.1 F.1.2.1 d_Mod_room_77 ?_
                      rw [show nI (5 * y + x) + 1 = nI (5 * y + x + 1) from nI_add _ 1]
                      refine hw_call1 (hw_runV F hL hS hH hl (c_Mod_isTold l D L0 ad β o _ obP_id a b (by omega) (by omega) (5 * y + x + 1) (by omega)) ck_Mod obP_o rfl q_ml_Mod_167 q_im_Mod_isTold q_se_Mod_isTold q_in_Mod q_co_Mod_isTold rfl (k := 3) ⟨rfl, rfl, by decide +kernel, ⟨Nat.le_of_ble_eq_true rfl, Nat.le_of_ble_eq_true rfl⟩, Nat.le_of_ble_eq_true rfl⟩ rfl d_Mod_room_78 ⟨Nat.le_of_ble_eq_true rfl, Nat.le_of_ble_eq_true rfl⟩) hS (fun H locs hH hS => ?_)
                      refine lv_if_eq (tgt := 166) F.1.1 F.1.2.1 d_Mod_room_81 (by decide) (fun c81 => ?_) (fun c81 => ?_)
                      · refine lv_iinc F.1.1 F.1.2.1 d_Mod_room_166 hl (k := 7) rfl rfl (by decide) rfl (fun ls hl => ?_)
                        refine lv_goto (tgt := 45) F.1.1 F.1.2.1 d_Mod_room_169 (by decide) ?_
                        refine ih45 (x + 1) H locs ls (by omega) (by omega) hH hS (lv_sub hl [2, 3, 4, 5, 6, 7, 0] ?_)
                        show [_, _, _, _, _, _, _] = [_, _, _, _, _, _, _]
                        rw [ii1, show ac (fun x => tmM o a b (5 * y + x)) (sixM o a b y) (x + 1) = ac (fun x => tmM o a b (5 * y + x)) (sixM o a b y) x from by show _ + tmM o a b (5 * y + x) = _; unfold tmM; rw [if_pos (Or.inr (Or.inl c81))]; exact Int64.add_zero _]
                        first | done | rfl
                      · refine lv_aload_n F.1.1 F.1.2.1 d_Mod_room_84 rfl (lv_at hl 1 rfl) ?_
                        refine lv_iload_n F.1.1 F.1.2.1 d_Mod_room_85 rfl (lv_at hl 2 rfl) ?_
                        refine lv_iload_n F.1.1 F.1.2.1 d_Mod_room_86 rfl (lv_at hl 3 rfl) ?_
                        refine lv_iload F.1.1 F.1.2.1 d_Mod_room_87 (lv_at hl 0 rfl) ?_
                        refine lv_iconst (v := 5) F.1.1 F.1.2.1 d_Mod_room_89 (by decide) ?_
                        refine lv_iadd F.1.1 F.1.2.1 d_Mod_room_90 ?_
                        rw [show nI (5 * y + x) + 5 = nI (5 * y + x + 5) from nI_add _ 5]
                        refine hw_call1 (hw_runV F hL hS hH hl (c_Mod_isTold l D L0 ad β o _ obP_id a b (by omega) (by omega) (5 * y + x + 5) (by omega)) ck_Mod obP_o rfl q_ml_Mod_167 q_im_Mod_isTold q_se_Mod_isTold q_in_Mod q_co_Mod_isTold rfl (k := 3) ⟨rfl, rfl, by decide +kernel, ⟨Nat.le_of_ble_eq_true rfl, Nat.le_of_ble_eq_true rfl⟩, Nat.le_of_ble_eq_true rfl⟩ rfl d_Mod_room_91 ⟨Nat.le_of_ble_eq_true rfl, Nat.le_of_ble_eq_true rfl⟩) hS (fun H locs hH hS => ?_)
                        refine lv_if_eq (tgt := 166) F.1.1 F.1.2.1 d_Mod_room_94 (by decide) (fun c94 => ?_) (fun c94 => ?_)
                        · refine lv_iinc F.1.1 F.1.2.1 d_Mod_room_166 hl (k := 7) rfl rfl (by decide) rfl (fun ls hl => ?_)
                          refine lv_goto (tgt := 45) F.1.1 F.1.2.1 d_Mod_room_169 (by decide) ?_
                          refine ih45 (x + 1) H locs ls (by omega) (by omega) hH hS (lv_sub hl [2, 3, 4, 5, 6, 7, 0] ?_)
                          show [_, _, _, _, _, _, _] = [_, _, _, _, _, _, _]
                          rw [ii1, show ac (fun x => tmM o a b (5 * y + x)) (sixM o a b y) (x + 1) = ac (fun x => tmM o a b (5 * y + x)) (sixM o a b y) x from by show _ + tmM o a b (5 * y + x) = _; unfold tmM; rw [if_pos (Or.inr (Or.inr (Or.inl c94)))]; exact Int64.add_zero _]
                          first | done | rfl
                        · refine lv_aload_n F.1.1 F.1.2.1 d_Mod_room_97 rfl (lv_at hl 1 rfl) ?_
                          refine lv_iload_n F.1.1 F.1.2.1 d_Mod_room_98 rfl (lv_at hl 2 rfl) ?_
                          refine lv_iload_n F.1.1 F.1.2.1 d_Mod_room_99 rfl (lv_at hl 3 rfl) ?_
                          refine lv_iload F.1.1 F.1.2.1 d_Mod_room_100 (lv_at hl 0 rfl) ?_
                          refine lv_bipush (v := 6) F.1.1 F.1.2.1 d_Mod_room_102 (by decide) ?_
                          refine lv_iadd F.1.1 F.1.2.1 d_Mod_room_104 ?_
                          rw [show nI (5 * y + x) + 6 = nI (5 * y + x + 6) from nI_add _ 6]
                          refine hw_call1 (hw_runV F hL hS hH hl (c_Mod_isTold l D L0 ad β o _ obP_id a b (by omega) (by omega) (5 * y + x + 6) (by omega)) ck_Mod obP_o rfl q_ml_Mod_167 q_im_Mod_isTold q_se_Mod_isTold q_in_Mod q_co_Mod_isTold rfl (k := 3) ⟨rfl, rfl, by decide +kernel, ⟨Nat.le_of_ble_eq_true rfl, Nat.le_of_ble_eq_true rfl⟩, Nat.le_of_ble_eq_true rfl⟩ rfl d_Mod_room_105 ⟨Nat.le_of_ble_eq_true rfl, Nat.le_of_ble_eq_true rfl⟩) hS (fun H locs hH hS => ?_)
                          refine lv_if_eq (tgt := 166) F.1.1 F.1.2.1 d_Mod_room_108 (by decide) (fun c108 => ?_) (fun c108 => ?_)
                          · refine lv_iinc F.1.1 F.1.2.1 d_Mod_room_166 hl (k := 7) rfl rfl (by decide) rfl (fun ls hl => ?_)
                            refine lv_goto (tgt := 45) F.1.1 F.1.2.1 d_Mod_room_169 (by decide) ?_
                            refine ih45 (x + 1) H locs ls (by omega) (by omega) hH hS (lv_sub hl [2, 3, 4, 5, 6, 7, 0] ?_)
                            show [_, _, _, _, _, _, _] = [_, _, _, _, _, _, _]
                            rw [ii1, show ac (fun x => tmM o a b (5 * y + x)) (sixM o a b y) (x + 1) = ac (fun x => tmM o a b (5 * y + x)) (sixM o a b y) x from by show _ + tmM o a b (5 * y + x) = _; unfold tmM; rw [if_pos (Or.inr (Or.inr (Or.inr c108)))]; exact Int64.add_zero _]
                            first | done | rfl
                          · refine lv_lload F.1.1 F.1.2.1 d_Mod_room_111 (lv_at hl 5 rfl) ?_
                            refine lv_ldc2 F.1.1 F.1.2.1 F.1.2.2.2.1 (F.1.2.2.2.2 _ q_cl_Mod_171) d_Mod_room_113 ?_
                            refine lv_aload_n F.1.1 F.1.2.1 d_Mod_room_116 rfl (lv_at hl 1 rfl) ?_
                            refine lv_iload_n F.1.1 F.1.2.1 d_Mod_room_117 rfl (lv_at hl 2 rfl) ?_
                            refine lv_iload_n F.1.1 F.1.2.1 d_Mod_room_118 rfl (lv_at hl 3 rfl) ?_
                            refine lv_iload F.1.1 F.1.2.1 d_Mod_room_119 (lv_at hl 0 rfl) ?_
                            refine hw_call1 (hw_runV F hL hS hH hl (c_Mod_apart l D L0 ad β o _ obP_id a b (by omega) (by omega) (5 * y + x) (by omega)) ck_Mod obP_o rfl q_ml_Mod_173 q_im_Mod_apart q_se_Mod_apart q_in_Mod q_co_Mod_apart rfl (k := 3) ⟨rfl, rfl, by decide +kernel, ⟨Nat.le_of_ble_eq_true rfl, Nat.le_of_ble_eq_true rfl⟩, Nat.le_of_ble_eq_true rfl⟩ rfl d_Mod_room_121 ⟨Nat.le_of_ble_eq_true rfl, Nat.le_of_ble_eq_true rfl⟩) hS (fun H locs hH hS => ?_)
                            refine lv_lmul F.1.1 F.1.2.1 d_Mod_room_124 ?_
                            refine lv_aload_n F.1.1 F.1.2.1 d_Mod_room_125 rfl (lv_at hl 1 rfl) ?_
                            refine lv_iload_n F.1.1 F.1.2.1 d_Mod_room_126 rfl (lv_at hl 2 rfl) ?_
                            refine lv_iload_n F.1.1 F.1.2.1 d_Mod_room_127 rfl (lv_at hl 3 rfl) ?_
                            refine lv_iload F.1.1 F.1.2.1 d_Mod_room_128 (lv_at hl 0 rfl) ?_
                            refine lv_iconst (v := 1) F.1.1 F.1.2.1 d_Mod_room_130 (by decide) ?_
                            refine lv_iadd F.1.1 F.1.2.1 d_Mod_room_131 ?_
                            rw [show nI (5 * y + x) + 1 = nI (5 * y + x + 1) from nI_add _ 1]
                            refine hw_call1 (hw_runV F hL hS hH hl (c_Mod_apart l D L0 ad β o _ obP_id a b (by omega) (by omega) (5 * y + x + 1) (by omega)) ck_Mod obP_o rfl q_ml_Mod_173 q_im_Mod_apart q_se_Mod_apart q_in_Mod q_co_Mod_apart rfl (k := 3) ⟨rfl, rfl, by decide +kernel, ⟨Nat.le_of_ble_eq_true rfl, Nat.le_of_ble_eq_true rfl⟩, Nat.le_of_ble_eq_true rfl⟩ rfl d_Mod_room_132 ⟨Nat.le_of_ble_eq_true rfl, Nat.le_of_ble_eq_true rfl⟩) hS (fun H locs hH hS => ?_)
                            refine lv_ladd F.1.1 F.1.2.1 d_Mod_room_135 ?_
                            refine lv_aload_n F.1.1 F.1.2.1 d_Mod_room_136 rfl (lv_at hl 1 rfl) ?_
                            refine lv_iload_n F.1.1 F.1.2.1 d_Mod_room_137 rfl (lv_at hl 2 rfl) ?_
                            refine lv_iload_n F.1.1 F.1.2.1 d_Mod_room_138 rfl (lv_at hl 3 rfl) ?_
                            refine lv_iload F.1.1 F.1.2.1 d_Mod_room_139 (lv_at hl 0 rfl) ?_
                            refine lv_iconst (v := 5) F.1.1 F.1.2.1 d_Mod_room_141 (by decide) ?_
                            refine lv_iadd F.1.1 F.1.2.1 d_Mod_room_142 ?_
                            rw [show nI (5 * y + x) + 5 = nI (5 * y + x + 5) from nI_add _ 5]
                            refine hw_call1 (hw_runV F hL hS hH hl (c_Mod_apart l D L0 ad β o _ obP_id a b (by omega) (by omega) (5 * y + x + 5) (by omega)) ck_Mod obP_o rfl q_ml_Mod_173 q_im_Mod_apart q_se_Mod_apart q_in_Mod q_co_Mod_apart rfl (k := 3) ⟨rfl, rfl, by decide +kernel, ⟨Nat.le_of_ble_eq_true rfl, Nat.le_of_ble_eq_true rfl⟩, Nat.le_of_ble_eq_true rfl⟩ rfl d_Mod_room_143 ⟨Nat.le_of_ble_eq_true rfl, Nat.le_of_ble_eq_true rfl⟩) hS (fun H locs hH hS => ?_)
                            refine lv_ladd F.1.1 F.1.2.1 d_Mod_room_146 ?_
                            refine lv_ldc2 F.1.1 F.1.2.1 F.1.2.2.2.1 (F.1.2.2.2.2 _ q_cl_Mod_171) d_Mod_room_147 ?_
                            refine lv_aload_n F.1.1 F.1.2.1 d_Mod_room_150 rfl (lv_at hl 1 rfl) ?_
                            refine lv_iload_n F.1.1 F.1.2.1 d_Mod_room_151 rfl (lv_at hl 2 rfl) ?_
                            refine lv_iload_n F.1.1 F.1.2.1 d_Mod_room_152 rfl (lv_at hl 3 rfl) ?_
                            refine lv_iload F.1.1 F.1.2.1 d_Mod_room_153 (lv_at hl 0 rfl) ?_
                            refine lv_bipush (v := 6) F.1.1 F.1.2.1 d_Mod_room_155 (by decide) ?_
                            refine lv_iadd F.1.1 F.1.2.1 d_Mod_room_157 ?_
                            rw [show nI (5 * y + x) + 6 = nI (5 * y + x + 6) from nI_add _ 6]
                            refine hw_call1 (hw_runV F hL hS hH hl (c_Mod_apart l D L0 ad β o _ obP_id a b (by omega) (by omega) (5 * y + x + 6) (by omega)) ck_Mod obP_o rfl q_ml_Mod_173 q_im_Mod_apart q_se_Mod_apart q_in_Mod q_co_Mod_apart rfl (k := 3) ⟨rfl, rfl, by decide +kernel, ⟨Nat.le_of_ble_eq_true rfl, Nat.le_of_ble_eq_true rfl⟩, Nat.le_of_ble_eq_true rfl⟩ rfl d_Mod_room_158 ⟨Nat.le_of_ble_eq_true rfl, Nat.le_of_ble_eq_true rfl⟩) hS (fun H locs hH hS => ?_)
                            refine lv_lmul F.1.1 F.1.2.1 d_Mod_room_161 ?_
                            refine lv_ladd F.1.1 F.1.2.1 d_Mod_room_162 ?_
                            refine lv_ladd F.1.1 F.1.2.1 d_Mod_room_163 ?_
                            refine lv_lstore F.1.1 F.1.2.1 d_Mod_room_164 hl (by decide) rfl (fun ls hl => ?_)
                            refine lv_iinc F.1.1 F.1.2.1 d_Mod_room_166 hl (k := 7) rfl rfl (by decide) rfl (fun ls hl => ?_)
                            refine lv_goto (tgt := 45) F.1.1 F.1.2.1 d_Mod_room_169 (by decide) ?_
                            refine ih45 (x + 1) H locs ls (by omega) (by omega) hH hS (lv_sub hl [3, 4, 5, 6, 1, 7, 0] ?_)
                            show [_, _, _, _, _, _, _] = [_, _, _, _, _, _, _]
                            rw [ii1, show ac (fun x => tmM o a b (5 * y + x)) (sixM o a b y) (x + 1) = ac (fun x => tmM o a b (5 * y + x)) (sixM o a b y) x + (2 * apM o a b (5 * y + x) + apM o a b (5 * y + x + 1) + apM o a b (5 * y + x + 5) + 2 * apM o a b (5 * y + x + 6)) from by show _ + tmM o a b (5 * y + x) = _; unfold tmM; rw [if_neg (fun q => q.elim c68 (fun q => q.elim c81 (fun q => q.elim c94 c108)))]]
                            first | done | rfl
              exact L45 (4 - 0 + 1) 0 H locs ls (Nat.zero_le _) (Nat.lt_succ_self _) hH hS (lv_sub hl [1, 2, 3, 4, 5, 6, 0] rfl)
        exact L36 (4 - 0 + 1) 0 H locs ls (Nat.zero_le _) (Nat.lt_succ_self _) hH hS (lv_sub hl [2, 3, 4, 5, 1, 0] rfl)
      · refine lv_ldc2 F.1.1 F.1.2.1 F.1.2.2.2.1 (F.1.2.2.2.2 _ q_cl_Mod_165) d_Mod_room_26 ?_
        exact hw_lret F hr hlocks hH hS d_Mod_room_29 (cif_f (fun q => q.2.2 c23)).symm hA
