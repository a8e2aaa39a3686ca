/-! CellSettling$Column: contracts; printed by wip/gen/col.py -/
def ac (g : Nat → Int64) (z : Int64) : Nat → Int64
  | 0 => z
  | n + 1 => ac g z n + g n
def topF (o : Ob) (n : Nat) : Int64 := ac (oB o 3) ((oI o 5).toInt64 * 1000) n
def kgF (o : Ob) (kind : Int32) (n : Nat) : Int64 := ac (fun j => if oA o 0 j = kind then oB o 2 j else 0) 0 n
theorem kgF_1 {o : Ob} {kind : Int32} {i : Nat} (h : oA o 0 i = kind) : kgF o kind (i + 1) = kgF o kind i + oB o 2 i := by
  show _ + (if _ then _ else _) = _
  rw [if_pos h]; rfl
theorem kgF_0 {o : Ob} {kind : Int32} {i : Nat} (h : ¬ oA o 0 i = kind) : kgF o kind (i + 1) = kgF o kind i := by
  show _ + (if _ then _ else _) = _
  rw [if_neg h]; exact Int64.add_zero _
def layF (o : Ob) (n : Nat) (kind : Int32) (w t : Int64) : Ob := sI (sB (sB (sA (sA o 0 (upd (oA o 0) n kind)) 1 (upd (oA o 1) n 0)) 2 (vp_updL (oB o 2) n w)) 3 (vp_updL (oB o 3) n t)) 4 (nI (n + 1))
theorem lay_eq {o : Ob} {n : Nat} {kind : Int32} {w t : Int64} (hn : oI o 4 = nI n) (h : n < 10) : sI (sB (sB (sA (sA o 0 (upd (oA o 0) (oI o 4).toNatClampNeg kind)) 1 (upd (oA o 1) (oI o 4).toNatClampNeg 0)) 2 (vp_updL (oB o 2) (oI o 4).toNatClampNeg w)) 3 (vp_updL (oB o 3) (oI o 4).toNatClampNeg t)) 4 (oI o 4 + 1) = layF o n kind w t := by
  rw [hn, nI_clamp (by omega), nI_1]; rfl
def prT (t : Int64) (q : Nat) : Nat → Int64
  | 0 => t
  | i + 1 => prT t q i - prT t q i / (nI (8 + (q + i))).toInt64
def prO (o : Ob) (k q i : Nat) : Ob := sA (sB o 3 (vp_updL (oB o 3) k (prT (oB o 3 k) q i))) 1 (upd (oA o 1) k (nI (q + i)))
theorem prO_0 {o : Ob} {k q : Nat} (hq : oA o 1 k = nI q) : prO o k q 0 = o := by
  unfold prO
  show sA (sB o 3 (vp_updL (oB o 3) k (oB o 3 k))) 1 (upd (oA o 1) k (nI q)) = o
  rw [updL_self, sB_self, upd_self hq, sA_self]
theorem prO_B {o : Ob} {k q i : Nat} : oB (prO o k q i) 3 k = prT (oB o 3 k) q i := pk_uLs
theorem prO_A {o : Ob} {k q i : Nat} : oA (prO o k q i) 1 k = nI (q + i) := pk_us
theorem pr_q {o : Ob} {k q i : Nat} (hk : k < 2 ^ 31) : ((8 : Int32) + oA (prO o k q i) 1 (nI k).toNatClampNeg).toInt64 = (nI (8 + (q + i))).toInt64 := by
  rw [nI_clamp hk, prO_A]
  show (nI 8 + nI (q + i)).toInt64 = _
  rw [nI_add]
theorem pr_nz {a : Nat} (h : a < 2 ^ 30) : ¬ (nI (8 + a)).toInt64 = 0 := by
  rw [nI_l (by omega)]
  intro q
  have := (lN_eq (a := 8 + a) (b := 0) (by omega) (by omega)).mp q
  omega
theorem prO_s {o : Ob} {k q i : Nat} (hk : k < 2 ^ 31) : sA (sB (prO o k q i) 3 (vp_updL (oB (prO o k q i) 3) (nI k).toNatClampNeg (oB (prO o k q i) 3 (nI k).toNatClampNeg - oB (prO o k q i) 3 (nI k).toNatClampNeg / ((8 : Int32) + oA (prO o k q i) 1 (nI k).toNatClampNeg).toInt64))) 1 (upd (oA (prO o k q i) 1) (nI k).toNatClampNeg (oA (prO o k q i) 1 (nI k).toNatClampNeg + 1)) = prO o k q (i + 1) := by
  rw [pr_q hk, nI_clamp hk, prO_B, prO_A, nI_1]
  unfold prO
  refine Ob.ext (fun _ => rfl) (fun _ => rfl) (fun j => ?_) (fun j => ?_)
  · simp only [oA_A, oA_B]
    split
    · exact upd_upd
    · rfl
  · simp only [oB_A, oB_B]
    split
    · exact updL_updL
    · rfl
def yF (m t : Int64) : Int64 := t - t * m / 1000000
def yrs (m : Int64) : Nat → Int64 → Int64
  | 0, t => t
  | i + 1, t => yF m (yrs m i t)
theorem yrs_stop {m t : Int64} {i y : Nat} (h : yrs m i t * m / 1000000 = 0) (hi : i ≤ y) : yrs m i t = yrs m y t := by
  obtain ⟨j, rfl⟩ := Nat.exists_eq_add_of_le hi
  clear hi
  induction j with
  | zero => rfl
  | succ k ih =>
    show _ = yF m (yrs m (i + k) t)
    rw [← ih]
    unfold yF
    rw [h]
    exact (Int64.sub_zero _).symm
set_option maxHeartbeats 1000000 in
theorem c_Cel_isWithin (l : Launch) (D : va_G) (L0 : Nat) (ad : Nat → Nat) (n a b : Int64) (f : Nat → Option va_E) : Met l y_Cel_isWithin (wd y_Cel_isWithin b_Cel_isWithin 6 (some .boolean)) { frames := 0, cells := 0, slots := 0, locals := 0 } (va_Pc [.long n, .long a, .long b] (cp D L0 ad (f))) (dt D L0 ad (some (.int (wi n a b))) (f)) 0 0 (fun q => L0 ≤ q) := by
  refine hw_met (by decide) (Nat.le_of_ble_eq_true rfl) ?_
  intro p e s m below meth c ls F hr hlocks hnm hL hH hS hl
  refine lv_lload_n F.1.1 F.1.2.1 d_Cel_isWithin_0 rfl (lv_at hl 0 rfl) ?_
  refine lv_lload_n F.1.1 F.1.2.1 d_Cel_isWithin_1 rfl (lv_at hl 1 rfl) ?_
  refine W.lcmp F.1.1 F.1.2.1 d_Cel_isWithin_2 ?_
  refine lv_if_lt (tgt := 17) F.1.1 F.1.2.1 d_Cel_isWithin_3 (by decide) (fun c3 => ?_) (fun c3 => ?_)
  · rw [lg_cmp_lt] at c3
    refine lv_iconst (v := 0) F.1.1 F.1.2.1 d_Cel_isWithin_17 (by decide) ?_
    exact hw_zret F hr hlocks hH hS d_Cel_isWithin_18 (by first | decide | (split <;> decide) | (unfold cif; split <;> decide)) (by rw [eq_comm, wi_0]; exact fun h => absurd h.1 (Int64.not_le.mpr c3)) rfl
  · rw [lg_cmp_lt] at c3
    refine lv_lload_n F.1.1 F.1.2.1 d_Cel_isWithin_6 rfl (lv_at hl 0 rfl) ?_
    refine lv_lload F.1.1 F.1.2.1 d_Cel_isWithin_7 (lv_at hl 2 rfl) ?_
    refine W.lcmp F.1.1 F.1.2.1 d_Cel_isWithin_9 ?_
    refine lv_if_gt (tgt := 17) F.1.1 F.1.2.1 d_Cel_isWithin_10 (by decide) (fun c10 => ?_) (fun c10 => ?_)
    · rw [lg_cmp_gt] at c10
      refine lv_iconst (v := 0) F.1.1 F.1.2.1 d_Cel_isWithin_17 (by decide) ?_
      exact hw_zret F hr hlocks hH hS d_Cel_isWithin_18 (by first | decide | (split <;> decide) | (unfold cif; split <;> decide)) (by rw [eq_comm, wi_0]; exact fun h => absurd h.2 (Int64.not_le.mpr c10)) rfl
    · rw [lg_cmp_gt] at c10
      refine lv_iconst (v := 1) F.1.1 F.1.2.1 d_Cel_isWithin_13 (by decide) ?_
      refine lv_goto (tgt := 18) F.1.1 F.1.2.1 d_Cel_isWithin_14 (by decide) ?_
      exact hw_zret F hr hlocks hH hS d_Cel_isWithin_18 (by first | decide | (split <;> decide) | (unfold cif; split <;> decide)) (by unfold wi; rw [if_pos ⟨Int64.not_lt.mp c3, Int64.not_lt.mp c10⟩]) rfl
set_option maxHeartbeats 1000000 in
theorem c_Col_isFull (l : Launch) (D : va_G) (L0 : Nat) (ad : Nat → Nat) (β : Nat) (o : Ob) (f : Nat → Option va_E) (hA : hasO D ad β 0 shCol o f) : Met l y_Col_isFull (wd y_Col_isFull b_Col_isFull 1 (some .boolean)) { frames := 0, cells := 0, slots := 0, locals := 0 } (va_Pc [.ref (ad β)] (cp D L0 ad (f))) (dt D L0 ad (some (.int (if oI o 4 < 10 then 0 else 1))) (f)) 0 0 (fun q => L0 ≤ q) := by
  refine hw_met (by decide) (Nat.le_of_ble_eq_true rfl) ?_
  intro p e s m below meth c ls F hr hlocks hnm hL hH hS hl
  replace hH := hH.to hA.symm
  refine lv_aload_n F.1.1 F.1.2.1 d_Col_isFull_0 rfl (lv_at hl 0 rfl) ?_
  refine gI ck_Col F hH q_fl_Col_25 (k := 4) (by decide) rfl d_Col_isFull_1 ?_
  refine lv_bipush (v := 10) F.1.1 F.1.2.1 d_Col_isFull_4 (by decide) ?_
  refine lv_icmp_lt (tgt := 13) F.1.1 F.1.2.1 d_Col_isFull_6 (by decide) (fun c6 => ?_) (fun c6 => ?_)
  · refine lv_iconst (v := 0) F.1.1 F.1.2.1 d_Col_isFull_13 (by decide) ?_
    exact hw_zret F hr hlocks hH hS d_Col_isFull_14 (by first | decide | (split <;> decide) | (unfold cif; split <;> decide)) (by rw [if_pos c6]) hA
  · refine lv_iconst (v := 1) F.1.1 F.1.2.1 d_Col_isFull_9 (by decide) ?_
    refine lv_goto (tgt := 14) F.1.1 F.1.2.1 d_Col_isFull_10 (by decide) ?_
    exact hw_zret F hr hlocks hH hS d_Col_isFull_14 (by first | decide | (split <;> decide) | (unfold cif; split <;> decide)) (by rw [if_neg c6]) hA
set_option maxHeartbeats 1000000 in
theorem c_Col_empty (l : Launch) (D : va_G) (L0 : Nat) (ad : Nat → Nat) (β : Nat) (o : Ob) (f : Nat → Option va_E) (hA : hasO D ad β 0 shCol o f) : Met l y_Col_empty (wd y_Col_empty b_Col_empty 1 none) { frames := 0, cells := 0, slots := 0, locals := 0 } (va_Pc [.ref (ad β)] (cp D L0 ad (f))) (dt D L0 ad (none) (obP D ad β 0 shCol (sI (sI o 4 0) 5 0) f)) 0 0 (fun q => L0 ≤ q) := by
  refine hw_met (by decide) (Nat.le_of_ble_eq_true rfl) ?_
  intro p e s m below meth c ls F hr hlocks hnm hL hH hS hl
  replace hH := hH.to hA.symm
  refine lv_aload_n F.1.1 F.1.2.1 d_Col_empty_0 rfl (lv_at hl 0 rfl) ?_
  refine lv_iconst (v := 0) F.1.1 F.1.2.1 d_Col_empty_1 (by decide) ?_
  refine pI ck_Col F hH hS q_fl_Col_25 (k := 4) (by decide) rfl rfl rfl d_Col_empty_2 (fun H locs hH hS => ?_)
  refine lv_aload_n F.1.1 F.1.2.1 d_Col_empty_5 rfl (lv_at hl 0 rfl) ?_
  refine lv_iconst (v := 0) F.1.1 F.1.2.1 d_Col_empty_6 (by decide) ?_
  refine pI ck_Col F hH hS q_fl_Col_29 (k := 5) (by decide) rfl rfl rfl d_Col_empty_7 (fun H locs hH hS => ?_)
  exact hw_vret F hr hlocks hH hS d_Col_empty_10 rfl
set_option maxHeartbeats 1000000 in
theorem c_Col_top (l : Launch) (D : va_G) (L0 : Nat) (ad : Nat → Nat) (β : Nat) (o : Ob) (f : Nat → Option va_E) (hA : hasO D ad β 0 shCol o f) (n : Nat) (hn : oI o 4 = nI n) (hn10 : n ≤ 10) : Met l y_Col_top (wd y_Col_top b_Col_top 4 (some .long)) { frames := 0, cells := 0, slots := 0, locals := 0 } (va_Pc [.ref (ad β)] (cp D L0 ad (f))) (dt D L0 ad (some (.long (topF o n))) (f)) 0 0 (fun q => L0 ≤ q) := by
  refine hw_met (by decide) (Nat.le_of_ble_eq_true rfl) ?_
  intro p e s m below meth c ls F hr hlocks hnm hL hH hS hl
  replace hH := hH.to hA.symm
  refine lv_aload_n F.1.1 F.1.2.1 d_Col_top_0 rfl (lv_at hl 0 rfl) ?_
  refine gI ck_Col F hH q_fl_Col_29 (k := 5) (by decide) rfl d_Col_top_1 ?_
  refine lv_i2l F.1.1 F.1.2.1 d_Col_top_4 rfl ?_
  refine lv_ldc2 F.1.1 F.1.2.1 F.1.2.2.2.1 (F.1.2.2.2.2 _ q_cl_Col_48) d_Col_top_5 ?_
  refine lv_lmul F.1.1 F.1.2.1 d_Col_top_8 ?_
  refine lv_lstore_n F.1.1 F.1.2.1 d_Col_top_9 rfl hl (by decide) rfl (fun ls hl => ?_)
  refine lv_iconst (v := 0) F.1.1 F.1.2.1 d_Col_top_10 (by decide) ?_
  refine lv_istore_n F.1.1 F.1.2.1 d_Col_top_11 rfl hl (by decide) rfl (fun ls hl => ?_)
  have L12 : ∀ (u : Nat) (i : Nat) (H : Heap) (locs : List Loc) (ls : Array Slot), (i ≤ n) → n - i < u → hw D L0 ad (obP D ad β 0 shCol o f) H → va_S (fun q => L0 ≤ q) s.heap H locs → lv_has ls 4 [(0, .ref (ad β)), (1, .long (ac (oB o 3) ((oI o 5).toInt64 * 1000) i)), (3, .int (nI i))] → W p l e { frames := 0, cells := 0, slots := 0, locals := 0 } s m [.ref (ad β)].toArray below meth c H locs 0 0 (MQ below (dt D L0 ad (some (.long (topF o n))) (f)) [.ref (ad β)].toArray s 0 0 (fun q => L0 ≤ q)) (F0 m 12 ls []) := by
    intro u
    induction u with
    | zero => intros; exact absurd ‹(_ : Nat) < 0› (Nat.not_lt_zero _)
    | succ u ih12 =>
      intro i H locs ls hi hu hH hS hl
      refine lv_iload_n F.1.1 F.1.2.1 d_Col_top_12 rfl (lv_at hl 2 rfl) ?_
      refine lv_aload_n F.1.1 F.1.2.1 d_Col_top_13 rfl (lv_at hl 0 rfl) ?_
      refine gI ck_Col F hH q_fl_Col_25 (k := 4) (by decide) rfl d_Col_top_14 ?_
      refine lv_icmp_ge (tgt := 35) F.1.1 F.1.2.1 d_Col_top_17 (by decide) (fun c17 => ?_) (fun c17 => ?_)
      · rw [hn] at c17
        have hin := (nI_leI (by omega) (by omega)).mp c17
        refine lv_lload_n F.1.1 F.1.2.1 d_Col_top_35 rfl (lv_at hl 1 rfl) ?_
        exact hw_lret F hr hlocks hH hS d_Col_top_36 (by rw [topF, show i = n by omega]) hA
      · rw [hn] at c17
        have hin : i < n := by
          rcases Nat.lt_or_ge i n with q | q
          · exact q
          · exact absurd (nI_le q (by omega)) c17
        refine lv_lload_n F.1.1 F.1.2.1 d_Col_top_20 rfl (lv_at hl 1 rfl) ?_
        refine lv_aload_n F.1.1 F.1.2.1 d_Col_top_21 rfl (lv_at hl 0 rfl) ?_
        refine gR ck_Col F hH q_fl_Col_22 (k := 3) (by decide) rfl (by decide) d_Col_top_22 ?_
        refine lv_iload_n F.1.1 F.1.2.1 d_Col_top_25 rfl (lv_at hl 2 rfl) ?_
        refine lB F hH rfl (vp_in_nI (by omega) (by omega)) d_Col_top_26 ?_
        refine lv_ladd F.1.1 F.1.2.1 d_Col_top_27 ?_
        refine lv_lstore_n F.1.1 F.1.2.1 d_Col_top_28 rfl hl (by decide) rfl (fun ls hl => ?_)
        refine lv_iinc F.1.1 F.1.2.1 d_Col_top_29 hl (k := 2) rfl rfl (by decide) rfl (fun ls hl => ?_)
        refine lv_goto (tgt := 12) F.1.1 F.1.2.1 d_Col_top_32 (by decide) ?_
        refine ih12 (i + 1) H locs ls (by omega) (by omega) hH hS (lv_sub hl [2, 1, 0] ?_)
        show [_, _, _] = [_, _, _]
        rw [nI_clamp (by omega), ii1]
        rfl
  exact L12 (n - 0 + 1) 0 s.heap [] ls (Nat.zero_le n) (Nat.lt_succ_self _) hH hS (lv_sub hl [2, 1, 0] rfl)
set_option maxHeartbeats 1000000 in
theorem c_Col_kilogramsOf (l : Launch) (D : va_G) (L0 : Nat) (ad : Nat → Nat) (β : Nat) (o : Ob) (f : Nat → Option va_E) (hA : hasO D ad β 0 shCol o f) (kind : Int32) (n : Nat) (hn : oI o 4 = nI n) (hn10 : n ≤ 10) : Met l y_Col_kilogramsOf (wd y_Col_kilogramsOf b_Col_kilogramsOf 5 (some .long)) { frames := 0, cells := 0, slots := 0, locals := 0 } (va_Pc [.ref (ad β), .int kind] (cp D L0 ad (f))) (dt D L0 ad (some (.long (kgF o kind n))) (f)) 0 0 (fun q => L0 ≤ q) := by
  refine hw_met (by decide) (Nat.le_of_ble_eq_true rfl) ?_
  intro p e s m below meth c ls F hr hlocks hnm hL hH hS hl
  replace hH := hH.to hA.symm
  refine lv_lconst (v := 0) F.1.1 F.1.2.1 d_Col_kilogramsOf_0 (by decide) ?_
  refine lv_lstore_n F.1.1 F.1.2.1 d_Col_kilogramsOf_1 rfl hl (by decide) rfl (fun ls hl => ?_)
  refine lv_iconst (v := 0) F.1.1 F.1.2.1 d_Col_kilogramsOf_2 (by decide) ?_
  refine lv_istore F.1.1 F.1.2.1 d_Col_kilogramsOf_3 hl (by decide) rfl (fun ls hl => ?_)
  have L5 : ∀ (u : Nat) (i : Nat) (H : Heap) (locs : List Loc) (ls : Array Slot), (i ≤ n) → n - i < u → hw D L0 ad (obP D ad β 0 shCol o f) H → va_S (fun q => L0 ≤ q) s.heap H locs → lv_has ls 5 [(0, .ref (ad β)), (1, .int kind), (2, .long (kgF o kind i)), (4, .int (nI i))] → W p l e { frames := 0, cells := 0, slots := 0, locals := 0 } s m [.ref (ad β), .int kind].toArray below meth c H locs 0 0 (MQ below (dt D L0 ad (some (.long (kgF o kind n))) (f)) [.ref (ad β), .int kind].toArray s 0 0 (fun q => L0 ≤ q)) (F0 m 5 ls []) := by
    intro u
    induction u with
    | zero => intros; exact absurd ‹(_ : Nat) < 0› (Nat.not_lt_zero _)
    | succ u ih5 =>
      intro i H locs ls hi hu hH hS hl
      refine lv_iload F.1.1 F.1.2.1 d_Col_kilogramsOf_5 (lv_at hl 3 rfl) ?_
      refine lv_aload_n F.1.1 F.1.2.1 d_Col_kilogramsOf_7 rfl (lv_at hl 0 rfl) ?_
      refine gI ck_Col F hH q_fl_Col_25 (k := 4) (by decide) rfl d_Col_kilogramsOf_8 ?_
      refine lv_icmp_ge (tgt := 41) F.1.1 F.1.2.1 d_Col_kilogramsOf_11 (by decide) (fun c11 => ?_) (fun c11 => ?_)
      · rw [hn] at c11
        have hin := (nI_leI (by omega) (by omega)).mp c11
        refine lv_lload_n F.1.1 F.1.2.1 d_Col_kilogramsOf_41 rfl (lv_at hl 2 rfl) ?_
        exact hw_lret F hr hlocks hH hS d_Col_kilogramsOf_42 (by rw [show i = n by omega]) hA
      · rw [hn] at c11
        have hin : i < n := by
          rcases Nat.lt_or_ge i n with q | q
          · exact q
          · exact absurd (nI_le q (by omega)) c11
        refine lv_aload_n F.1.1 F.1.2.1 d_Col_kilogramsOf_14 rfl (lv_at hl 0 rfl) ?_
        refine gR ck_Col F hH q_fl_Col_11 (k := 0) (by decide) rfl (by decide) d_Col_kilogramsOf_15 ?_
        refine lv_iload F.1.1 F.1.2.1 d_Col_kilogramsOf_18 (lv_at hl 3 rfl) ?_
        refine lA F hH rfl (vp_in_nI (by omega) (by omega)) d_Col_kilogramsOf_20 ?_
        refine lv_iload_n F.1.1 F.1.2.1 d_Col_kilogramsOf_21 rfl (lv_at hl 1 rfl) ?_
        refine lv_icmp_ne (tgt := 35) F.1.1 F.1.2.1 d_Col_kilogramsOf_22 (by decide) (fun c22 => ?_) (fun c22 => ?_)
        · rw [nI_clamp (by omega)] at c22
          refine lv_iinc F.1.1 F.1.2.1 d_Col_kilogramsOf_35 hl (k := 3) rfl rfl (by decide) rfl (fun ls hl => ?_)
          refine lv_goto (tgt := 5) F.1.1 F.1.2.1 d_Col_kilogramsOf_38 (by decide) ?_
          refine ih5 (i + 1) H locs ls (by omega) (by omega) hH hS (lv_sub hl [1, 2, 3, 0] ?_)
          show [_, _, _, _] = [_, _, _, _]
          first
            | (rw [nI_clamp (by omega), ii1, kgF_1 c22]; first | done | rfl)
            | (rw [ii1, kgF_0 c22]; first | done | rfl)
        · rw [nI_clamp (by omega)] at c22
          refine lv_lload_n F.1.1 F.1.2.1 d_Col_kilogramsOf_25 rfl (lv_at hl 2 rfl) ?_
          refine lv_aload_n F.1.1 F.1.2.1 d_Col_kilogramsOf_26 rfl (lv_at hl 0 rfl) ?_
          refine gR ck_Col F hH q_fl_Col_18 (k := 2) (by decide) rfl (by decide) d_Col_kilogramsOf_27 ?_
          refine lv_iload F.1.1 F.1.2.1 d_Col_kilogramsOf_30 (lv_at hl 3 rfl) ?_
          refine lB F hH rfl (vp_in_nI (by omega) (by omega)) d_Col_kilogramsOf_32 ?_
          refine lv_ladd F.1.1 F.1.2.1 d_Col_kilogramsOf_33 ?_
          refine lv_lstore_n F.1.1 F.1.2.1 d_Col_kilogramsOf_34 rfl hl (by decide) rfl (fun ls hl => ?_)
          refine lv_iinc F.1.1 F.1.2.1 d_Col_kilogramsOf_35 hl (k := 3) rfl rfl (by decide) rfl (fun ls hl => ?_)
          refine lv_goto (tgt := 5) F.1.1 F.1.2.1 d_Col_kilogramsOf_38 (by decide) ?_
          refine ih5 (i + 1) H locs ls (by omega) (by omega) hH hS (lv_sub hl [2, 3, 1, 0] ?_)
          show [_, _, _, _] = [_, _, _, _]
          first
            | (rw [nI_clamp (by omega), ii1, kgF_1 c22]; first | done | rfl)
            | (rw [ii1, kgF_0 c22]; first | done | rfl)
  exact L5 (n - 0 + 1) 0 s.heap [] ls (Nat.zero_le n) (Nat.lt_succ_self _) hH hS (lv_sub hl [2, 3, 1, 0] rfl)
set_option maxHeartbeats 1000000 in
theorem c_Col_lay (l : Launch) (D : va_G) (L0 : Nat) (ad : Nat → Nat) (β : Nat) (o : Ob) (f : Nat → Option va_E) (hA : hasO D ad β 0 shCol o f) (kind : Int32) (w t : Int64) (n : Nat) (hn : oI o 4 = nI n) (hn10 : n < 10) : Met l y_Col_lay (wd y_Col_lay b_Col_lay 6 none) { frames := 1, cells := 0, slots := 0, locals := 20 } (va_Pc [.ref (ad β), .int kind, .long w, .long t] (cp D L0 ad (f))) (dt D L0 ad (none) (obP D ad β 0 shCol (layF o n kind w t) f)) 0 0 (fun q => L0 ≤ q) := by
  refine hw_met (by decide) (Nat.le_of_ble_eq_true rfl) ?_
  intro p e s m below meth c ls F hr hlocks hnm hL hH hS hl
  replace hH := hH.to hA.symm
  have hix : vp_in (oI o 4) 10 := by rw [hn]; exact vp_in_nI (by omega) (by omega)
  refine lv_aload_n F.1.1 F.1.2.1 d_Col_lay_0 rfl (lv_at hl 0 rfl) ?_
  refine hw_call1 (hw_runV F hL hS hH hl (c_Col_isFull l D L0 ad β o _ obP_id) ck_Col obP_o rfl q_ml_Col_32 q_im_Col_isFull q_se_Col_isFull q_in_Col q_co_Col_isFull rfl (k := 0) ⟨rfl, rfl, by decide +kernel, ⟨Nat.le_of_ble_eq_true rfl, Nat.le_of_ble_eq_true rfl⟩, Nat.le_of_ble_eq_true rfl⟩ rfl d_Col_lay_1 ⟨Nat.le_of_ble_eq_true rfl, Nat.le_of_ble_eq_true rfl⟩) hS (fun H locs hH hS => ?_)
  refine lv_if_eq (tgt := 8) F.1.1 F.1.2.1 d_Col_lay_4 (by decide) (fun c4 => ?_) (fun c4 => ?_)
  · refine lv_aload_n F.1.1 F.1.2.1 d_Col_lay_8 rfl (lv_at hl 0 rfl) ?_
    refine gR ck_Col F hH q_fl_Col_11 (k := 0) (by decide) rfl (by decide) d_Col_lay_9 ?_
    refine lv_aload_n F.1.1 F.1.2.1 d_Col_lay_12 rfl (lv_at hl 0 rfl) ?_
    refine gI ck_Col F hH q_fl_Col_25 (k := 4) (by decide) rfl d_Col_lay_13 ?_
    refine lv_iload_n F.1.1 F.1.2.1 d_Col_lay_16 rfl (lv_at hl 1 rfl) ?_
    refine tA F hH hS rfl hix d_Col_lay_17 (fun H locs hH hS => ?_)
    refine lv_aload_n F.1.1 F.1.2.1 d_Col_lay_18 rfl (lv_at hl 0 rfl) ?_
    refine gR ck_Col F hH q_fl_Col_15 (k := 1) (by decide) rfl (by decide) d_Col_lay_19 ?_
    refine lv_aload_n F.1.1 F.1.2.1 d_Col_lay_22 rfl (lv_at hl 0 rfl) ?_
    refine gI ck_Col F hH q_fl_Col_25 (k := 4) (by decide) rfl d_Col_lay_23 ?_
    refine lv_iconst (v := 0) F.1.1 F.1.2.1 d_Col_lay_26 (by decide) ?_
    refine tA F hH hS rfl hix d_Col_lay_27 (fun H locs hH hS => ?_)
    refine lv_aload_n F.1.1 F.1.2.1 d_Col_lay_28 rfl (lv_at hl 0 rfl) ?_
    refine gR ck_Col F hH q_fl_Col_18 (k := 2) (by decide) rfl (by decide) d_Col_lay_29 ?_
    refine lv_aload_n F.1.1 F.1.2.1 d_Col_lay_32 rfl (lv_at hl 0 rfl) ?_
    refine gI ck_Col F hH q_fl_Col_25 (k := 4) (by decide) rfl d_Col_lay_33 ?_
    refine lv_lload_n F.1.1 F.1.2.1 d_Col_lay_36 rfl (lv_at hl 2 rfl) ?_
    refine tB F hH hS rfl hix d_Col_lay_37 (fun H locs hH hS => ?_)
    refine lv_aload_n F.1.1 F.1.2.1 d_Col_lay_38 rfl (lv_at hl 0 rfl) ?_
    refine gR ck_Col F hH q_fl_Col_22 (k := 3) (by decide) rfl (by decide) d_Col_lay_39 ?_
    refine lv_aload_n F.1.1 F.1.2.1 d_Col_lay_42 rfl (lv_at hl 0 rfl) ?_
    refine gI ck_Col F hH q_fl_Col_25 (k := 4) (by decide) rfl d_Col_lay_43 ?_
    refine lv_lload F.1.1 F.1.2.1 d_Col_lay_46 (lv_at hl 3 rfl) ?_
    refine tB F hH hS rfl hix d_Col_lay_48 (fun H locs hH hS => ?_)
    refine lv_aload_n F.1.1 F.1.2.1 d_Col_lay_49 rfl (lv_at hl 0 rfl) ?_
    refine lv_dup F.1.1 F.1.2.1 d_Col_lay_50 rfl ?_
    refine gI ck_Col F hH q_fl_Col_25 (k := 4) (by decide) rfl d_Col_lay_51 ?_
    refine lv_iconst (v := 1) F.1.1 F.1.2.1 d_Col_lay_54 (by decide) ?_
    refine lv_iadd F.1.1 F.1.2.1 d_Col_lay_55 ?_
    refine pI ck_Col F hH hS q_fl_Col_25 (k := 4) (by decide) rfl rfl rfl d_Col_lay_56 (fun H locs hH hS => ?_)
    exact hw_vret F hr hlocks hH hS d_Col_lay_59 (congrArg (fun o => obP D ad β 0 shCol o f) (lay_eq hn hn10))
  · exact absurd (by rw [hn, if_pos (show nI n < 10 from (nI_lt hn10 (by omega) : nI n < nI 10))]) c4
set_option maxHeartbeats 1000000 in
theorem c_Col_press (l : Launch) (D : va_G) (L0 : Nat) (ad : Nat → Nat) (β : Nat) (o : Ob) (f : Nat → Option va_E) (hA : hasO D ad β 0 shCol o f) (k q t : Nat) (hn : oI o 4 = nI (k + 1)) (hn10 : k < 10) (hq : oA o 1 k = nI q) (hqt : q + t < 2 ^ 30) : Met l y_Col_press (wd y_Col_press b_Col_press 4 none) { frames := 0, cells := 0, slots := 0, locals := 0 } (va_Pc [.ref (ad β), .int (nI t)] (cp D L0 ad (f))) (dt D L0 ad (none) (obP D ad β 0 shCol (prO o k q t) f)) 0 0 (fun q => L0 ≤ q) := by
  refine hw_met (by decide) (Nat.le_of_ble_eq_true rfl) ?_
  intro p e s m below meth c ls F hr hlocks hnm hL hH hS hl
  replace hH := hH.to hA.symm
  refine lv_aload_n F.1.1 F.1.2.1 d_Col_press_0 rfl (lv_at hl 0 rfl) ?_
  refine gI ck_Col F hH q_fl_Col_25 (k := 4) (by decide) rfl d_Col_press_1 ?_
  refine lv_if_ne (tgt := 8) F.1.1 F.1.2.1 d_Col_press_4 (by decide) (fun c4 => ?_) (fun c4 => ?_)
  · refine lv_aload_n F.1.1 F.1.2.1 d_Col_press_8 rfl (lv_at hl 0 rfl) ?_
    refine gI ck_Col F hH q_fl_Col_25 (k := 4) (by decide) rfl d_Col_press_9 ?_
    refine lv_iconst (v := 1) F.1.1 F.1.2.1 d_Col_press_12 (by decide) ?_
    refine lv_isub F.1.1 F.1.2.1 d_Col_press_13 ?_
    refine lv_istore_n F.1.1 F.1.2.1 d_Col_press_14 rfl hl (by decide) rfl (fun ls hl => ?_)
    refine lv_iconst (v := 0) F.1.1 F.1.2.1 d_Col_press_15 (by decide) ?_
    refine lv_istore_n F.1.1 F.1.2.1 d_Col_press_16 rfl hl (by decide) rfl (fun ls hl => ?_)
    have L17 : ∀ (u : Nat) (i : Nat) (H : Heap) (locs : List Loc) (ls : Array Slot), (i ≤ t) → t - i < u → hw D L0 ad (obP D ad β 0 shCol (prO o k q i) f) H → va_S (fun q => L0 ≤ q) s.heap H locs → lv_has ls 4 [(0, .ref (ad β)), (1, .int (nI t)), (2, .int (nI k)), (3, .int (nI i))] → W p l e { frames := 0, cells := 0, slots := 0, locals := 0 } s m [.ref (ad β), .int (nI t)].toArray below meth c H locs 0 0 (MQ below (dt D L0 ad (none) (obP D ad β 0 shCol (prO o k q t) f)) [.ref (ad β), .int (nI t)].toArray s 0 0 (fun q => L0 ≤ q)) (F0 m 17 ls []) := by
      intro u
      induction u with
      | zero => intros; exact absurd ‹(_ : Nat) < 0› (Nat.not_lt_zero _)
      | succ u ih17 =>
        intro i H locs ls hi hu hH hS hl
        refine lv_iload_n F.1.1 F.1.2.1 d_Col_press_17 rfl (lv_at hl 3 rfl) ?_
        refine lv_iload_n F.1.1 F.1.2.1 d_Col_press_18 rfl (lv_at hl 1 rfl) ?_
        refine lv_icmp_ge (tgt := 64) F.1.1 F.1.2.1 d_Col_press_19 (by decide) (fun c19 => ?_) (fun c19 => ?_)
        · have hin := (nI_leI (by omega) (by omega)).mp c19
          exact hw_vret F hr hlocks hH hS d_Col_press_64 (by rw [show i = t by omega])
        · have hin : i < t := by
            rcases Nat.lt_or_ge i t with q | q
            · exact q
            · exact absurd (nI_le q (by omega)) c19
          refine lv_aload_n F.1.1 F.1.2.1 d_Col_press_22 rfl (lv_at hl 0 rfl) ?_
          refine gR ck_Col F hH q_fl_Col_22 (k := 3) (by decide) rfl (by decide) d_Col_press_23 ?_
          refine lv_iload_n F.1.1 F.1.2.1 d_Col_press_26 rfl (lv_at hl 2 rfl) ?_
          refine lv_dup2_11 F.1.1 F.1.2.1 d_Col_press_27 rfl rfl ?_
          refine lB F hH rfl (vp_in_nI (by omega) (by omega)) d_Col_press_28 ?_
          refine lv_aload_n F.1.1 F.1.2.1 d_Col_press_29 rfl (lv_at hl 0 rfl) ?_
          refine gR ck_Col F hH q_fl_Col_22 (k := 3) (by decide) rfl (by decide) d_Col_press_30 ?_
          refine lv_iload_n F.1.1 F.1.2.1 d_Col_press_33 rfl (lv_at hl 2 rfl) ?_
          refine lB F hH rfl (vp_in_nI (by omega) (by omega)) d_Col_press_34 ?_
          refine lv_bipush (v := 8) F.1.1 F.1.2.1 d_Col_press_35 (by decide) ?_
          refine lv_aload_n F.1.1 F.1.2.1 d_Col_press_37 rfl (lv_at hl 0 rfl) ?_
          refine gR ck_Col F hH q_fl_Col_15 (k := 1) (by decide) rfl (by decide) d_Col_press_38 ?_
          refine lv_iload_n F.1.1 F.1.2.1 d_Col_press_41 rfl (lv_at hl 2 rfl) ?_
          refine lA F hH rfl (vp_in_nI (by omega) (by omega)) d_Col_press_42 ?_
          refine lv_iadd F.1.1 F.1.2.1 d_Col_press_43 ?_
          refine lv_i2l F.1.1 F.1.2.1 d_Col_press_44 rfl ?_
          refine lv_ldiv F.1.1 F.1.2.1 d_Col_press_45 (by rw [pr_q (by omega)]; exact pr_nz (by omega)) ?_
          refine lv_lsub F.1.1 F.1.2.1 d_Col_press_46 ?_
          refine tB F hH hS rfl (vp_in_nI (by omega) (by omega)) d_Col_press_47 (fun H locs hH hS => ?_)
          refine lv_aload_n F.1.1 F.1.2.1 d_Col_press_48 rfl (lv_at hl 0 rfl) ?_
          refine gR ck_Col F hH q_fl_Col_15 (k := 1) (by decide) rfl (by decide) d_Col_press_49 ?_
          refine lv_iload_n F.1.1 F.1.2.1 d_Col_press_52 rfl (lv_at hl 2 rfl) ?_
          refine lv_dup2_11 F.1.1 F.1.2.1 d_Col_press_53 rfl rfl ?_
          refine lA F hH rfl (vp_in_nI (by omega) (by omega)) d_Col_press_54 ?_
          refine lv_iconst (v := 1) F.1.1 F.1.2.1 d_Col_press_55 (by decide) ?_
          refine lv_iadd F.1.1 F.1.2.1 d_Col_press_56 ?_
          refine tA F hH hS rfl (vp_in_nI (by omega) (by omega)) d_Col_press_57 (fun H locs hH hS => ?_)
          refine lv_iinc F.1.1 F.1.2.1 d_Col_press_58 hl (k := 3) rfl rfl (by decide) rfl (fun ls hl => ?_)
          refine lv_goto (tgt := 17) F.1.1 F.1.2.1 d_Col_press_61 (by decide) ?_
          refine ih17 (i + 1) H locs ls (by omega) (by omega) (hH.to (congrArg (fun o => obP D ad β 0 shCol o f) (prO_s (by omega)))) hS (lv_sub hl [1, 2, 3, 0] ?_)
          show [_, _, _, _] = [_, _, _, _]
          rw [ii1]
    refine L17 (t - 0 + 1) 0 s.heap [] ls (Nat.zero_le t) (Nat.lt_succ_self _) (hH.to (by rw [prO_0 hq])) hS (lv_sub hl [2, 3, 1, 0] ?_)
    show [_, _, _, _] = [_, _, _, _]
    rw [hn, nI_pred]
    rfl
  · exact absurd c4 (by rw [hn]; exact nI_ne0 (by omega) (by omega))
set_option maxHeartbeats 1000000 in
theorem c_Col_settled (l : Launch) (D : va_G) (L0 : Nat) (ad : Nat → Nat) (t mm : Int64) (y : Nat) (hy : y < 2 ^ 30) (f : Nat → Option va_E) : Met l y_Col_settled (wd y_Col_settled b_Col_settled 10 (some .long)) { frames := 0, cells := 0, slots := 0, locals := 0 } (va_Pc [.long t, .long mm, .int (nI y)] (cp D L0 ad (f))) (dt D L0 ad (some (.long (yrs mm y t))) (f)) 0 0 (fun q => L0 ≤ q) := by
  refine hw_met (by decide) (Nat.le_of_ble_eq_true rfl) ?_
  intro p e s m below meth c ls F hr hlocks hnm hL hH hS hl
  refine lv_lload_n F.1.1 F.1.2.1 d_Col_settled_0 rfl (lv_at hl 0 rfl) ?_
  refine lv_lstore F.1.1 F.1.2.1 d_Col_settled_1 hl (by decide) rfl (fun ls hl => ?_)
  refine lv_iconst (v := 0) F.1.1 F.1.2.1 d_Col_settled_3 (by decide) ?_
  refine lv_istore F.1.1 F.1.2.1 d_Col_settled_4 hl (by decide) rfl (fun ls hl => ?_)
  have L6 : ∀ (u : Nat) (i : Nat) (H : Heap) (locs : List Loc) (ls : Array Slot), (i ≤ y) → y - i < u → hw D L0 ad (f) H → va_S (fun q => L0 ≤ q) s.heap H locs → lv_has ls 10 [(0, .long t), (2, .long mm), (4, .int (nI y)), (5, .long (yrs mm i t)), (7, .int (nI i))] → W p l e { frames := 0, cells := 0, slots := 0, locals := 0 } s m [.long t, .long mm, .int (nI y)].toArray below meth c H locs 0 0 (MQ below (dt D L0 ad (some (.long (yrs mm y t))) (f)) [.long t, .long mm, .int (nI y)].toArray s 0 0 (fun q => L0 ≤ q)) (F0 m 6 ls []) := by
    intro u
    induction u with
    | zero => intros; exact absurd ‹(_ : Nat) < 0› (Nat.not_lt_zero _)
    | succ u ih6 =>
      intro i H locs ls hi hu hH hS hl
      refine lv_iload F.1.1 F.1.2.1 d_Col_settled_6 (lv_at hl 4 rfl) ?_
      refine lv_iload F.1.1 F.1.2.1 d_Col_settled_8 (lv_at hl 2 rfl) ?_
      refine lv_icmp_ge (tgt := 46) F.1.1 F.1.2.1 d_Col_settled_10 (by decide) (fun c10 => ?_) (fun c10 => ?_)
      · have hin := (nI_leI (by omega) (by omega)).mp c10
        refine lv_lload F.1.1 F.1.2.1 d_Col_settled_46 (lv_at hl 3 rfl) ?_
        exact hw_lret F hr hlocks hH hS d_Col_settled_48 (by rw [show i = y by omega]) rfl
      · have hin : i < y := by
          rcases Nat.lt_or_ge i y with q | q
          · exact q
          · exact absurd (nI_le q (by omega)) c10
        refine lv_lload F.1.1 F.1.2.1 d_Col_settled_13 (lv_at hl 3 rfl) ?_
        refine lv_lload_n F.1.1 F.1.2.1 d_Col_settled_15 rfl (lv_at hl 1 rfl) ?_
        refine lv_lmul F.1.1 F.1.2.1 d_Col_settled_16 ?_
        refine lv_ldc2 F.1.1 F.1.2.1 F.1.2.2.2.1 (F.1.2.2.2.2 _ q_cl_Col_46) d_Col_settled_17 ?_
        refine lv_ldiv F.1.1 F.1.2.1 d_Col_settled_20 (by decide) ?_
        refine lv_lstore F.1.1 F.1.2.1 d_Col_settled_21 hl (by decide) rfl (fun ls hl => ?_)
        refine lv_lload F.1.1 F.1.2.1 d_Col_settled_23 (lv_at hl 0 rfl) ?_
        refine lv_lconst (v := 0) F.1.1 F.1.2.1 d_Col_settled_25 (by decide) ?_
        refine W.lcmp F.1.1 F.1.2.1 d_Col_settled_26 ?_
        refine lv_if_ne (tgt := 33) F.1.1 F.1.2.1 d_Col_settled_27 (by decide) (fun c27 => ?_) (fun c27 => ?_)
        · rw [lg_cmp_eq] at c27
          refine lv_lload F.1.1 F.1.2.1 d_Col_settled_33 (lv_at hl 4 rfl) ?_
          refine lv_lload F.1.1 F.1.2.1 d_Col_settled_35 (lv_at hl 0 rfl) ?_
          refine lv_lsub F.1.1 F.1.2.1 d_Col_settled_37 ?_
          refine lv_lstore F.1.1 F.1.2.1 d_Col_settled_38 hl (by decide) rfl (fun ls hl => ?_)
          refine lv_iinc F.1.1 F.1.2.1 d_Col_settled_40 hl (k := 5) rfl rfl (by decide) rfl (fun ls hl => ?_)
          refine lv_goto (tgt := 6) F.1.1 F.1.2.1 d_Col_settled_43 (by decide) ?_
          refine ih6 (i + 1) H locs ls (by omega) (by omega) hH hS (lv_sub hl [3, 4, 5, 1, 0] ?_)
          show [_, _, _, _, _] = [_, _, _, _, _]
          rw [ii1]
          rfl
        · rw [lg_cmp_eq] at c27
          refine lv_goto (tgt := 46) F.1.1 F.1.2.1 d_Col_settled_30 (by decide) ?_
          refine lv_lload F.1.1 F.1.2.1 d_Col_settled_46 (lv_at hl 4 rfl) ?_
          exact hw_lret F hr hlocks hH hS d_Col_settled_48 (yrs_stop c27 (by omega)) rfl
  exact L6 (y - 0 + 1) 0 s.heap [] ls (Nat.zero_le y) (Nat.lt_succ_self _) hH hS (lv_sub hl [2, 3, 4, 1, 0] rfl)
