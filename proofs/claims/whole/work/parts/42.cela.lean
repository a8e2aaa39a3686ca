/-! CellSettling: an event carried out; printed by wip/gen/cela.py -/
def cL (T : Ob) (c : Nat) : Nat → Nat
  | 0 => 0
  | i + 1 => cL T c i + (if oA T 0 i = 1 ∧ oA T 1 i = nI c then 1 else 0)
def cR (T : Ob) (k : Nat) : Nat → Nat
  | 0 => 0
  | i + 1 => cR T k i + (if oA T 0 i = 0 ∧ oA T 1 i = nI k then 1 else 0)
/-- an event that may stand at the place i of what was told -/
def EvS (T : Ob) (C i : Nat) : Prop :=
  (oA T 0 i = 0 ∧ ∃ k, k < 4 ∧ oA T 1 i = nI k ∧ cR T k i < 4) ∨
  (oA T 0 i = 1 ∧ ∃ c, c < C ∧ oA T 1 i = nI c ∧ cL T c i < 10 ∧ ∃ q, q < 4 ∧ oA T 2 i = nI q) ∨
  (oA T 0 i = 2 ∧ ∃ c, c < C ∧ oA T 1 i = nI c ∧ 0 < cL T c i ∧ ∃ t, t ≤ 20 ∧ oA T 2 i = nI t) ∨
  (oA T 0 i = 3 ∧ ∃ y, y ≤ 50 ∧ oA T 2 i = nI y) ∨
  (oA T 0 i = 4 ∧ ∃ c, c < C ∧ oA T 1 i = nI c) ∨
  (oA T 0 i = 5 ∧ ∃ c, c < C ∧ oA T 1 i = nI c)
def vH (T : Ob) (C n : Nat) : Prop := ∀ i, i < n → EvS T C i
/-- what holds of the live state behind i events -/
def LI (σ : Xs) (i : Nat) : Prop :=
  (∀ c, c < xC σ → oI (xL σ c) 4 = nI (cL (xT σ) c i) ∧ cL (xT σ) c i ≤ 10 ∧ ∀ j, j < cL (xT σ) c i → (∃ q, q < 4 ∧ oA (xL σ c) 0 j = nI q) ∧ ∃ q, q ≤ 20 * i ∧ oA (xL σ c) 1 j = nI q) ∧
  ∀ k, k < 4 → oI (xK σ k) 2 = nI (cR (xT σ) k i) ∧ cR (xT σ) k i ≤ 4
def xB (σ : Xs) : Prop := (1 ≤ xC σ ∧ xC σ ≤ 8) ∧ xSc σ ≤ 4 ∧ xPc σ ≤ 4 ∧ oI (xE σ) 6 = nI (xSc σ) ∧ oI (xE σ) 7 = nI (xPc σ) ∧ oI (xT σ) 5 = nI (tc (xT σ)) ∧ tc (xT σ) ≤ 200
theorem LI_lc {σ : Xs} {n c : Nat} (h : LI σ n) (hc : c < xC σ) : lc (xL σ c) = cL (xT σ) c n ∧ cL (xT σ) c n ≤ 10 := by
  obtain ⟨h1, h2, -⟩ := h.1 c hc
  exact ⟨by unfold lc; rw [h1, nI_clamp (by omega)], h2⟩
theorem LI_rc {σ : Xs} {n k : Nat} (h : LI σ n) (hk : k < 4) : rc (xK σ k) = cR (xT σ) k n ∧ cR (xT σ) k n ≤ 4 := by
  obtain ⟨h1, h2⟩ := h.2 k hk
  exact ⟨by unfold rc; rw [h1, nI_clamp (by omega)], h2⟩
theorem LI_kn {σ : Xs} {n c : Nat} (h : LI σ n) (hc : c < xC σ) : ∀ j, j < lc (xL σ c) → ∃ q, q < 4 ∧ oA (xL σ c) 0 j = nI q := by
  intro j hj
  rw [(LI_lc h hc).1] at hj
  exact ((h.1 c hc).2.2 j hj).1
theorem LI_ps {σ : Xs} {n c : Nat} (h : LI σ n) (hc : c < xC σ) (hn : n < 200) (hp : 0 < cL (xT σ) c n := by assumption) : oA (xL σ c) 1 (lc (xL σ c) - 1) = nI (oA (xL σ c) 1 (lc (xL σ c) - 1)).toNatClampNeg ∧ (oA (xL σ c) 1 (lc (xL σ c) - 1)).toNatClampNeg ≤ 4000 := by
  rw [(LI_lc h hc).1]
  obtain ⟨q, hq, e⟩ := ((h.1 c hc).2.2 (cL (xT σ) c n - 1) (by omega)).2
  rw [e, nI_clamp (by omega)]
  exact ⟨rfl, by omega⟩
theorem xOK_of {σ : Xs} {n : Nat} (hB : xB σ) (h : LI σ n) : xOK σ :=
  ⟨hB.1, hB.2.1, hB.2.2.1, hB.2.2.2.1, hB.2.2.2.2.1, fun i hi => by rw [(LI_lc h hi).1]; exact ⟨(h.1 i hi).1, (LI_lc h hi).2⟩, fun k hk => by rw [(LI_rc h hk).1]; exact h.2 k hk, hB.2.2.2.2.2⟩
def pyS (σ : Xs) (y i : Nat) : Xs := xsLs σ (fun c => if c < i then stO (xK σ) (xL σ c) (lc (xL σ c)) y 0 else xL σ c)
def pyF (σ : Xs) (y : Nat) : Xs := xsE (pyS σ y (xC σ)) (sI (xE σ) 8 (oI (xE σ) 8 + nI y))
theorem pyS_0 {σ : Xs} {y : Nat} : pyS σ y 0 = σ := rfl
theorem pyS_s {σ : Xs} {y i : Nat} (_h : i < xC σ) : xsL (pyS σ y i) i (stO (xK σ) (xL σ i) (lc (xL σ i)) y 0) = pyS σ y (i + 1) := by
  have e : va_up (fun c => if c < i then stO (xK σ) (xL σ c) (lc (xL σ c)) y 0 else xL σ c) i (stO (xK σ) (xL σ i) (lc (xL σ i)) y 0) = (fun c => if c < i + 1 then stO (xK σ) (xL σ c) (lc (xL σ c)) y 0 else xL σ c) := by
    funext c
    by_cases hc : c = i
    · subst hc; rw [va_up_self, if_pos (by omega)]
    · rw [va_up_ne _ _ hc]
      by_cases h1 : c < i
      · rw [if_pos h1, if_pos (by omega)]
      · rw [if_neg h1, if_neg (by omega)]
  show xsLs σ (va_up (fun c => if c < i then stO (xK σ) (xL σ c) (lc (xL σ c)) y 0 else xL σ c) i _) = _
  rw [e]; rfl
/-- the event i carried out -/
def actX (σ : Xs) (i : Nat) : Xs :=
  if oA (xT σ) 0 i = 0 then xsK σ (oA (xT σ) 1 i).toNatClampNeg (rowF (xK σ (oA (xT σ) 1 i).toNatClampNeg) (rc (xK σ (oA (xT σ) 1 i).toNatClampNeg)) (oB (xT σ) 3 i) (oA (xT σ) 2 i))
  else if oA (xT σ) 0 i = 1 then xsL σ (oA (xT σ) 1 i).toNatClampNeg (layF (xL σ (oA (xT σ) 1 i).toNatClampNeg) (lc (xL σ (oA (xT σ) 1 i).toNatClampNeg)) (oA (xT σ) 2 i) (oB (xT σ) 3 i) (oB (xT σ) 4 i))
  else if oA (xT σ) 0 i = 2 then xsL σ (oA (xT σ) 1 i).toNatClampNeg (prO (xL σ (oA (xT σ) 1 i).toNatClampNeg) (lc (xL σ (oA (xT σ) 1 i).toNatClampNeg) - 1) (oA (xL σ (oA (xT σ) 1 i).toNatClampNeg) 1 (lc (xL σ (oA (xT σ) 1 i).toNatClampNeg) - 1)).toNatClampNeg (oA (xT σ) 2 i).toNatClampNeg)
  else if oA (xT σ) 0 i = 3 then pyF σ (oA (xT σ) 2 i).toNatClampNeg
  else if oA (xT σ) 0 i = 4 then xsL σ (oA (xT σ) 1 i).toNatClampNeg (sI (xL σ (oA (xT σ) 1 i).toNatClampNeg) 5 (oI (xL σ (oA (xT σ) 1 i).toNatClampNeg) 5 + oA (xT σ) 2 i))
  else if oA (xT σ) 0 i = 5 then cmF σ (oA (xT σ) 1 i).toNatClampNeg (oB (xT σ) 3 i)
  else σ
set_option maxHeartbeats 1000000 in
theorem c_Cel_passYears (l : Launch) (D : va_G) (L0 : Nat) (ad : Nat → Nat) (σ : Xs) (f0 : Nat → Option va_E) (hB : xB σ) (n : Nat) (hI : LI σ n) (y : Nat) (hy : y ≤ 50) : Met l y_Cel_passYears (wd y_Cel_passYears b_Cel_passYears 3 none) { frames := 2, cells := 0, slots := 0, locals := 56 } (va_Pc [.ref (ad 0), .int (nI y)] (cp D L0 ad (celP D ad σ f0))) (dt D L0 ad (none) (celP D ad (pyF σ y) f0)) 0 0 (fun q => L0 ≤ q) := by
  refine hw_met (by decide) (Nat.le_of_ble_eq_true rfl) ?_
  intro p e s m below meth c ls F hr hlocks hnm hL hH hS hl
  have hC := hB.1
  have hX := xOK_of hB hI
  refine lv_iconst (v := 0) F.1.1 F.1.2.1 d_Cel_passYears_0 (by decide) ?_
  refine lv_istore_n F.1.1 F.1.2.1 d_Cel_passYears_1 rfl hl (by decide) rfl (fun ls hl => ?_)
  have L2 : ∀ (u : Nat) (i : Nat) (H : Heap) (locs : List Loc) (ls : Array Slot), (i ≤ xC σ) → xC σ - i < u → hw D L0 ad (celP D ad (pyS σ y i) f0) H → va_S (fun q => L0 ≤ q) s.heap H locs → lv_has ls 3 [(0, .ref (ad 0)), (1, .int (nI y)), (2, .int (nI i))] → W p l e { frames := 2, cells := 0, slots := 0, locals := 56 } s m [.ref (ad 0), .int (nI y)].toArray below meth c H locs 0 0 (MQ below (dt D L0 ad (none) (celP D ad (pyF σ y) f0)) [.ref (ad 0), .int (nI y)].toArray s 0 0 (fun q => L0 ≤ q)) (F0 m 2 ls []) := by
    intro u
    induction u with
    | zero => intros; exact absurd ‹(_ : Nat) < 0› (Nat.not_lt_zero _)
    | succ u ih2 =>
      intro i H locs ls hi hu hH hS hl
      refine lv_iload_n F.1.1 F.1.2.1 d_Cel_passYears_2 rfl (lv_at hl 2 rfl) ?_
      refine lv_aload_n F.1.1 F.1.2.1 d_Cel_passYears_3 rfl (lv_at hl 0 rfl) ?_
      refine gX ck_Cel F (hH.to celE.symm) q_fl_Cel_23 (k := 1) (by decide) rfl d_Cel_passYears_4 ?_
      refine hw_alen F hH (tysOf_obj D (j := 0) rfl) celP_2 (v := nI (xC σ)) rfl d_Cel_passYears_7 ?_
      refine lv_icmp_ge (tgt := 31) F.1.1 F.1.2.1 d_Cel_passYears_8 (by decide) (fun c8 => ?_) (fun c8 => ?_)
      · have hin := (nI_leI (by omega) (by omega)).mp c8
        refine lv_aload_n F.1.1 F.1.2.1 d_Cel_passYears_31 rfl (lv_at hl 0 rfl) ?_
        refine lv_dup F.1.1 F.1.2.1 d_Cel_passYears_32 rfl ?_
        refine gI ck_Cel F (hH.to celE.symm) q_fl_Cel_93 (k := 8) (by decide) rfl d_Cel_passYears_33 ?_
        refine lv_iload_n F.1.1 F.1.2.1 d_Cel_passYears_36 rfl (lv_at hl 1 rfl) ?_
        refine lv_iadd F.1.1 F.1.2.1 d_Cel_passYears_37 ?_
        refine pI ck_Cel F (hH.to celE.symm) hS q_fl_Cel_93 (k := 8) (by decide) rfl rfl rfl d_Cel_passYears_38 (fun H locs hH hS => ?_)
        replace hH := hH.to cel_E
        exact hw_vret F hr hlocks hH hS d_Cel_passYears_41 (by rw [show i = xC σ by omega]; rfl)
      · have hin : i < xC σ := by
          rcases Nat.lt_or_ge i (xC σ) with q | q
          · exact q
          · exact absurd (nI_le q (by omega)) c8
        have hiL : xL (pyS σ y i) i = xL σ i := if_neg (by omega)
        refine lv_aload_n F.1.1 F.1.2.1 d_Cel_passYears_11 rfl (lv_at hl 0 rfl) ?_
        refine gX ck_Cel F (hH.to celE.symm) q_fl_Cel_23 (k := 1) (by decide) rfl d_Cel_passYears_12 ?_
        refine lv_iload_n F.1.1 F.1.2.1 d_Cel_passYears_15 rfl (lv_at hl 2 rfl) ?_
        refine hw_aaldR F hH (j := 0) rfl celP_2 (show vp_in (nI i) (xC σ) from vp_in_nI (by omega) (by omega)) (show rfA ad 64 (xC σ) _ = some (ad (64 + 8 * i)) from by rw [nI_clamp (by omega)]; exact if_pos hin) d_Cel_passYears_16 ?_
        refine lv_iload_n F.1.1 F.1.2.1 d_Cel_passYears_17 rfl (lv_at hl 1 rfl) ?_
        refine lv_aload_n F.1.1 F.1.2.1 d_Cel_passYears_18 rfl (lv_at hl 0 rfl) ?_
        refine gX ck_Cel F (hH.to celE.symm) q_fl_Cel_30 (k := 2) (by decide) rfl d_Cel_passYears_19 ?_
        refine hw_call0 (hw_runV F hL hS hH hl (c_Col_settle l D L0 ad (64 + 8 * i) (xL (pyS σ y i) i) _ (celL hin hC.2) 3 (rfA ad 32 4) (xK σ) (fun q => 32 + 8 * q) (lc (xL σ i)) y celP_3 (Or.inl (by omega)) (fun q hq => if_pos hq) (fun q hq => celK hq) (fun q hq => Or.inl (by show 32 + 8 * q + 5 < 64 + 8 * i; omega)) (fun q hq => ⟨_, (hX.2.2.2.2.2.2.1 q hq).2, (hX.2.2.2.2.2.2.1 q hq).1⟩) (by rw [hiL]; exact (hX.2.2.2.2.2.1 i hin).1) (hX.2.2.2.2.2.1 i hin).2 (by rw [hiL]; exact LI_kn hI hin) (by omega)) ck_Col (hasO_o (celL hin hC.2)) rfl q_ml_Cel_239 q_im_Col_settle q_se_Col_settle q_in_Col q_co_Col_settle rfl (k := 2) ⟨rfl, rfl, by decide +kernel, ⟨Nat.le_of_ble_eq_true rfl, Nat.le_of_ble_eq_true rfl⟩, Nat.le_of_ble_eq_true rfl⟩ rfl d_Cel_passYears_22 ⟨Nat.le_of_ble_eq_true rfl, Nat.le_of_ble_eq_true rfl⟩) hS (fun H locs hH hS => ?_)
        replace hH := hH.to (cel_L hin hC.2)
        refine lv_iinc F.1.1 F.1.2.1 d_Cel_passYears_25 hl (k := 2) rfl rfl (by decide) rfl (fun ls hl => ?_)
        refine lv_goto (tgt := 2) F.1.1 F.1.2.1 d_Cel_passYears_28 (by decide) ?_
        refine ih2 (i + 1) H locs ls (by omega) (by omega) (hH.to (by rw [hiL, pyS_s hin])) hS (lv_sub hl [1, 2, 0] ?_)
        show [_, _, _] = [_, _, _]
        rw [ii1]
        first | done | rfl
  exact L2 (xC σ - 0 + 1) 0 s.heap [] ls (Nat.zero_le _) (Nat.lt_succ_self _) (hH.to (by rw [pyS_0])) hS (lv_sub hl [1, 2, 0] rfl)
set_option maxHeartbeats 1000000 in
theorem c_Cel_carryOut (l : Launch) (D : va_G) (L0 : Nat) (ad : Nat → Nat) (σ : Xs) (f0 : Nat → Option va_E) (hB : xB σ) (n : Nat) (hn2 : n < 200) (hI : LI σ n) (hE : EvS (xT σ) (xC σ) n) : Met l y_Cel_carryOut (wd y_Cel_carryOut b_Cel_carryOut 4 none) { frames := 3, cells := 0, slots := 0, locals := 78 } (va_Pc [.ref (ad 0), .int (nI n)] (cp D L0 ad (celP D ad σ f0))) (dt D L0 ad (none) (celP D ad (actX σ n) f0)) 0 0 (fun q => L0 ≤ q) := by
  refine hw_met (by decide) (Nat.le_of_ble_eq_true rfl) ?_
  intro p e s m below meth c ls F hr hlocks hnm hL hH hS hl
  have hC := hB.1
  have hX := xOK_of hB hI
  refine lv_aload_n F.1.1 F.1.2.1 d_Cel_carryOut_0 rfl (lv_at hl 0 rfl) ?_
  refine gX ck_Cel F (hH.to celE.symm) q_fl_Cel_38 (k := 3) (by decide) rfl d_Cel_carryOut_1 ?_
  refine gRN ck_Tol F (hH.to celT.symm) q_fn_Cel_207 (k := 1) (by decide) rfl (by decide) d_Cel_carryOut_4 ?_
  refine lv_iload_n F.1.1 F.1.2.1 d_Cel_carryOut_7 rfl (lv_at hl 1 rfl) ?_
  refine lA F (hH.to celT.symm) rfl (vp_in_nI (by omega) (by omega)) d_Cel_carryOut_8 ?_
  rw [nI_clamp (show n < 2 ^ 31 by omega)]
  refine lv_istore_n F.1.1 F.1.2.1 d_Cel_carryOut_9 rfl hl (by decide) rfl (fun ls hl => ?_)
  refine lv_aload_n F.1.1 F.1.2.1 d_Cel_carryOut_10 rfl (lv_at hl 1 rfl) ?_
  refine gX ck_Cel F (hH.to celE.symm) q_fl_Cel_38 (k := 3) (by decide) rfl d_Cel_carryOut_11 ?_
  refine gRN ck_Tol F (hH.to celT.symm) q_fn_Cel_211 (k := 2) (by decide) rfl (by decide) d_Cel_carryOut_14 ?_
  refine lv_iload_n F.1.1 F.1.2.1 d_Cel_carryOut_17 rfl (lv_at hl 2 rfl) ?_
  refine lA F (hH.to celT.symm) rfl (vp_in_nI (by omega) (by omega)) d_Cel_carryOut_18 ?_
  rw [nI_clamp (show n < 2 ^ 31 by omega)]
  refine lv_istore_n F.1.1 F.1.2.1 d_Cel_carryOut_19 rfl hl (by decide) rfl (fun ls hl => ?_)
  refine lv_aload_n F.1.1 F.1.2.1 d_Cel_carryOut_20 rfl (lv_at hl 2 rfl) ?_
  refine gX ck_Cel F (hH.to celE.symm) q_fl_Cel_38 (k := 3) (by decide) rfl d_Cel_carryOut_21 ?_
  refine gRN ck_Tol F (hH.to celT.symm) q_fn_Cel_214 (k := 0) (by decide) rfl (by decide) d_Cel_carryOut_24 ?_
  refine lv_iload_n F.1.1 F.1.2.1 d_Cel_carryOut_27 rfl (lv_at hl 3 rfl) ?_
  refine lA F (hH.to celT.symm) rfl (vp_in_nI (by omega) (by omega)) d_Cel_carryOut_28 ?_
  rcases hE with ⟨hw0, k, hk, hpl, hcr⟩ | ⟨hw0, i, hc, hpl, hcl, q, hq, hnu⟩ | ⟨hw0, i, hc, hpl, hcl, t, ht, hnu⟩ | ⟨hw0, t, ht, hnu⟩ | ⟨hw0, i, hc, hpl⟩ | ⟨hw0, i, hc, hpl⟩
  · have hw1 : oA (xT σ) 0 (nI n).toNatClampNeg = 0 := by rw [nI_clamp (show n < 2 ^ 31 by omega)]; exact hw0
    refine lv_tableIn (off := 39) (tgt := 68) F.1.1 F.1.2.1 d_Cel_carryOut_29 (by rw [hw1]; decide) (by rw [hw1]; decide) (by rw [hw1]; rfl) (by decide) ?_
    refine lv_aload_n F.1.1 F.1.2.1 d_Cel_carryOut_68 rfl (lv_at hl 2 rfl) ?_
    refine gX ck_Cel F (hH.to celE.symm) q_fl_Cel_30 (k := 2) (by decide) rfl d_Cel_carryOut_69 ?_
    refine lv_iload_n F.1.1 F.1.2.1 d_Cel_carryOut_72 rfl (lv_at hl 1 rfl) ?_
    refine hw_aaldR F hH (j := 1) rfl celP_3 (by rw [hpl]; exact vp_in_nI (by omega) (by omega)) (by rw [hpl, nI_clamp (by omega)]; exact if_pos hk) d_Cel_carryOut_73 ?_
    refine lv_aload_n F.1.1 F.1.2.1 d_Cel_carryOut_74 rfl (lv_at hl 2 rfl) ?_
    refine gX ck_Cel F (hH.to celE.symm) q_fl_Cel_38 (k := 3) (by decide) rfl d_Cel_carryOut_75 ?_
    refine gRN ck_Tol F (hH.to celT.symm) q_fn_Cel_217 (k := 3) (by decide) rfl (by decide) d_Cel_carryOut_78 ?_
    refine lv_iload_n F.1.1 F.1.2.1 d_Cel_carryOut_81 rfl (lv_at hl 3 rfl) ?_
    refine lB F (hH.to celT.symm) rfl (vp_in_nI (by omega) (by omega)) d_Cel_carryOut_82 ?_
    refine lv_iload_n F.1.1 F.1.2.1 d_Cel_carryOut_83 rfl (lv_at hl 0 rfl) ?_
    refine hw_call0 (hw_runV F hL hS hH hl (c_Kin_addRow l D L0 ad (32 + 8 * k) (xK σ k) _ (celK hk) _ _ (rc (xK σ k)) (hX.2.2.2.2.2.2.1 k hk).1 (by rw [(LI_rc hI hk).1]; exact hcr)) ck_Kin (hasO_o (celK hk)) rfl q_ml_Cel_220 q_im_Kin_addRow q_se_Kin_addRow q_in_Kin q_co_Kin_addRow rfl (k := 2) ⟨rfl, rfl, by decide +kernel, ⟨Nat.le_of_ble_eq_true rfl, Nat.le_of_ble_eq_true rfl⟩, Nat.le_of_ble_eq_true rfl⟩ rfl d_Cel_carryOut_84 ⟨Nat.le_of_ble_eq_true rfl, Nat.le_of_ble_eq_true rfl⟩) hS (fun H locs hH hS => ?_)
    replace hH := hH.to (cel_K hk)
    refine lv_goto (tgt := 182) F.1.1 F.1.2.1 d_Cel_carryOut_87 (by decide) ?_
    exact hw_vret F hr hlocks hH hS d_Cel_carryOut_182 (by unfold actX; rw [if_pos hw0, hpl, nI_clamp (show n < 2 ^ 31 by omega), nI_clamp (show k < 2 ^ 31 by omega)])
  · have hw1 : oA (xT σ) 0 (nI n).toNatClampNeg = 1 := by rw [nI_clamp (show n < 2 ^ 31 by omega)]; exact hw0
    refine lv_tableIn (off := 61) (tgt := 90) F.1.1 F.1.2.1 d_Cel_carryOut_29 (by rw [hw1]; decide) (by rw [hw1]; decide) (by rw [hw1]; rfl) (by decide) ?_
    refine lv_aload_n F.1.1 F.1.2.1 d_Cel_carryOut_90 rfl (lv_at hl 2 rfl) ?_
    refine gX ck_Cel F (hH.to celE.symm) q_fl_Cel_23 (k := 1) (by decide) rfl d_Cel_carryOut_91 ?_
    refine lv_iload_n F.1.1 F.1.2.1 d_Cel_carryOut_94 rfl (lv_at hl 1 rfl) ?_
    refine hw_aaldR F hH (j := 0) rfl celP_2 (by rw [hpl]; exact vp_in_nI (by omega) (by omega)) (by rw [hpl, nI_clamp (by omega)]; exact if_pos hc) d_Cel_carryOut_95 ?_
    refine lv_iload_n F.1.1 F.1.2.1 d_Cel_carryOut_96 rfl (lv_at hl 0 rfl) ?_
    refine lv_aload_n F.1.1 F.1.2.1 d_Cel_carryOut_97 rfl (lv_at hl 2 rfl) ?_
    refine gX ck_Cel F (hH.to celE.symm) q_fl_Cel_38 (k := 3) (by decide) rfl d_Cel_carryOut_98 ?_
    refine gRN ck_Tol F (hH.to celT.symm) q_fn_Cel_217 (k := 3) (by decide) rfl (by decide) d_Cel_carryOut_101 ?_
    refine lv_iload_n F.1.1 F.1.2.1 d_Cel_carryOut_104 rfl (lv_at hl 3 rfl) ?_
    refine lB F (hH.to celT.symm) rfl (vp_in_nI (by omega) (by omega)) d_Cel_carryOut_105 ?_
    refine lv_aload_n F.1.1 F.1.2.1 d_Cel_carryOut_106 rfl (lv_at hl 2 rfl) ?_
    refine gX ck_Cel F (hH.to celE.symm) q_fl_Cel_38 (k := 3) (by decide) rfl d_Cel_carryOut_107 ?_
    refine gRN ck_Tol F (hH.to celT.symm) q_fn_Cel_224 (k := 4) (by decide) rfl (by decide) d_Cel_carryOut_110 ?_
    refine lv_iload_n F.1.1 F.1.2.1 d_Cel_carryOut_113 rfl (lv_at hl 3 rfl) ?_
    refine lB F (hH.to celT.symm) rfl (vp_in_nI (by omega) (by omega)) d_Cel_carryOut_114 ?_
    refine hw_call0 (hw_runV F hL hS hH hl (c_Col_lay l D L0 ad (64 + 8 * i) (xL σ i) _ (celL hc hC.2) _ _ _ (lc (xL σ i)) (hX.2.2.2.2.2.1 i hc).1 (by rw [(LI_lc hI hc).1]; exact hcl)) ck_Col (hasO_o (celL hc hC.2)) rfl q_ml_Cel_225 q_im_Col_lay q_se_Col_lay q_in_Col q_co_Col_lay rfl (k := 3) ⟨rfl, rfl, by decide +kernel, ⟨Nat.le_of_ble_eq_true rfl, Nat.le_of_ble_eq_true rfl⟩, Nat.le_of_ble_eq_true rfl⟩ rfl d_Cel_carryOut_115 ⟨Nat.le_of_ble_eq_true rfl, Nat.le_of_ble_eq_true rfl⟩) hS (fun H locs hH hS => ?_)
    replace hH := hH.to (cel_L hc hC.2)
    refine lv_goto (tgt := 182) F.1.1 F.1.2.1 d_Cel_carryOut_118 (by decide) ?_
    exact hw_vret F hr hlocks hH hS d_Cel_carryOut_182 (by unfold actX; rw [if_neg (by rw [hw0]; decide), if_pos hw0, hpl, nI_clamp (show n < 2 ^ 31 by omega), nI_clamp (show i < 2 ^ 31 by omega)])
  · have hw1 : oA (xT σ) 0 (nI n).toNatClampNeg = 2 := by rw [nI_clamp (show n < 2 ^ 31 by omega)]; exact hw0
    rw [hnu] at hl
    refine lv_tableIn (off := 92) (tgt := 121) F.1.1 F.1.2.1 d_Cel_carryOut_29 (by rw [hw1]; decide) (by rw [hw1]; decide) (by rw [hw1]; rfl) (by decide) ?_
    refine lv_aload_n F.1.1 F.1.2.1 d_Cel_carryOut_121 rfl (lv_at hl 2 rfl) ?_
    refine gX ck_Cel F (hH.to celE.symm) q_fl_Cel_23 (k := 1) (by decide) rfl d_Cel_carryOut_122 ?_
    refine lv_iload_n F.1.1 F.1.2.1 d_Cel_carryOut_125 rfl (lv_at hl 1 rfl) ?_
    refine hw_aaldR F hH (j := 0) rfl celP_2 (by rw [hpl]; exact vp_in_nI (by omega) (by omega)) (by rw [hpl, nI_clamp (by omega)]; exact if_pos hc) d_Cel_carryOut_126 ?_
    refine lv_iload_n F.1.1 F.1.2.1 d_Cel_carryOut_127 rfl (lv_at hl 0 rfl) ?_
    refine hw_call0 (hw_runV F hL hS hH hl (c_Col_press l D L0 ad (64 + 8 * i) (xL σ i) _ (celL hc hC.2) (lc (xL σ i) - 1) ((oA (xL σ i) 1 (lc (xL σ i) - 1)).toNatClampNeg) t (by rw [(hX.2.2.2.2.2.1 i hc).1, (LI_lc hI hc).1]; congr 1; omega) (by have := (hX.2.2.2.2.2.1 i hc).2; omega) (LI_ps hI hc hn2).1 (by have := (LI_ps hI hc hn2).2; omega)) ck_Col (hasO_o (celL hc hC.2)) rfl q_ml_Cel_229 q_im_Col_press q_se_Col_press q_in_Col q_co_Col_press rfl (k := 1) ⟨rfl, rfl, by decide +kernel, ⟨Nat.le_of_ble_eq_true rfl, Nat.le_of_ble_eq_true rfl⟩, Nat.le_of_ble_eq_true rfl⟩ rfl d_Cel_carryOut_128 ⟨Nat.le_of_ble_eq_true rfl, Nat.le_of_ble_eq_true rfl⟩) hS (fun H locs hH hS => ?_)
    replace hH := hH.to (cel_L hc hC.2)
    refine lv_goto (tgt := 182) F.1.1 F.1.2.1 d_Cel_carryOut_131 (by decide) ?_
    exact hw_vret F hr hlocks hH hS d_Cel_carryOut_182 (by unfold actX; rw [if_neg (by rw [hw0]; decide), if_neg (by rw [hw0]; decide), if_pos hw0, hpl, hnu, nI_clamp (show i < 2 ^ 31 by omega), nI_clamp (show t < 2 ^ 31 by omega)])
  · have hw1 : oA (xT σ) 0 (nI n).toNatClampNeg = 3 := by rw [nI_clamp (show n < 2 ^ 31 by omega)]; exact hw0
    rw [hnu] at hl
    refine lv_tableIn (off := 105) (tgt := 134) F.1.1 F.1.2.1 d_Cel_carryOut_29 (by rw [hw1]; decide) (by rw [hw1]; decide) (by rw [hw1]; rfl) (by decide) ?_
    refine lv_aload_n F.1.1 F.1.2.1 d_Cel_carryOut_134 rfl (lv_at hl 2 rfl) ?_
    refine lv_iload_n F.1.1 F.1.2.1 d_Cel_carryOut_135 rfl (lv_at hl 0 rfl) ?_
    refine hw_call0 (hw_runV F hL hS hH hl (c_Cel_passYears l D L0 ad σ f0 hB n hI t ht) ck_Cel (hasO_o celE) rfl q_ml_Cel_232 q_im_Cel_passYears q_se_Cel_passYears q_in_Cel q_co_Cel_passYears rfl (k := 1) ⟨rfl, rfl, by decide +kernel, ⟨Nat.le_of_ble_eq_true rfl, Nat.le_of_ble_eq_true rfl⟩, Nat.le_of_ble_eq_true rfl⟩ rfl d_Cel_carryOut_136 ⟨Nat.le_of_ble_eq_true rfl, Nat.le_of_ble_eq_true rfl⟩) hS (fun H locs hH hS => ?_)
    refine lv_goto (tgt := 182) F.1.1 F.1.2.1 d_Cel_carryOut_139 (by decide) ?_
    exact hw_vret F hr hlocks hH hS d_Cel_carryOut_182 (by unfold actX; rw [if_neg (by rw [hw0]; decide), if_neg (by rw [hw0]; decide), if_neg (by rw [hw0]; decide), if_pos hw0, hnu, nI_clamp (by omega)])
  · have hw1 : oA (xT σ) 0 (nI n).toNatClampNeg = 4 := by rw [nI_clamp (show n < 2 ^ 31 by omega)]; exact hw0
    refine lv_tableIn (off := 113) (tgt := 142) F.1.1 F.1.2.1 d_Cel_carryOut_29 (by rw [hw1]; decide) (by rw [hw1]; decide) (by rw [hw1]; rfl) (by decide) ?_
    refine lv_aload_n F.1.1 F.1.2.1 d_Cel_carryOut_142 rfl (lv_at hl 2 rfl) ?_
    refine gX ck_Cel F (hH.to celE.symm) q_fl_Cel_23 (k := 1) (by decide) rfl d_Cel_carryOut_143 ?_
    refine lv_iload_n F.1.1 F.1.2.1 d_Cel_carryOut_146 rfl (lv_at hl 1 rfl) ?_
    refine hw_aaldR F hH (j := 0) rfl celP_2 (by rw [hpl]; exact vp_in_nI (by omega) (by omega)) (by rw [hpl, nI_clamp (by omega)]; exact if_pos hc) d_Cel_carryOut_147 ?_
    refine lv_dup F.1.1 F.1.2.1 d_Cel_carryOut_148 rfl ?_
    refine gIN ck_Col F (hH.to (celL hc hC.2).symm) q_fn_Cel_117 (k := 5) (by decide) rfl d_Cel_carryOut_149 ?_
    refine lv_iload_n F.1.1 F.1.2.1 d_Cel_carryOut_152 rfl (lv_at hl 0 rfl) ?_
    refine lv_iadd F.1.1 F.1.2.1 d_Cel_carryOut_153 ?_
    refine pIN ck_Col F (hH.to (celL hc hC.2).symm) hS q_fn_Cel_117 (k := 5) (by decide) rfl rfl rfl d_Cel_carryOut_154 (fun H locs hH hS => ?_)
    replace hH := hH.to (cel_L hc hC.2)
    refine lv_goto (tgt := 182) F.1.1 F.1.2.1 d_Cel_carryOut_157 (by decide) ?_
    exact hw_vret F hr hlocks hH hS d_Cel_carryOut_182 (by unfold actX; rw [if_neg (by rw [hw0]; decide), if_neg (by rw [hw0]; decide), if_neg (by rw [hw0]; decide), if_neg (by rw [hw0]; decide), if_pos hw0, hpl, nI_clamp (by omega)])
  · have hw1 : oA (xT σ) 0 (nI n).toNatClampNeg = 5 := by rw [nI_clamp (show n < 2 ^ 31 by omega)]; exact hw0
    refine lv_tableIn (off := 131) (tgt := 160) F.1.1 F.1.2.1 d_Cel_carryOut_29 (by rw [hw1]; decide) (by rw [hw1]; decide) (by rw [hw1]; rfl) (by decide) ?_
    refine lv_aload_n F.1.1 F.1.2.1 d_Cel_carryOut_160 rfl (lv_at hl 2 rfl) ?_
    refine lv_aload_n F.1.1 F.1.2.1 d_Cel_carryOut_161 rfl (lv_at hl 2 rfl) ?_
    refine gX ck_Cel F (hH.to celE.symm) q_fl_Cel_23 (k := 1) (by decide) rfl d_Cel_carryOut_162 ?_
    refine lv_iload_n F.1.1 F.1.2.1 d_Cel_carryOut_165 rfl (lv_at hl 1 rfl) ?_
    refine hw_aaldR F hH (j := 0) rfl celP_2 (by rw [hpl]; exact vp_in_nI (by omega) (by omega)) (by rw [hpl, nI_clamp (by omega)]; exact if_pos hc) d_Cel_carryOut_166 ?_
    refine lv_aload_n F.1.1 F.1.2.1 d_Cel_carryOut_167 rfl (lv_at hl 2 rfl) ?_
    refine gX ck_Cel F (hH.to celE.symm) q_fl_Cel_38 (k := 3) (by decide) rfl d_Cel_carryOut_168 ?_
    refine gRN ck_Tol F (hH.to celT.symm) q_fn_Cel_217 (k := 3) (by decide) rfl (by decide) d_Cel_carryOut_171 ?_
    refine lv_iload_n F.1.1 F.1.2.1 d_Cel_carryOut_174 rfl (lv_at hl 3 rfl) ?_
    refine lB F (hH.to celT.symm) rfl (vp_in_nI (by omega) (by omega)) d_Cel_carryOut_175 ?_
    refine hw_call0 (hw_runV F hL hS hH hl (c_Cel_compare l D L0 ad σ f0 hX i hc _) ck_Cel (hasO_o celE) rfl q_ml_Cel_235 q_im_Cel_compare q_se_Cel_compare q_in_Cel q_co_Cel_compare rfl (k := 2) ⟨rfl, rfl, by decide +kernel, ⟨Nat.le_of_ble_eq_true rfl, Nat.le_of_ble_eq_true rfl⟩, Nat.le_of_ble_eq_true rfl⟩ rfl d_Cel_carryOut_176 ⟨Nat.le_of_ble_eq_true rfl, Nat.le_of_ble_eq_true rfl⟩) hS (fun H locs hH hS => ?_)
    refine lv_goto (tgt := 182) F.1.1 F.1.2.1 d_Cel_carryOut_179 (by decide) ?_
    exact hw_vret F hr hlocks hH hS d_Cel_carryOut_182 (by unfold actX; rw [if_neg (by rw [hw0]; decide), if_neg (by rw [hw0]; decide), if_neg (by rw [hw0]; decide), if_neg (by rw [hw0]; decide), if_neg (by rw [hw0]; decide), if_pos hw0, hpl, nI_clamp (show n < 2 ^ 31 by omega), nI_clamp (show i < 2 ^ 31 by omega)])
