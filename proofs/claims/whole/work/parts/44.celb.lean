/-! CellSettling: done anew, told, fitted; printed by wip/gen/celb.py -/
def gd (σ : Xs) : Prop := xB σ ∧ vH (xT σ) (xC σ) (tc (xT σ))
def doX (σ : Xs) : Xs := repX σ (tc (xT σ))
def rs1 (σ : Xs) (i : Nat) : Xs := xsLs (xsE σ (sJ (sI (sI (xE σ) 8 0) 9 0) 10 0)) (fun c => if c < i then sI (sI (xL σ c) 4 0) 5 0 else xL σ c)
def rs2 (σ : Xs) (i : Nat) : Xs := xsKs (rs1 σ (xC σ)) (fun k => if k < i then sI (xK σ k) 2 0 else xK σ k)
theorem up_if {α : Type} {g h : Nat → α} {i : Nat} : va_up (fun c => if c < i then g c else h c) i (g i) = (fun c => if c < i + 1 then g c else h c) := by
  funext c
  by_cases hc : c = i
  · subst hc; rw [va_up_self, if_pos (by omega)]
  · rw [va_up_ne _ _ hc]
    by_cases h1 : c < i
    · rw [if_pos h1, if_pos (by omega)]
    · rw [if_neg h1, if_neg (by omega)]
theorem rs1_s {σ : Xs} {i : Nat} : xsL (rs1 σ i) i (sI (sI (xL (rs1 σ i) i) 4 0) 5 0) = rs1 σ (i + 1) := by
  have e : xL (rs1 σ i) i = xL σ i := if_neg (by omega)
  rw [e]
  exact congrArg (xsLs (xsE σ (sJ (sI (sI (xE σ) 8 0) 9 0) 10 0))) (up_if (g := fun c => sI (sI (xL σ c) 4 0) 5 0) (h := xL σ) (i := i))
theorem rs2_s {σ : Xs} {i : Nat} : xsK (rs2 σ i) i (sI (xK (rs2 σ i) i) 2 0) = rs2 σ (i + 1) := by
  have e : xK (rs2 σ i) i = xK σ i := if_neg (by omega)
  rw [e]
  exact congrArg (xsKs (rs1 σ (xC σ))) (up_if (g := fun k => sI (xK σ k) 2 0) (h := xK σ) (i := i))
def tlX (σ : Xs) (wh pl nu : Int32) (am th : Int64) : Xs := actX (xsT σ (adF (xT σ) (tc (xT σ)) wh pl nu am th)) (tc (xT σ))
theorem ad_tc {T : Ob} {n : Nat} {wh pl nu : Int32} {am th : Int64} (h : n < 200) : tc (adF T n wh pl nu am th) = n + 1 := by
  show (nI (n + 1)).toNatClampNeg = n + 1
  exact nI_clamp (by omega)
theorem tl_B {σ : Xs} {wh pl nu : Int32} {am th : Int64} (hB : xB σ) (h : tc (xT σ) < 200) : xB (xsT σ (adF (xT σ) (tc (xT σ)) wh pl nu am th)) :=
  ⟨hB.1, hB.2.1, hB.2.2.1, hB.2.2.2.1, hB.2.2.2.2.1, by show nI (tc (xT σ) + 1) = nI (tc (adF (xT σ) (tc (xT σ)) wh pl nu am th)); rw [ad_tc h], by show tc (adF (xT σ) (tc (xT σ)) wh pl nu am th) ≤ 200; rw [ad_tc h]; omega⟩
theorem ad_below {T : Ob} {n : Nat} {wh pl nu : Int32} {am th : Int64} {j : Nat} (h : j < n) : oA (adF T n wh pl nu am th) 0 j = oA T 0 j ∧ oA (adF T n wh pl nu am th) 1 j = oA T 1 j ∧ oA (adF T n wh pl nu am th) 2 j = oA T 2 j ∧ oB (adF T n wh pl nu am th) 3 j = oB T 3 j ∧ oB (adF T n wh pl nu am th) 4 j = oB T 4 j :=
  ⟨pk_un (by omega), pk_un (by omega), pk_un (by omega), pk_uLn (by omega), pk_uLn (by omega)⟩
theorem cL_ext {T T' : Ob} {c n : Nat} (h : ∀ j, j < n → oA T' 0 j = oA T 0 j ∧ oA T' 1 j = oA T 1 j) : cL T' c n = cL T c n := by
  induction n with
  | zero => rfl
  | succ n ih =>
    show _ + (if _ then _ else _) = _ + (if _ then _ else _)
    rw [ih (fun j hj => h j (by omega)), (h n (by omega)).1, (h n (by omega)).2]
theorem cR_ext {T T' : Ob} {c n : Nat} (h : ∀ j, j < n → oA T' 0 j = oA T 0 j ∧ oA T' 1 j = oA T 1 j) : cR T' c n = cR T c n := by
  induction n with
  | zero => rfl
  | succ n ih =>
    show _ + (if _ then _ else _) = _ + (if _ then _ else _)
    rw [ih (fun j hj => h j (by omega)), (h n (by omega)).1, (h n (by omega)).2]
theorem tl_LI {σ : Xs} {n : Nat} {wh pl nu : Int32} {am th : Int64} (hI : LI σ n) (hn : n ≤ tc (xT σ)) : LI (xsT σ (adF (xT σ) (tc (xT σ)) wh pl nu am th)) n := by
  have hb : ∀ j, j < n → oA (adF (xT σ) (tc (xT σ)) wh pl nu am th) 0 j = oA (xT σ) 0 j ∧ oA (adF (xT σ) (tc (xT σ)) wh pl nu am th) 1 j = oA (xT σ) 1 j := fun j hj => ⟨(ad_below (by omega)).1, (ad_below (by omega)).2.1⟩
  refine ⟨fun c hc => ?_, fun k hk => ?_⟩
  · show oI (xL σ c) 4 = nI (cL (adF (xT σ) (tc (xT σ)) wh pl nu am th) c n) ∧ cL (adF (xT σ) (tc (xT σ)) wh pl nu am th) c n ≤ 10 ∧ ∀ j, j < cL (adF (xT σ) (tc (xT σ)) wh pl nu am th) c n → _
    rw [cL_ext hb]
    exact hI.1 c hc
  · show oI (xK σ k) 2 = nI (cR (adF (xT σ) (tc (xT σ)) wh pl nu am th) k n) ∧ cR (adF (xT σ) (tc (xT σ)) wh pl nu am th) k n ≤ 4
    rw [cR_ext hb]
    exact hI.2 k hk
def stp (n : Nat) : Int32 := nI (100 * n) - 150
theorem stp_lt {n : Nat} (h : n ≤ 2) : stp n < -50 ↔ n = 0 := by
  rcases (show n = 0 ∨ n = 1 ∨ n = 2 by omega) with rfl | rfl | rfl <;> decide
theorem stp_s {n : Nat} : stp (n + 1) + Int32.ofInt (-100) = stp n := by
  unfold stp
  rw [show 100 * (n + 1) = 100 * n + 100 by omega, ← nI_add, show Int32.ofInt (-100) = -nI 100 from rfl]
  rw [Int32.sub_eq_add_neg, Int32.sub_eq_add_neg, Int32.add_assoc, Int32.add_assoc, Int32.add_comm (-150) (-nI 100), ← Int32.add_assoc (nI 100), Int32.add_right_neg, Int32.zero_add]
def lbR (fc : Int32) (k : Nat) (bf : Int64) : Nat → Xs → Int64 × Xs
  | 0, ρ => (bf, xsK ρ k (sI (xK ρ k) 4 fc))
  | n + 1, ρ => if wi (fc + stp (n + 1)).toInt64 0 3000 = 0 then lbR fc k bf n ρ else if oJ (xE (doX (xsK ρ k (sI (xK ρ k) 4 (fc + stp (n + 1)))))) 10 < bf then (oJ (xE (doX (xsK ρ k (sI (xK ρ k) 4 (fc + stp (n + 1)))))) 10, doX (xsK ρ k (sI (xK ρ k) 4 (fc + stp (n + 1))))) else lbR fc k bf n (doX (xsK ρ k (sI (xK ρ k) 4 (fc + stp (n + 1)))))
theorem lbR_o {fc : Int32} {k n : Nat} {bf : Int64} {ρ : Xs} (h : wi (fc + stp (n + 1)).toInt64 0 3000 = 0) : lbR fc k bf (n + 1) ρ = lbR fc k bf n ρ := if_pos h
theorem lbR_y {fc : Int32} {k n : Nat} {bf : Int64} {ρ : Xs} (h : ¬ wi (fc + stp (n + 1)).toInt64 0 3000 = 0) (h2 : oJ (xE (doX (xsK ρ k (sI (xK ρ k) 4 (fc + stp (n + 1)))))) 10 < bf) : lbR fc k bf (n + 1) ρ = (oJ (xE (doX (xsK ρ k (sI (xK ρ k) 4 (fc + stp (n + 1)))))) 10, doX (xsK ρ k (sI (xK ρ k) 4 (fc + stp (n + 1))))) := (if_neg h).trans (if_pos h2)
theorem lbR_n {fc : Int32} {k n : Nat} {bf : Int64} {ρ : Xs} (h : ¬ wi (fc + stp (n + 1)).toInt64 0 3000 = 0) (h2 : ¬ oJ (xE (doX (xsK ρ k (sI (xK ρ k) 4 (fc + stp (n + 1)))))) 10 < bf) : lbR fc k bf (n + 1) ρ = lbR fc k bf n (doX (xsK ρ k (sI (xK ρ k) 4 (fc + stp (n + 1))))) := (if_neg h).trans (if_neg h2)
theorem gd_fac {ρ : Xs} {k : Nat} {o : Ob} (h : gd ρ) : gd (xsK ρ k o) := h
theorem gd_do {ρ : Xs} (h : gd ρ) : gd (doX ρ) := by
  obtain ⟨h1, h2, -⟩ := rep_keep (σ := ρ) (i := tc (xT ρ))
  refine ⟨rep_B h.1, ?_⟩
  show vH (xT (repX ρ (tc (xT ρ)))) (xC (repX ρ (tc (xT ρ)))) (tc (xT (repX ρ (tc (xT ρ)))))
  rw [h1, h2]
  exact h.2
theorem gd_lb {fc : Int32} {k : Nat} {bf : Int64} {n : Nat} {ρ : Xs} (h : gd ρ) : gd (lbR fc k bf n ρ).2 := by
  induction n generalizing ρ with
  | zero => exact h
  | succ n ih =>
    by_cases h1 : wi (fc + stp (n + 1)).toInt64 0 3000 = 0
    · rw [lbR_o h1]; exact ih h
    · by_cases h2 : oJ (xE (doX (xsK ρ k (sI (xK ρ k) 4 (fc + stp (n + 1)))))) 10 < bf
      · rw [lbR_y h1 h2]; exact gd_do (gd_fac h)
      · rw [lbR_n h1 h2]; exact ih (gd_do (gd_fac h))
def fkX (le : Int64) (ρ : Xs) : Nat → Int64 × Xs
  | 0 => (le, ρ)
  | k + 1 => lbR (oI (xK (fkX le ρ k).2 k) 4) k (fkX le ρ k).1 2 (fkX le ρ k).2
def frX : Nat → Int64 → Xs → Nat → Xs × Nat
  | 0, _, ρ, cn => (ρ, cn)
  | n + 1, le, ρ, cn => if (fkX le ρ 4).1 < le then frX n (fkX le ρ 4).1 (fkX le ρ 4).2 (cn + 1) else ((fkX le ρ 4).2, cn)
theorem frX_y {r i : Nat} {le : Int64} {ρ : Xs} {cn : Nat} (hi : i < r) (h : (fkX le ρ 4).1 < le) : frX (r - i) le ρ cn = frX (r - (i + 1)) (fkX le ρ 4).1 (fkX le ρ 4).2 (cn + 1) := by
  rw [show r - i = (r - (i + 1)) + 1 by omega]; exact if_pos h
theorem frX_n {r i : Nat} {le : Int64} {ρ : Xs} {cn : Nat} (hi : i < r) (h : ¬ (fkX le ρ 4).1 < le) : frX (r - i) le ρ cn = ((fkX le ρ 4).2, cn) := by
  rw [show r - i = (r - (i + 1)) + 1 by omega]; exact if_neg h
theorem ix15 {x : Int32} (h : ¬ wi x.toInt64 1 5 = 0) : ∃ r, r ≤ 5 ∧ x = nI r := by
  rw [wi_1, Int64_le, Int64_le, i2l_toInt] at h
  obtain ⟨j, hj, e⟩ := vp_in_of (x := x) (n := 6) (vp_in_iff.mpr ⟨by have := h.1; simp at this; omega, by have := h.2; simp at this; omega⟩) (by omega)
  exact ⟨j, by omega, e⟩
set_option maxHeartbeats 1000000 in
theorem c_Cel_doAllAnew (l : Launch) (D : va_G) (L0 : Nat) (ad : Nat → Nat) (σ : Xs) (f0 : Nat → Option va_E) (hG : gd σ) : Met l y_Cel_doAllAnew (wd y_Cel_doAllAnew b_Cel_doAllAnew 2 none) { frames := 4, cells := 0, slots := 0, locals := 101 } (va_Pc [.ref (ad 0)] (cp D L0 ad (celP D ad σ f0))) (dt D L0 ad (none) (celP D ad (doX σ) f0)) 0 0 (fun q => L0 ≤ q) := by
  refine hw_met (by decide) (Nat.le_of_ble_eq_true rfl) ?_
  intro p e s m below meth c ls F hr hlocks hnm hL hH hS hl
  have hC := hG.1.1
  have htc := hG.1.2.2.2.2.2.2
  refine lv_aload_n F.1.1 F.1.2.1 d_Cel_doAllAnew_0 rfl (lv_at hl 0 rfl) ?_
  refine lv_iconst (v := 0) F.1.1 F.1.2.1 d_Cel_doAllAnew_1 (by decide) ?_
  refine pI ck_Cel F (hH.to celE.symm) hS q_fl_Cel_93 (k := 8) (by decide) rfl rfl rfl d_Cel_doAllAnew_2 (fun H locs hH hS => ?_)
  replace hH := hH.to cel_E
  refine lv_aload_n F.1.1 F.1.2.1 d_Cel_doAllAnew_5 rfl (lv_at hl 0 rfl) ?_
  refine lv_iconst (v := 0) F.1.1 F.1.2.1 d_Cel_doAllAnew_6 (by decide) ?_
  refine pI ck_Cel F (hH.to celE.symm) hS q_fl_Cel_100 (k := 9) (by decide) rfl rfl rfl d_Cel_doAllAnew_7 (fun H locs hH hS => ?_)
  replace hH := hH.to cel_E
  refine lv_aload_n F.1.1 F.1.2.1 d_Cel_doAllAnew_10 rfl (lv_at hl 0 rfl) ?_
  refine lv_lconst (v := 0) F.1.1 F.1.2.1 d_Cel_doAllAnew_11 (by decide) ?_
  refine pJ ck_Cel F (hH.to celE.symm) hS q_fl_Cel_180 (k := 10) (by decide) rfl rfl rfl d_Cel_doAllAnew_12 (fun H locs hH hS => ?_)
  replace hH := hH.to cel_E
  refine lv_iconst (v := 0) F.1.1 F.1.2.1 d_Cel_doAllAnew_15 (by decide) ?_
  refine lv_istore_n F.1.1 F.1.2.1 d_Cel_doAllAnew_16 rfl hl (by decide) rfl (fun ls hl => ?_)
  have L17 : ∀ (u : Nat) (i : Nat) (H : Heap) (locs : List Loc) (ls : Array Slot), (i ≤ xC σ) → xC σ - i < u → hw D L0 ad (celP D ad (rs1 σ i) f0) H → va_S (fun q => L0 ≤ q) s.heap H locs → lv_has ls 2 [(0, .ref (ad 0)), (1, .int (nI i))] → W p l e { frames := 4, cells := 0, slots := 0, locals := 101 } s m [.ref (ad 0)].toArray below meth c H locs 0 0 (MQ below (dt D L0 ad (none) (celP D ad (doX σ) f0)) [.ref (ad 0)].toArray s 0 0 (fun q => L0 ≤ q)) (F0 m 17 ls []) := by
    intro u
    induction u with
    | zero => intros; exact absurd ‹(_ : Nat) < 0› (Nat.not_lt_zero _)
    | succ u ih17 =>
      intro i H locs ls hi hu hH hS hl
      refine lv_iload_n F.1.1 F.1.2.1 d_Cel_doAllAnew_17 rfl (lv_at hl 1 rfl) ?_
      refine lv_aload_n F.1.1 F.1.2.1 d_Cel_doAllAnew_18 rfl (lv_at hl 0 rfl) ?_
      refine gX ck_Cel F (hH.to celE.symm) q_fl_Cel_23 (k := 1) (by decide) rfl d_Cel_doAllAnew_19 ?_
      refine hw_alen F hH (tysOf_obj D (j := 0) rfl) celP_2 (v := nI (xC σ)) rfl d_Cel_doAllAnew_22 ?_
      refine lv_icmp_ge (tgt := 41) F.1.1 F.1.2.1 d_Cel_doAllAnew_23 (by decide) (fun c23 => ?_) (fun c23 => ?_)
      · have hin := (nI_leI (by omega) (by omega)).mp c23
        refine lv_iconst (v := 0) F.1.1 F.1.2.1 d_Cel_doAllAnew_41 (by decide) ?_
        refine lv_istore_n F.1.1 F.1.2.1 d_Cel_doAllAnew_42 rfl hl (by decide) rfl (fun ls hl => ?_)
        have L43 : ∀ (u : Nat) (i : Nat) (H : Heap) (locs : List Loc) (ls : Array Slot), (i ≤ 4) → 4 - i < u → hw D L0 ad (celP D ad (rs2 σ i) f0) H → va_S (fun q => L0 ≤ q) s.heap H locs → lv_has ls 2 [(0, .ref (ad 0)), (1, .int (nI i))] → W p l e { frames := 4, cells := 0, slots := 0, locals := 101 } s m [.ref (ad 0)].toArray below meth c H locs 0 0 (MQ below (dt D L0 ad (none) (celP D ad (doX σ) f0)) [.ref (ad 0)].toArray s 0 0 (fun q => L0 ≤ q)) (F0 m 43 ls []) := by
          intro u
          induction u with
          | zero => intros; exact absurd ‹(_ : Nat) < 0› (Nat.not_lt_zero _)
          | succ u ih43 =>
            intro i H locs ls hi hu hH hS hl
            refine lv_iload_n F.1.1 F.1.2.1 d_Cel_doAllAnew_43 rfl (lv_at hl 1 rfl) ?_
            refine lv_iconst (v := 4) F.1.1 F.1.2.1 d_Cel_doAllAnew_44 (by decide) ?_
            refine lv_icmp_ge (tgt := 63) F.1.1 F.1.2.1 d_Cel_doAllAnew_45 (by decide) (fun c45 => ?_) (fun c45 => ?_)
            · have hin : 4 ≤ i := (nI_leI (by omega) (by omega)).mp (show nI 4 ≤ nI i from c45)
              refine lv_iconst (v := 0) F.1.1 F.1.2.1 d_Cel_doAllAnew_63 (by decide) ?_
              refine lv_istore_n F.1.1 F.1.2.1 d_Cel_doAllAnew_64 rfl hl (by decide) rfl (fun ls hl => ?_)
              have L65 : ∀ (u : Nat) (i : Nat) (H : Heap) (locs : List Loc) (ls : Array Slot), (i ≤ tc (xT σ)) → tc (xT σ) - i < u → hw D L0 ad (celP D ad (repX σ i) f0) H → va_S (fun q => L0 ≤ q) s.heap H locs → lv_has ls 2 [(0, .ref (ad 0)), (1, .int (nI i))] → W p l e { frames := 4, cells := 0, slots := 0, locals := 101 } s m [.ref (ad 0)].toArray below meth c H locs 0 0 (MQ below (dt D L0 ad (none) (celP D ad (doX σ) f0)) [.ref (ad 0)].toArray s 0 0 (fun q => L0 ≤ q)) (F0 m 65 ls []) := by
                intro u
                induction u with
                | zero => intros; exact absurd ‹(_ : Nat) < 0› (Nat.not_lt_zero _)
                | succ u ih65 =>
                  intro i H locs ls hi hu hH hS hl
                  refine lv_iload_n F.1.1 F.1.2.1 d_Cel_doAllAnew_65 rfl (lv_at hl 1 rfl) ?_
                  refine lv_aload_n F.1.1 F.1.2.1 d_Cel_doAllAnew_66 rfl (lv_at hl 0 rfl) ?_
                  refine gX ck_Cel F (hH.to celE.symm) q_fl_Cel_38 (k := 3) (by decide) rfl d_Cel_doAllAnew_67 ?_
                  refine gIN ck_Tol F (hH.to celT.symm) q_fn_Cel_197 (k := 5) (by decide) rfl d_Cel_doAllAnew_70 ?_
                  refine lv_icmp_ge (tgt := 87) F.1.1 F.1.2.1 d_Cel_doAllAnew_73 (by decide) (fun c73 => ?_) (fun c73 => ?_)
                  · rw [rep_keep.1, hG.1.2.2.2.2.2.1] at c73
                    have hin := (nI_leI (by omega) (by omega)).mp c73
                    exact hw_vret F hr hlocks hH hS d_Cel_doAllAnew_87 (by unfold doX; rw [show i = tc (xT σ) by omega])
                  · rw [rep_keep.1, hG.1.2.2.2.2.2.1] at c73
                    have hin : i < tc (xT σ) := by
                      rcases Nat.lt_or_ge (i) (tc (xT σ)) with q | q
                      · exact q
                      · exact absurd (nI_le q (by omega)) c73
                    refine lv_aload_n F.1.1 F.1.2.1 d_Cel_doAllAnew_76 rfl (lv_at hl 0 rfl) ?_
                    refine lv_iload_n F.1.1 F.1.2.1 d_Cel_doAllAnew_77 rfl (lv_at hl 1 rfl) ?_
                    refine hw_call0 (hw_runV F hL hS hH hl (c_Cel_carryOut l D L0 ad (repX σ i) f0 (rep_B hG.1) i (by omega) (rep_LI hG.1 hG.2 (by omega)) (by rw [rep_keep.1, rep_keep.2.1]; exact hG.2 i hin)) ck_Cel (hasO_o celE) rfl q_ml_Cel_200 q_im_Cel_carryOut q_se_Cel_carryOut q_in_Cel q_co_Cel_carryOut rfl (k := 1) ⟨rfl, rfl, by decide +kernel, ⟨Nat.le_of_ble_eq_true rfl, Nat.le_of_ble_eq_true rfl⟩, Nat.le_of_ble_eq_true rfl⟩ rfl d_Cel_doAllAnew_78 ⟨Nat.le_of_ble_eq_true rfl, Nat.le_of_ble_eq_true rfl⟩) hS (fun H locs hH hS => ?_)
                    refine lv_iinc F.1.1 F.1.2.1 d_Cel_doAllAnew_81 hl (k := 1) rfl rfl (by decide) rfl (fun ls hl => ?_)
                    refine lv_goto (tgt := 65) F.1.1 F.1.2.1 d_Cel_doAllAnew_84 (by decide) ?_
                    refine ih65 (i + 1) H locs ls (by omega) (by omega) hH hS (lv_sub hl [1, 0] ?_)
                    show [_, _] = [_, _]
                    rw [ii1]
                    first | done | rfl
              exact L65 (tc (xT σ) - 0 + 1) 0 H locs ls (Nat.zero_le _) (Nat.lt_succ_self _) (hH.to (by rw [show i = 4 by omega]; rfl)) hS (lv_sub hl [1, 0] rfl)
            · have hin : i < 4 := by
                rcases Nat.lt_or_ge i 4 with q | q
                · exact q
                · exact absurd (show nI 4 ≤ nI i from nI_le q (by omega)) c45
              refine lv_aload_n F.1.1 F.1.2.1 d_Cel_doAllAnew_48 rfl (lv_at hl 0 rfl) ?_
              refine gX ck_Cel F (hH.to celE.symm) q_fl_Cel_30 (k := 2) (by decide) rfl d_Cel_doAllAnew_49 ?_
              refine lv_iload_n F.1.1 F.1.2.1 d_Cel_doAllAnew_52 rfl (lv_at hl 1 rfl) ?_
              refine hw_aaldR F hH (j := 1) rfl celP_3 (vp_in_nI (by omega) (by omega)) (show rfA ad 32 4 _ = some (ad (32 + 8 * i)) from by rw [nI_clamp (by omega)]; exact if_pos hin) d_Cel_doAllAnew_53 ?_
              refine hw_call0 (hw_runV F hL hS hH hl (c_Kin_forgetRows l D L0 ad (32 + 8 * i) (xK (rs2 σ i) i) _ (celK hin)) ck_Kin (hasO_o (celK hin)) rfl q_ml_Cel_194 q_im_Kin_forgetRows q_se_Kin_forgetRows q_in_Kin q_co_Kin_forgetRows rfl (k := 0) ⟨rfl, rfl, by decide +kernel, ⟨Nat.le_of_ble_eq_true rfl, Nat.le_of_ble_eq_true rfl⟩, Nat.le_of_ble_eq_true rfl⟩ rfl d_Cel_doAllAnew_54 ⟨Nat.le_of_ble_eq_true rfl, Nat.le_of_ble_eq_true rfl⟩) hS (fun H locs hH hS => ?_)
              replace hH := hH.to (cel_K hin)
              refine lv_iinc F.1.1 F.1.2.1 d_Cel_doAllAnew_57 hl (k := 1) rfl rfl (by decide) rfl (fun ls hl => ?_)
              refine lv_goto (tgt := 43) F.1.1 F.1.2.1 d_Cel_doAllAnew_60 (by decide) ?_
              refine ih43 (i + 1) H locs ls (by omega) (by omega) (hH.to (by rw [rs2_s])) hS (lv_sub hl [1, 0] ?_)
              show [_, _] = [_, _]
              rw [ii1]
              first | done | rfl
        exact L43 (4 - 0 + 1) 0 H locs ls (Nat.zero_le _) (Nat.lt_succ_self _) (hH.to (by rw [show i = xC σ by omega]; rfl)) hS (lv_sub hl [1, 0] rfl)
      · have hin : i < xC σ := by
          rcases Nat.lt_or_ge (i) (xC σ) with q | q
          · exact q
          · exact absurd (nI_le q (by omega)) c23
        refine lv_aload_n F.1.1 F.1.2.1 d_Cel_doAllAnew_26 rfl (lv_at hl 0 rfl) ?_
        refine gX ck_Cel F (hH.to celE.symm) q_fl_Cel_23 (k := 1) (by decide) rfl d_Cel_doAllAnew_27 ?_
        refine lv_iload_n F.1.1 F.1.2.1 d_Cel_doAllAnew_30 rfl (lv_at hl 1 rfl) ?_
        refine hw_aaldR F hH (j := 0) rfl celP_2 (show vp_in (nI i) (xC σ) from vp_in_nI (by omega) (by omega)) (show rfA ad 64 (xC σ) _ = some (ad (64 + 8 * i)) from by rw [nI_clamp (by omega)]; exact if_pos hin) d_Cel_doAllAnew_31 ?_
        refine hw_call0 (hw_runV F hL hS hH hl (c_Col_empty l D L0 ad (64 + 8 * i) (xL (rs1 σ i) i) _ (celL hin hC.2)) ck_Col (hasO_o (celL hin hC.2)) rfl q_ml_Cel_191 q_im_Col_empty q_se_Col_empty q_in_Col q_co_Col_empty rfl (k := 0) ⟨rfl, rfl, by decide +kernel, ⟨Nat.le_of_ble_eq_true rfl, Nat.le_of_ble_eq_true rfl⟩, Nat.le_of_ble_eq_true rfl⟩ rfl d_Cel_doAllAnew_32 ⟨Nat.le_of_ble_eq_true rfl, Nat.le_of_ble_eq_true rfl⟩) hS (fun H locs hH hS => ?_)
        replace hH := hH.to (cel_L hin hC.2)
        refine lv_iinc F.1.1 F.1.2.1 d_Cel_doAllAnew_35 hl (k := 1) rfl rfl (by decide) rfl (fun ls hl => ?_)
        refine lv_goto (tgt := 17) F.1.1 F.1.2.1 d_Cel_doAllAnew_38 (by decide) ?_
        refine ih17 (i + 1) H locs ls (by omega) (by omega) (hH.to (by rw [rs1_s])) hS (lv_sub hl [1, 0] ?_)
        show [_, _] = [_, _]
        rw [ii1]
        first | done | rfl
  exact L17 (xC σ - 0 + 1) 0 H locs ls (Nat.zero_le _) (Nat.lt_succ_self _) hH hS (lv_sub hl [1, 0] rfl)
set_option maxHeartbeats 1000000 in
theorem c_Cel_tell (l : Launch) (D : va_G) (L0 : Nat) (ad : Nat → Nat) (σ : Xs) (f0 : Nat → Option va_E) (hB : xB σ) (hI : LI σ (tc (xT σ))) (hn2 : tc (xT σ) < 200) (wh pl nu : Int32) (am th : Int64) (hE : EvS (adF (xT σ) (tc (xT σ)) wh pl nu am th) (xC σ) (tc (xT σ))) : Met l y_Cel_tell (wd y_Cel_tell b_Cel_tell 8 none) { frames := 4, cells := 0, slots := 0, locals := 101 } (va_Pc [.ref (ad 0), .int wh, .int pl, .int nu, .long am, .long th] (cp D L0 ad (celP D ad σ f0))) (dt D L0 ad (none) (celP D ad (tlX σ wh pl nu am th) f0)) 0 0 (fun q => L0 ≤ q) := by
  refine hw_met (by decide) (Nat.le_of_ble_eq_true rfl) ?_
  intro p e s m below meth c ls F hr hlocks hnm hL hH hS hl
  refine lv_aload_n F.1.1 F.1.2.1 d_Cel_tell_0 rfl (lv_at hl 0 rfl) ?_
  refine gX ck_Cel F (hH.to celE.symm) q_fl_Cel_38 (k := 3) (by decide) rfl d_Cel_tell_1 ?_
  refine lv_iload_n F.1.1 F.1.2.1 d_Cel_tell_4 rfl (lv_at hl 1 rfl) ?_
  refine lv_iload_n F.1.1 F.1.2.1 d_Cel_tell_5 rfl (lv_at hl 2 rfl) ?_
  refine lv_iload_n F.1.1 F.1.2.1 d_Cel_tell_6 rfl (lv_at hl 3 rfl) ?_
  refine lv_lload F.1.1 F.1.2.1 d_Cel_tell_7 (lv_at hl 4 rfl) ?_
  refine lv_lload F.1.1 F.1.2.1 d_Cel_tell_9 (lv_at hl 5 rfl) ?_
  refine hw_call0 (hw_runV F hL hS hH hl (c_Tol_add l D L0 ad 16 (xT σ) _ celT wh pl nu am th (tc (xT σ)) hB.2.2.2.2.2.1 hn2) ck_Tol (hasO_o celT) rfl q_ml_Cel_204 q_im_Tol_add q_se_Tol_add q_in_Tol q_co_Tol_add rfl (k := 5) ⟨rfl, rfl, by decide +kernel, ⟨Nat.le_of_ble_eq_true rfl, Nat.le_of_ble_eq_true rfl⟩, Nat.le_of_ble_eq_true rfl⟩ rfl d_Cel_tell_11 ⟨Nat.le_of_ble_eq_true rfl, Nat.le_of_ble_eq_true rfl⟩) hS (fun H locs hH hS => ?_)
  replace hH := hH.to cel_T
  refine lv_aload_n F.1.1 F.1.2.1 d_Cel_tell_14 rfl (lv_at hl 0 rfl) ?_
  refine lv_aload_n F.1.1 F.1.2.1 d_Cel_tell_15 rfl (lv_at hl 0 rfl) ?_
  refine gX ck_Cel F (hH.to celE.symm) q_fl_Cel_38 (k := 3) (by decide) rfl d_Cel_tell_16 ?_
  refine gIN ck_Tol F (hH.to celT.symm) q_fn_Cel_197 (k := 5) (by decide) rfl d_Cel_tell_19 ?_
  refine lv_iconst (v := 1) F.1.1 F.1.2.1 d_Cel_tell_22 (by decide) ?_
  refine lv_isub F.1.1 F.1.2.1 d_Cel_tell_23 ?_
  rw [show oI (xT (xsT σ (adF (xT σ) (tc (xT σ)) wh pl nu am th))) 5 - 1 = nI (tc (xT σ)) from nI_pred _]
  refine hw_call0 (hw_runV F hL hS hH hl (c_Cel_carryOut l D L0 ad _ f0 (tl_B hB hn2) (tc (xT σ)) hn2 (tl_LI hI (by omega)) hE) ck_Cel (hasO_o celE) rfl q_ml_Cel_200 q_im_Cel_carryOut q_se_Cel_carryOut q_in_Cel q_co_Cel_carryOut rfl (k := 1) ⟨rfl, rfl, by decide +kernel, ⟨Nat.le_of_ble_eq_true rfl, Nat.le_of_ble_eq_true rfl⟩, Nat.le_of_ble_eq_true rfl⟩ rfl d_Cel_tell_24 ⟨Nat.le_of_ble_eq_true rfl, Nat.le_of_ble_eq_true rfl⟩) hS (fun H locs hH hS => ?_)
  exact hw_vret F hr hlocks hH hS d_Cel_tell_27 rfl
set_option maxHeartbeats 1000000 in
theorem c_Cel_leastByKind (l : Launch) (D : va_G) (L0 : Nat) (ad : Nat → Nat) (σ : Xs) (f0 : Nat → Option va_E) (hG : gd σ) (k : Nat) (hk : k < 4) (bf : Int64) : Met l y_Cel_leastByKind (wd y_Cel_leastByKind b_Cel_leastByKind 6 (some .long)) { frames := 5, cells := 0, slots := 0, locals := 122 } (va_Pc [.ref (ad 0), .ref (ad (32 + 8 * k)), .long bf] (cp D L0 ad (celP D ad σ f0))) (dt D L0 ad (some (.long (lbR (oI (xK σ k) 4) k bf 2 σ).1)) (celP D ad (lbR (oI (xK σ k) 4) k bf 2 σ).2 f0)) 0 0 (fun q => L0 ≤ q) := by
  refine hw_met (by decide) (Nat.le_of_ble_eq_true rfl) ?_
  intro p e s m below meth c ls F hr hlocks hnm hL hH hS hl
  refine lv_aload_n F.1.1 F.1.2.1 d_Cel_leastByKind_0 rfl (lv_at hl 1 rfl) ?_
  refine gIN ck_Kin F (hH.to (celK hk).symm) q_fn_Cel_177 (k := 4) (by decide) rfl d_Cel_leastByKind_1 ?_
  refine lv_istore F.1.1 F.1.2.1 d_Cel_leastByKind_4 hl (by decide) rfl (fun ls hl => ?_)
  refine lv_bipush (v := 50) F.1.1 F.1.2.1 d_Cel_leastByKind_6 (by decide) ?_
  refine lv_istore F.1.1 F.1.2.1 d_Cel_leastByKind_8 hl (by decide) rfl (fun ls hl => ?_)
  have L10 : ∀ (u : Nat) (n : Nat) (ρ : Xs) (H : Heap) (locs : List Loc) (ls : Array Slot), (n ≤ 2) → (gd ρ) → (lbR (oI (xK σ k) 4) k bf n ρ = lbR (oI (xK σ k) 4) k bf 2 σ) → n < u → hw D L0 ad (celP D ad ρ f0) H → va_S (fun q => L0 ≤ q) s.heap H locs → lv_has ls 6 [(0, .ref (ad 0)), (1, .ref (ad (32 + 8 * k))), (2, .long bf), (4, .int (oI (xK σ k) 4)), (5, .int (stp n))] → W p l e { frames := 5, cells := 0, slots := 0, locals := 122 } s m [.ref (ad 0), .ref (ad (32 + 8 * k)), .long bf].toArray below meth c H locs 0 0 (MQ below (dt D L0 ad (some (.long (lbR (oI (xK σ k) 4) k bf 2 σ).1)) (celP D ad (lbR (oI (xK σ k) 4) k bf 2 σ).2 f0)) [.ref (ad 0), .ref (ad (32 + 8 * k)), .long bf].toArray s 0 0 (fun q => L0 ≤ q)) (F0 m 10 ls []) := by
    intro u
    induction u with
    | zero => intros; exact absurd ‹(_ : Nat) < 0› (Nat.not_lt_zero _)
    | succ u ih10 =>
      intro n ρ H locs ls hn hg he hu hH hS hl
      refine lv_iload F.1.1 F.1.2.1 d_Cel_leastByKind_10 (lv_at hl 4 rfl) ?_
      refine lv_bipush (v := -50) F.1.1 F.1.2.1 d_Cel_leastByKind_12 (by decide) ?_
      refine lv_icmp_lt (tgt := 66) F.1.1 F.1.2.1 d_Cel_leastByKind_14 (by decide) (fun c14 => ?_) (fun c14 => ?_)
      · have h0 : n = 0 := (stp_lt hn).mp c14
        subst h0
        refine lv_aload_n F.1.1 F.1.2.1 d_Cel_leastByKind_66 rfl (lv_at hl 1 rfl) ?_
        refine lv_iload F.1.1 F.1.2.1 d_Cel_leastByKind_67 (lv_at hl 3 rfl) ?_
        refine pIN ck_Kin F (hH.to (celK hk).symm) hS q_fn_Cel_177 (k := 4) (by decide) rfl rfl rfl d_Cel_leastByKind_69 (fun H locs hH hS => ?_)
        replace hH := hH.to (cel_K hk)
        refine lv_lload_n F.1.1 F.1.2.1 d_Cel_leastByKind_72 rfl (lv_at hl 2 rfl) ?_
        exact hw_lret F hr hlocks hH hS d_Cel_leastByKind_73 (by rw [← he]; rfl) (by rw [← he]; rfl)
      · obtain ⟨j, rfl⟩ : ∃ j, n = j + 1 := ⟨n - 1, by have : n ≠ 0 := fun q => c14 ((stp_lt hn).mpr q); omega⟩
        refine lv_iload F.1.1 F.1.2.1 d_Cel_leastByKind_17 (lv_at hl 3 rfl) ?_
        refine lv_iload F.1.1 F.1.2.1 d_Cel_leastByKind_19 (lv_at hl 4 rfl) ?_
        refine lv_iadd F.1.1 F.1.2.1 d_Cel_leastByKind_21 ?_
        refine lv_i2l F.1.1 F.1.2.1 d_Cel_leastByKind_22 rfl ?_
        refine lv_lconst (v := 0) F.1.1 F.1.2.1 d_Cel_leastByKind_23 (by decide) ?_
        refine lv_ldc2 F.1.1 F.1.2.1 F.1.2.2.2.1 (F.1.2.2.2.2 _ q_cl_Cel_58) d_Cel_leastByKind_24 ?_
        refine hw_call1 (hw_runS F hL hS hH hl (c_Cel_isWithin l D L0 ad _ _ _ _) q_ml_Cel_11 q_st_Cel_isWithin q_in_Cel q_co_Cel_isWithin rfl (k := 3) ⟨rfl, rfl, by decide +kernel, ⟨Nat.le_of_ble_eq_true rfl, Nat.le_of_ble_eq_true rfl⟩, Nat.le_of_ble_eq_true rfl⟩ rfl d_Cel_leastByKind_27 ⟨Nat.le_of_ble_eq_true rfl, Nat.le_of_ble_eq_true rfl⟩) hS (fun H locs hH hS => ?_)
        refine lv_if_eq (tgt := 60) F.1.1 F.1.2.1 d_Cel_leastByKind_30 (by decide) (fun c30 => ?_) (fun c30 => ?_)
        · refine lv_iinc F.1.1 F.1.2.1 d_Cel_leastByKind_60 hl (k := 4) rfl rfl (by decide) rfl (fun ls hl => ?_)
          refine lv_goto (tgt := 10) F.1.1 F.1.2.1 d_Cel_leastByKind_63 (by decide) ?_
          exact ih10 j _ H locs ls (by omega) hg (by rw [← he, lbR_o c30]) (by omega) hH hS (lv_sub hl [1, 2, 3, 4, 0] (by show [_, _, _, _, _] = [_, _, _, _, _]; rw [stp_s]; first | done | rfl))
        · refine lv_aload_n F.1.1 F.1.2.1 d_Cel_leastByKind_33 rfl (lv_at hl 1 rfl) ?_
          refine lv_iload F.1.1 F.1.2.1 d_Cel_leastByKind_34 (lv_at hl 3 rfl) ?_
          refine lv_iload F.1.1 F.1.2.1 d_Cel_leastByKind_36 (lv_at hl 4 rfl) ?_
          refine lv_iadd F.1.1 F.1.2.1 d_Cel_leastByKind_38 ?_
          refine pIN ck_Kin F (hH.to (celK hk).symm) hS q_fn_Cel_177 (k := 4) (by decide) rfl rfl rfl d_Cel_leastByKind_39 (fun H locs hH hS => ?_)
          replace hH := hH.to (cel_K hk)
          refine lv_aload_n F.1.1 F.1.2.1 d_Cel_leastByKind_42 rfl (lv_at hl 0 rfl) ?_
          refine hw_call0 (hw_runV F hL hS hH hl (c_Cel_doAllAnew l D L0 ad _ f0 (gd_fac hg)) ck_Cel (hasO_o celE) rfl q_ml_Cel_188 q_im_Cel_doAllAnew q_se_Cel_doAllAnew q_in_Cel q_co_Cel_doAllAnew rfl (k := 0) ⟨rfl, rfl, by decide +kernel, ⟨Nat.le_of_ble_eq_true rfl, Nat.le_of_ble_eq_true rfl⟩, Nat.le_of_ble_eq_true rfl⟩ rfl d_Cel_leastByKind_43 ⟨Nat.le_of_ble_eq_true rfl, Nat.le_of_ble_eq_true rfl⟩) hS (fun H locs hH hS => ?_)
          refine lv_aload_n F.1.1 F.1.2.1 d_Cel_leastByKind_46 rfl (lv_at hl 0 rfl) ?_
          refine gJ ck_Cel F (hH.to celE.symm) q_fl_Cel_180 (k := 10) (by decide) rfl d_Cel_leastByKind_47 ?_
          refine lv_lload_n F.1.1 F.1.2.1 d_Cel_leastByKind_50 rfl (lv_at hl 2 rfl) ?_
          refine W.lcmp F.1.1 F.1.2.1 d_Cel_leastByKind_51 ?_
          refine lv_if_ge (tgt := 60) F.1.1 F.1.2.1 d_Cel_leastByKind_52 (by decide) (fun c52 => ?_) (fun c52 => ?_)
          · rw [lg_cmp_ge] at c52
            refine lv_iinc F.1.1 F.1.2.1 d_Cel_leastByKind_60 hl (k := 4) rfl rfl (by decide) rfl (fun ls hl => ?_)
            refine lv_goto (tgt := 10) F.1.1 F.1.2.1 d_Cel_leastByKind_63 (by decide) ?_
            exact ih10 j _ H locs ls (by omega) (gd_do (gd_fac hg)) (by rw [← he, lbR_n c30 (Int64.not_lt.mpr c52)]) (by omega) hH hS (lv_sub hl [1, 2, 3, 4, 0] (by show [_, _, _, _, _] = [_, _, _, _, _]; rw [stp_s]; first | done | rfl))
          · rw [lg_cmp_ge] at c52
            refine lv_aload_n F.1.1 F.1.2.1 d_Cel_leastByKind_55 rfl (lv_at hl 0 rfl) ?_
            refine gJ ck_Cel F (hH.to celE.symm) q_fl_Cel_180 (k := 10) (by decide) rfl d_Cel_leastByKind_56 ?_
            exact hw_lret F hr hlocks hH hS d_Cel_leastByKind_59 (by rw [← he, lbR_y c30 (Int64.not_le.mp c52)]) (by rw [← he, lbR_y c30 (Int64.not_le.mp c52)])
  exact L10 3 2 σ s.heap [] ls (Nat.le_refl 2) hG rfl (by omega) hH hS (lv_sub hl [2, 3, 4, 1, 0] rfl)
set_option maxHeartbeats 1000000 in
theorem c_Cel_fit (l : Launch) (D : va_G) (L0 : Nat) (ad : Nat → Nat) (σ : Xs) (f0 : Nat → Option va_E) (hG : gd σ) (rounds : Int32) : Met l y_Cel_fit (wd y_Cel_fit b_Cel_fit 9 (some .int)) { frames := 6, cells := 0, slots := 0, locals := 147 } (va_Pc [.ref (ad 0), .int rounds] (cp D L0 ad (celP D ad σ f0))) (dt D L0 ad (some (.int (if wi rounds.toInt64 1 5 = 0 then -1 else nI (frX rounds.toNatClampNeg (oJ (xE σ) 10) σ 0).2))) (celP D ad (if wi rounds.toInt64 1 5 = 0 then σ else doX (frX rounds.toNatClampNeg (oJ (xE σ) 10) σ 0).1) f0)) 0 0 (fun q => L0 ≤ q) := by
  refine hw_met (by decide) (Nat.le_of_ble_eq_true rfl) ?_
  intro p e s m below meth c ls F hr hlocks hnm hL hH hS hl
  refine lv_iload_n F.1.1 F.1.2.1 d_Cel_fit_0 rfl (lv_at hl 1 rfl) ?_
  refine lv_i2l F.1.1 F.1.2.1 d_Cel_fit_1 rfl ?_
  refine lv_lconst (v := 1) F.1.1 F.1.2.1 d_Cel_fit_2 (by decide) ?_
  refine lv_ldc2 F.1.1 F.1.2.1 F.1.2.2.2.1 (F.1.2.2.2.2 _ q_cl_Cel_183) d_Cel_fit_3 ?_
  refine hw_call1 (hw_runS F hL hS hH hl (c_Cel_isWithin l D L0 ad _ _ _ _) q_ml_Cel_11 q_st_Cel_isWithin q_in_Cel q_co_Cel_isWithin rfl (k := 3) ⟨rfl, rfl, by decide +kernel, ⟨Nat.le_of_ble_eq_true rfl, Nat.le_of_ble_eq_true rfl⟩, Nat.le_of_ble_eq_true rfl⟩ rfl d_Cel_fit_6 ⟨Nat.le_of_ble_eq_true rfl, Nat.le_of_ble_eq_true rfl⟩) hS (fun H locs hH hS => ?_)
  refine lv_if_ne (tgt := 14) F.1.1 F.1.2.1 d_Cel_fit_9 (by decide) (fun c9 => ?_) (fun c9 => ?_)
  · obtain ⟨r, hr5, rfl⟩ := ix15 c9
    refine lv_aload_n F.1.1 F.1.2.1 d_Cel_fit_14 rfl (lv_at hl 0 rfl) ?_
    refine gJ ck_Cel F (hH.to celE.symm) q_fl_Cel_180 (k := 10) (by decide) rfl d_Cel_fit_15 ?_
    refine lv_lstore_n F.1.1 F.1.2.1 d_Cel_fit_18 rfl hl (by decide) rfl (fun ls hl => ?_)
    refine lv_iconst (v := 0) F.1.1 F.1.2.1 d_Cel_fit_19 (by decide) ?_
    refine lv_istore F.1.1 F.1.2.1 d_Cel_fit_20 hl (by decide) rfl (fun ls hl => ?_)
    refine lv_iconst (v := 0) F.1.1 F.1.2.1 d_Cel_fit_22 (by decide) ?_
    refine lv_istore F.1.1 F.1.2.1 d_Cel_fit_23 hl (by decide) rfl (fun ls hl => ?_)
    have L25 : ∀ (u : Nat) (i : Nat) (le : Int64) (ρ : Xs) (cn : Nat) (H : Heap) (locs : List Loc) (ls : Array Slot), (i ≤ r) → (gd ρ) → (frX (r - i) le ρ cn = frX r (oJ (xE σ) 10) σ 0) → r - i < u → hw D L0 ad (celP D ad ρ f0) H → va_S (fun q => L0 ≤ q) s.heap H locs → lv_has ls 9 [(0, .ref (ad 0)), (1, .int (nI r)), (2, .long le), (4, .int (nI cn)), (5, .int (nI i))] → W p l e { frames := 6, cells := 0, slots := 0, locals := 147 } s m [.ref (ad 0), .int (nI r)].toArray below meth c H locs 0 0 (MQ below (dt D L0 ad (some (.int (if wi (nI r).toInt64 1 5 = 0 then -1 else nI (frX (nI r).toNatClampNeg (oJ (xE σ) 10) σ 0).2))) (celP D ad (if wi (nI r).toInt64 1 5 = 0 then σ else doX (frX (nI r).toNatClampNeg (oJ (xE σ) 10) σ 0).1) f0)) [.ref (ad 0), .int (nI r)].toArray s 0 0 (fun q => L0 ≤ q)) (F0 m 25 ls []) := by
      intro u
      induction u with
      | zero => intros; exact absurd ‹(_ : Nat) < 0› (Nat.not_lt_zero _)
      | succ u ih25 =>
        intro i le ρ cn H locs ls hi hg he hu hH hS hl
        refine lv_iload F.1.1 F.1.2.1 d_Cel_fit_25 (lv_at hl 4 rfl) ?_
        refine lv_iload_n F.1.1 F.1.2.1 d_Cel_fit_27 rfl (lv_at hl 1 rfl) ?_
        refine lv_icmp_ge (tgt := 81) F.1.1 F.1.2.1 d_Cel_fit_28 (by decide) (fun c28 => ?_) (fun c28 => ?_)
        · have hin := (nI_leI (by omega) (by omega)).mp c28
          refine lv_aload_n F.1.1 F.1.2.1 d_Cel_fit_81 rfl (lv_at hl 0 rfl) ?_
          refine hw_call0 (hw_runV F hL hS hH hl (c_Cel_doAllAnew l D L0 ad _ f0 (by assumption)) ck_Cel (hasO_o celE) rfl q_ml_Cel_188 q_im_Cel_doAllAnew q_se_Cel_doAllAnew q_in_Cel q_co_Cel_doAllAnew rfl (k := 0) ⟨rfl, rfl, by decide +kernel, ⟨Nat.le_of_ble_eq_true rfl, Nat.le_of_ble_eq_true rfl⟩, Nat.le_of_ble_eq_true rfl⟩ rfl d_Cel_fit_82 ⟨Nat.le_of_ble_eq_true rfl, Nat.le_of_ble_eq_true rfl⟩) hS (fun H locs hH hS => ?_)
          refine lv_iload F.1.1 F.1.2.1 d_Cel_fit_85 (lv_at hl 3 rfl) ?_
          exact hw_iret F hr hlocks hH hS d_Cel_fit_87 (by rw [if_neg c9, nI_clamp (by omega), ← he, show r - i = 0 by omega]; rfl) (by rw [if_neg c9, nI_clamp (by omega), ← he, show r - i = 0 by omega]; rfl)
        · have hin : i < r := by
            rcases Nat.lt_or_ge (i) (r) with q | q
            · exact q
            · exact absurd (nI_le q (by omega)) c28
          refine lv_lload_n F.1.1 F.1.2.1 d_Cel_fit_31 rfl (lv_at hl 2 rfl) ?_
          refine lv_lstore F.1.1 F.1.2.1 d_Cel_fit_32 hl (by decide) rfl (fun ls hl => ?_)
          refine lv_iconst (v := 0) F.1.1 F.1.2.1 d_Cel_fit_34 (by decide) ?_
          refine lv_istore F.1.1 F.1.2.1 d_Cel_fit_35 hl (by decide) rfl (fun ls hl => ?_)
          have L37 : ∀ (u : Nat) (k : Nat) (H : Heap) (locs : List Loc) (ls : Array Slot), (k ≤ 4) → (gd (fkX le ρ k).2) → 4 - k < u → hw D L0 ad (celP D ad (fkX le ρ k).2 f0) H → va_S (fun q => L0 ≤ q) s.heap H locs → lv_has ls 9 [(0, .ref (ad 0)), (1, .int (nI r)), (2, .long (fkX le ρ k).1), (4, .int (nI cn)), (5, .int (nI i)), (6, .long le), (8, .int (nI k))] → W p l e { frames := 6, cells := 0, slots := 0, locals := 147 } s m [.ref (ad 0), .int (nI r)].toArray below meth c H locs 0 0 (MQ below (dt D L0 ad (some (.int (if wi (nI r).toInt64 1 5 = 0 then -1 else nI (frX (nI r).toNatClampNeg (oJ (xE σ) 10) σ 0).2))) (celP D ad (if wi (nI r).toInt64 1 5 = 0 then σ else doX (frX (nI r).toNatClampNeg (oJ (xE σ) 10) σ 0).1) f0)) [.ref (ad 0), .int (nI r)].toArray s 0 0 (fun q => L0 ≤ q)) (F0 m 37 ls []) := by
            intro u
            induction u with
            | zero => intros; exact absurd ‹(_ : Nat) < 0› (Nat.not_lt_zero _)
            | succ u ih37 =>
              intro k H locs ls hk hgk hu hH hS hl
              refine lv_iload F.1.1 F.1.2.1 d_Cel_fit_37 (lv_at hl 6 rfl) ?_
              refine lv_iconst (v := 4) F.1.1 F.1.2.1 d_Cel_fit_39 (by decide) ?_
              refine lv_icmp_ge (tgt := 62) F.1.1 F.1.2.1 d_Cel_fit_40 (by decide) (fun c40 => ?_) (fun c40 => ?_)
              · have hin4 : 4 ≤ k := (nI_leI (by omega) (by omega)).mp (show nI 4 ≤ nI k from c40)
                obtain rfl : k = 4 := by omega
                refine lv_lload_n F.1.1 F.1.2.1 d_Cel_fit_62 rfl (lv_at hl 2 rfl) ?_
                refine lv_lload F.1.1 F.1.2.1 d_Cel_fit_63 (lv_at hl 5 rfl) ?_
                refine W.lcmp F.1.1 F.1.2.1 d_Cel_fit_65 ?_
                refine lv_if_lt (tgt := 72) F.1.1 F.1.2.1 d_Cel_fit_66 (by decide) (fun c66 => ?_) (fun c66 => ?_)
                · rw [lg_cmp_lt] at c66
                  refine lv_iinc F.1.1 F.1.2.1 d_Cel_fit_72 hl (k := 3) rfl rfl (by decide) rfl (fun ls hl => ?_)
                  refine lv_iinc F.1.1 F.1.2.1 d_Cel_fit_75 hl (k := 4) rfl rfl (by decide) rfl (fun ls hl => ?_)
                  refine lv_goto (tgt := 25) F.1.1 F.1.2.1 d_Cel_fit_78 (by decide) ?_
                  refine ih25 (i + 1) _ _ (cn + 1) H locs ls (by omega) hgk (by rw [← he, frX_y hin c66]) (by omega) hH hS (lv_sub hl [2, 3, 4, 1, 0] ?_)
                  show [_, _, _, _, _] = [_, _, _, _, _]
                  rw [ii1, ii1]
                  first | done | rfl
                · rw [lg_cmp_lt] at c66
                  refine lv_goto (tgt := 81) F.1.1 F.1.2.1 d_Cel_fit_69 (by decide) ?_
                  refine lv_aload_n F.1.1 F.1.2.1 d_Cel_fit_81 rfl (lv_at hl 0 rfl) ?_
                  refine hw_call0 (hw_runV F hL hS hH hl (c_Cel_doAllAnew l D L0 ad _ f0 (by assumption)) ck_Cel (hasO_o celE) rfl q_ml_Cel_188 q_im_Cel_doAllAnew q_se_Cel_doAllAnew q_in_Cel q_co_Cel_doAllAnew rfl (k := 0) ⟨rfl, rfl, by decide +kernel, ⟨Nat.le_of_ble_eq_true rfl, Nat.le_of_ble_eq_true rfl⟩, Nat.le_of_ble_eq_true rfl⟩ rfl d_Cel_fit_82 ⟨Nat.le_of_ble_eq_true rfl, Nat.le_of_ble_eq_true rfl⟩) hS (fun H locs hH hS => ?_)
                  refine lv_iload F.1.1 F.1.2.1 d_Cel_fit_85 (lv_at hl 3 rfl) ?_
                  exact hw_iret F hr hlocks hH hS d_Cel_fit_87 (by rw [if_neg c9, nI_clamp (by omega), ← he, frX_n hin c66]) (by rw [if_neg c9, nI_clamp (by omega), ← he, frX_n hin c66])
              · have hin4 : k < 4 := by
                  rcases Nat.lt_or_ge k 4 with q | q
                  · exact q
                  · exact absurd (show nI 4 ≤ nI k from nI_le q (by omega)) c40
                refine lv_aload_n F.1.1 F.1.2.1 d_Cel_fit_43 rfl (lv_at hl 0 rfl) ?_
                refine lv_aload_n F.1.1 F.1.2.1 d_Cel_fit_44 rfl (lv_at hl 0 rfl) ?_
                refine gX ck_Cel F (hH.to celE.symm) q_fl_Cel_30 (k := 2) (by decide) rfl d_Cel_fit_45 ?_
                refine lv_iload F.1.1 F.1.2.1 d_Cel_fit_48 (lv_at hl 6 rfl) ?_
                refine hw_aaldR F hH (j := 1) rfl celP_3 (vp_in_nI (by omega) (by omega)) (show rfA ad 32 4 _ = some (ad (32 + 8 * k)) from by rw [nI_clamp (by omega)]; exact if_pos hin4) d_Cel_fit_50 ?_
                refine lv_lload_n F.1.1 F.1.2.1 d_Cel_fit_51 rfl (lv_at hl 2 rfl) ?_
                refine hw_call1 (hw_runV F hL hS hH hl (c_Cel_leastByKind l D L0 ad (fkX le ρ k).2 f0 hgk k hin4 _) ck_Cel (hasO_o celE) rfl q_ml_Cel_185 q_im_Cel_leastByKind q_se_Cel_leastByKind q_in_Cel q_co_Cel_leastByKind rfl (k := 2) ⟨rfl, rfl, by decide +kernel, ⟨Nat.le_of_ble_eq_true rfl, Nat.le_of_ble_eq_true rfl⟩, Nat.le_of_ble_eq_true rfl⟩ rfl d_Cel_fit_52 ⟨Nat.le_of_ble_eq_true rfl, Nat.le_of_ble_eq_true rfl⟩) hS (fun H locs hH hS => ?_)
                refine lv_lstore_n F.1.1 F.1.2.1 d_Cel_fit_55 rfl hl (by decide) rfl (fun ls hl => ?_)
                refine lv_iinc F.1.1 F.1.2.1 d_Cel_fit_56 hl (k := 6) rfl rfl (by decide) rfl (fun ls hl => ?_)
                refine lv_goto (tgt := 37) F.1.1 F.1.2.1 d_Cel_fit_59 (by decide) ?_
                refine ih37 (k + 1) H locs ls (by omega) (gd_lb hgk) (by omega) hH hS (lv_sub hl [2, 3, 1, 4, 5, 6, 0] ?_)
                show [_, _, _, _, _, _, _] = [_, _, _, _, _, _, _]
                rw [ii1]
                first | done | rfl
          exact L37 (4 - 0 + 1) 0 H locs ls (Nat.zero_le _) hg (Nat.lt_succ_self _) hH hS (lv_sub hl [2, 3, 4, 5, 6, 1, 0] rfl)
    exact L25 (r - 0 + 1) 0 _ σ 0 H locs ls (Nat.zero_le _) hG rfl (Nat.lt_succ_self _) hH hS (lv_sub hl [3, 4, 2, 1, 0] rfl)
  · refine lv_iconst (v := -1) F.1.1 F.1.2.1 d_Cel_fit_12 (by decide) ?_
    exact hw_iret F hr hlocks hH hS d_Cel_fit_13 (by rw [if_pos c9]) (by rw [if_pos c9])
