/-! CellSettlingModel.act; printed by wip/gen/modb.py -/
theorem mPr_0 {o : Ob} {at_ q : Nat} (hq : oA o 14 at_ = nI q) : mPr o at_ q 0 = o := by
  unfold mPr
  show sA (sB o 13 (vp_updL (oB o 13) at_ (oB o 13 at_))) 14 (upd (oA o 14) at_ (nI q)) = o
  rw [updL_self, sB_self, upd_self hq, sA_self]
theorem mPr_s {o : Ob} {at_ q i : Nat} : mPr (mPr o at_ q i) at_ (q + i) 1 = mPr o at_ q (i + 1) := by
  unfold mPr
  refine Ob.ext (fun _ => rfl) (fun _ => rfl) (fun j => ?_) (fun j => ?_)
  · simp only [oA_A, oA_B]
    by_cases hj : j = 14
    · simp only [if_pos hj, if_true]; rw [upd_upd, Nat.add_assoc]
    · simp only [if_neg hj]
  · simp only [oB_A, oB_B]
    by_cases hj : j = 13
    · simp only [if_pos hj, if_true]; rw [updL_updL, pk_uLs]; rfl
    · simp only [if_neg hj]
theorem mYr_0 {o : Ob} {C : Nat} : mYr o C 0 = o := by
  unfold mYr
  have : (fun j => if j / 10 < C ∧ j % 10 < cnM o (j / 10) then yJ o j 0 else oB o 13 j) = oB o 13 := by
    funext j
    split
    · rfl
    · rfl
  rw [this, sB_self, show oI o 19 + nI 0 = oI o 19 from Int32.add_zero _, sI_self]
theorem mYr_s {o : Ob} {C i : Nat} : mYr (mYr o C i) C 1 = mYr o C (i + 1) := by
  refine Ob.ext (fun k => ?_) (fun _ => rfl) (fun _ => rfl) (fun k => ?_)
  · show oI (sI _ 19 (oI (mYr o C i) 19 + nI 1)) k = oI (sI _ 19 (oI o 19 + nI (i + 1))) k
    rw [oI_I, oI_I]
    by_cases hk : k = 19
    · rw [if_pos hk, if_pos hk]
      show oI o 19 + nI i + nI 1 = _
      rw [Int32.add_assoc, nI_add]
    · rw [if_neg hk, if_neg hk]
      show oI (sI (sB o 13 _) 19 _) k = _
      rw [oI_I, if_neg hk]
      rfl
  · show oB (sI (sB (mYr o C i) 13 _) 19 _) k = oB (sI (sB o 13 _) 19 _) k
    rw [oB_I, oB_I, oB_B, oB_B]
    by_cases hk : k = 13
    · rw [if_pos hk, if_pos hk]
      funext j
      by_cases h : j / 10 < C ∧ j % 10 < cnM o (j / 10)
      · rw [if_pos (show j / 10 < C ∧ j % 10 < cnM (mYr o C i) (j / 10) from h), if_pos h]
        show yrs (mmF o (j / 10) (j % 10) (cnM o (j / 10))) 1 (oB (mYr o C i) 13 j) = _
        have e : oB (mYr o C i) 13 j = yJ o j i := if_pos h
        rw [e]
        rfl
      · rw [if_neg (show ¬ (j / 10 < C ∧ j % 10 < cnM (mYr o C i) (j / 10)) from h), if_neg h]
        exact if_neg h
    · rw [if_neg hk, if_neg hk]
      show oB (sI (sB o 13 _) 19 _) k = _
      rw [oB_I, oB_B, if_neg hk]
set_option maxHeartbeats 1000000 in
theorem c_Mod_act (l : Launch) (D : va_G) (L0 : Nat) (ad : Nat → Nat) (β : Nat) (o : Ob) (f : Nat → Option va_E) (hA : hasO D ad β 6 shMod o f) (σ : Xs) (hB : xB σ) (n : Nat) (hn2 : n < 200) (hI : LI σ n) (hE : EvS (xT σ) (xC σ) n) (hHr : Hrel σ o (n + 1)) (hR : Lrel σ o) : Met l y_Mod_act (wd y_Mod_act b_Mod_act 7 none) { frames := 1, cells := 0, slots := 0, locals := 29 } (va_Pc [.ref (ad β), .int (nI n)] (cp D L0 ad (f))) (dt D L0 ad (none) (obP D ad β 6 shMod (mAct o (xC σ) n) f)) 0 0 (fun q => L0 ≤ q) := by
  refine hw_met (by decide) (Nat.le_of_ble_eq_true rfl) ?_
  intro p e s m below meth c ls F hr hlocks hnm hL hH hS hl
  replace hH := hH.to hA.symm
  have hC := hB.1
  obtain ⟨e5, e6, e7, e8, e9⟩ := hHr.2.2 n (by omega)
  refine lv_aload_n F.1.1 F.1.2.1 d_Mod_act_0 rfl (lv_at hl 0 rfl) ?_
  refine gR ck_Mod F hH q_fl_Mod_19 (k := 6) (by decide) rfl (by decide) d_Mod_act_1 ?_
  refine lv_iload_n F.1.1 F.1.2.1 d_Mod_act_4 rfl (lv_at hl 1 rfl) ?_
  refine lA F hH rfl (vp_in_nI (by omega) (by omega)) d_Mod_act_5 ?_
  rw [nI_clamp (show n < 2 ^ 31 by omega)]
  refine lv_istore_n F.1.1 F.1.2.1 d_Mod_act_6 rfl hl (by decide) rfl (fun ls hl => ?_)
  rcases hE with ⟨hw0, k, hk, hpl, hcr⟩ | ⟨hw0, i, hc, hpl, hcl, q, hq, hnu⟩ | ⟨hw0, i, hc, hpl, hcl, t, ht, hnu⟩ | ⟨hw0, t, ht, hnu⟩ | ⟨hw0, i, hc, hpl⟩ | ⟨hw0, i, hc, hpl⟩
  · have hk5 : oA o 5 n = 0 := e5.trans hw0
    have h6 : oA o 6 n = nI k := e6.trans hpl
    rw [h6] at hl
    have hrn := Lrel_rn hR hk
    have hrE := (LI_rc hI hk).1
    have h16 : oA o 16 k = nI (rc (xK σ k)) := by rw [(hR.2.1 k hk).1, (hI.2 k hk).1, hrE]
    refine lv_aload_n F.1.1 F.1.2.1 d_Mod_act_7 rfl (lv_at hl 1 rfl) ?_
    refine gR ck_Mod F hH q_fl_Mod_16 (k := 5) (by decide) rfl (by decide) d_Mod_act_8 ?_
    refine lv_iload_n F.1.1 F.1.2.1 d_Mod_act_11 rfl (lv_at hl 2 rfl) ?_
    refine lA F hH rfl (vp_in_nI (by omega) (by omega)) d_Mod_act_12 ?_
    refine lv_if_ne (tgt := 64) F.1.1 F.1.2.1 d_Mod_act_13 (by decide) (fun c13 => ?_) (fun c13 => ?_)
    · exact absurd (by rw [nI_clamp (show n < 2 ^ 31 by omega)]; exact hk5) c13
    · refine lv_iconst (v := 4) F.1.1 F.1.2.1 d_Mod_act_16 (by decide) ?_
      refine lv_iload_n F.1.1 F.1.2.1 d_Mod_act_17 rfl (lv_at hl 0 rfl) ?_
      refine lv_imul F.1.1 F.1.2.1 d_Mod_act_18 ?_
      refine lv_aload_n F.1.1 F.1.2.1 d_Mod_act_19 rfl (lv_at hl 1 rfl) ?_
      refine gR ck_Mod F hH q_fl_Mod_50 (k := 16) (by decide) rfl (by decide) d_Mod_act_20 ?_
      refine lv_iload_n F.1.1 F.1.2.1 d_Mod_act_23 rfl (lv_at hl 0 rfl) ?_
      refine lA F hH rfl (vp_in_nI (by omega) (by omega)) d_Mod_act_24 ?_
      refine lv_iadd F.1.1 F.1.2.1 d_Mod_act_25 ?_
      rw [nI_clamp (show k < 2 ^ 31 by omega), h16, show (4 : Int32) * nI k + nI (rc (xK σ k)) = nI (4 * k + rc (xK σ k)) from by rw [← nI_add, ← pk_mul]; rfl]
      refine lv_istore_n F.1.1 F.1.2.1 d_Mod_act_26 rfl hl (by decide) rfl (fun ls hl => ?_)
      refine lv_aload_n F.1.1 F.1.2.1 d_Mod_act_27 rfl (lv_at hl 2 rfl) ?_
      refine gR ck_Mod F hH q_fl_Mod_53 (k := 17) (by decide) rfl (by decide) d_Mod_act_28 ?_
      refine lv_iload_n F.1.1 F.1.2.1 d_Mod_act_31 rfl (lv_at hl 0 rfl) ?_
      refine lv_aload_n F.1.1 F.1.2.1 d_Mod_act_32 rfl (lv_at hl 2 rfl) ?_
      refine gR ck_Mod F hH q_fl_Mod_25 (k := 8) (by decide) rfl (by decide) d_Mod_act_33 ?_
      refine lv_iload_n F.1.1 F.1.2.1 d_Mod_act_36 rfl (lv_at hl 3 rfl) ?_
      refine lB F hH rfl (vp_in_nI (by omega) (by omega)) d_Mod_act_37 ?_
      refine tB F hH hS rfl (vp_in_nI (by omega) (by omega)) d_Mod_act_38 (fun H locs hH hS => ?_)
      refine lv_aload_n F.1.1 F.1.2.1 d_Mod_act_39 rfl (lv_at hl 2 rfl) ?_
      refine gR ck_Mod F hH q_fl_Mod_56 (k := 18) (by decide) rfl (by decide) d_Mod_act_40 ?_
      refine lv_iload_n F.1.1 F.1.2.1 d_Mod_act_43 rfl (lv_at hl 0 rfl) ?_
      refine lv_aload_n F.1.1 F.1.2.1 d_Mod_act_44 rfl (lv_at hl 2 rfl) ?_
      refine gR ck_Mod F hH q_fl_Mod_22 (k := 7) (by decide) rfl (by decide) d_Mod_act_45 ?_
      refine lv_iload_n F.1.1 F.1.2.1 d_Mod_act_48 rfl (lv_at hl 3 rfl) ?_
      refine lA F hH rfl (vp_in_nI (by omega) (by omega)) d_Mod_act_49 ?_
      refine tA F hH hS rfl (vp_in_nI (by omega) (by omega)) d_Mod_act_50 (fun H locs hH hS => ?_)
      refine lv_aload_n F.1.1 F.1.2.1 d_Mod_act_51 rfl (lv_at hl 2 rfl) ?_
      refine gR ck_Mod F hH q_fl_Mod_50 (k := 16) (by decide) rfl (by decide) d_Mod_act_52 ?_
      refine lv_iload_n F.1.1 F.1.2.1 d_Mod_act_55 rfl (lv_at hl 1 rfl) ?_
      refine lv_dup2_11 F.1.1 F.1.2.1 d_Mod_act_56 rfl rfl ?_
      refine lA F hH rfl (vp_in_nI (by omega) (by omega)) d_Mod_act_57 ?_
      refine lv_iconst (v := 1) F.1.1 F.1.2.1 d_Mod_act_58 (by decide) ?_
      refine lv_iadd F.1.1 F.1.2.1 d_Mod_act_59 ?_
      refine tA F hH hS rfl (vp_in_nI (by omega) (by omega)) d_Mod_act_60 (fun H locs hH hS => ?_)
      refine lv_goto (tgt := 319) F.1.1 F.1.2.1 d_Mod_act_61 (by decide) ?_
      exact hw_vret F hr hlocks hH hS d_Mod_act_319 (congrArg (fun o => obP D ad β 6 shMod o f) (by unfold mAct; rw [if_pos hk5, h6, nI_clamp (show k < 2 ^ 31 by omega)]; unfold mRow; rw [hrn]; simp only [oA_A, oA_B, oB_A, oB_B, nI_clamp (show n < 2 ^ 31 by omega), nI_clamp (show k < 2 ^ 31 by omega), nI_clamp (show 4 * k + rc (xK σ k) < 2 ^ 31 by omega), if_neg (show ¬ (16 : Nat) = 18 by decide), if_neg (show ¬ (7 : Nat) = 18 by decide), if_neg (show ¬ (8 : Nat) = 17 by decide), h16, nI_1]))
  · have hk5 : oA o 5 n = 1 := e5.trans hw0
    have h6 : oA o 6 n = nI i := e6.trans hpl
    rw [h6] at hl
    have hlc := Lrel_cn hR hc
    have h10 := (LI_lc hI hc).2
    have hlE := (LI_lc hI hc).1
    have h10c : oA o 10 i = nI (lc (xL σ i)) := by rw [(hR.1 i hc).1, (hI.1 i hc).1, hlE]
    refine lv_aload_n F.1.1 F.1.2.1 d_Mod_act_7 rfl (lv_at hl 1 rfl) ?_
    refine gR ck_Mod F hH q_fl_Mod_16 (k := 5) (by decide) rfl (by decide) d_Mod_act_8 ?_
    refine lv_iload_n F.1.1 F.1.2.1 d_Mod_act_11 rfl (lv_at hl 2 rfl) ?_
    refine lA F hH rfl (vp_in_nI (by omega) (by omega)) d_Mod_act_12 ?_
    refine lv_if_ne (tgt := 64) F.1.1 F.1.2.1 d_Mod_act_13 (by decide) (fun c13 => ?_) (fun c13 => ?_)
    · refine lv_aload_n F.1.1 F.1.2.1 d_Mod_act_64 rfl (lv_at hl 1 rfl) ?_
      refine gR ck_Mod F hH q_fl_Mod_16 (k := 5) (by decide) rfl (by decide) d_Mod_act_65 ?_
      refine lv_iload_n F.1.1 F.1.2.1 d_Mod_act_68 rfl (lv_at hl 2 rfl) ?_
      refine lA F hH rfl (vp_in_nI (by omega) (by omega)) d_Mod_act_69 ?_
      refine lv_iconst (v := 1) F.1.1 F.1.2.1 d_Mod_act_70 (by decide) ?_
      refine lv_icmp_ne (tgt := 142) F.1.1 F.1.2.1 d_Mod_act_71 (by decide) (fun c71 => ?_) (fun c71 => ?_)
      · exact absurd (by rw [nI_clamp (show n < 2 ^ 31 by omega)]; exact hk5) c71
      · refine lv_bipush (v := 10) F.1.1 F.1.2.1 d_Mod_act_74 (by decide) ?_
        refine lv_iload_n F.1.1 F.1.2.1 d_Mod_act_76 rfl (lv_at hl 0 rfl) ?_
        refine lv_imul F.1.1 F.1.2.1 d_Mod_act_77 ?_
        refine lv_aload_n F.1.1 F.1.2.1 d_Mod_act_78 rfl (lv_at hl 1 rfl) ?_
        refine gR ck_Mod F hH q_fl_Mod_32 (k := 10) (by decide) rfl (by decide) d_Mod_act_79 ?_
        refine lv_iload_n F.1.1 F.1.2.1 d_Mod_act_82 rfl (lv_at hl 0 rfl) ?_
        refine lA F hH rfl (vp_in_nI (by omega) (by omega)) d_Mod_act_83 ?_
        refine lv_iadd F.1.1 F.1.2.1 d_Mod_act_84 ?_
        rw [nI_clamp (show i < 2 ^ 31 by omega), h10c, show (10 : Int32) * nI i + nI (lc (xL σ i)) = nI (10 * i + lc (xL σ i)) from by rw [← nI_add, ← pk_mul]; rfl]
        refine lv_istore_n F.1.1 F.1.2.1 d_Mod_act_85 rfl hl (by decide) rfl (fun ls hl => ?_)
        refine lv_aload_n F.1.1 F.1.2.1 d_Mod_act_86 rfl (lv_at hl 2 rfl) ?_
        refine gR ck_Mod F hH q_fl_Mod_35 (k := 11) (by decide) rfl (by decide) d_Mod_act_87 ?_
        refine lv_iload_n F.1.1 F.1.2.1 d_Mod_act_90 rfl (lv_at hl 0 rfl) ?_
        refine lv_aload_n F.1.1 F.1.2.1 d_Mod_act_91 rfl (lv_at hl 2 rfl) ?_
        refine gR ck_Mod F hH q_fl_Mod_22 (k := 7) (by decide) rfl (by decide) d_Mod_act_92 ?_
        refine lv_iload_n F.1.1 F.1.2.1 d_Mod_act_95 rfl (lv_at hl 3 rfl) ?_
        refine lA F hH rfl (vp_in_nI (by omega) (by omega)) d_Mod_act_96 ?_
        refine tA F hH hS rfl (vp_in_nI (by omega) (by omega)) d_Mod_act_97 (fun H locs hH hS => ?_)
        refine lv_aload_n F.1.1 F.1.2.1 d_Mod_act_98 rfl (lv_at hl 2 rfl) ?_
        refine gR ck_Mod F hH q_fl_Mod_38 (k := 12) (by decide) rfl (by decide) d_Mod_act_99 ?_
        refine lv_iload_n F.1.1 F.1.2.1 d_Mod_act_102 rfl (lv_at hl 0 rfl) ?_
        refine lv_aload_n F.1.1 F.1.2.1 d_Mod_act_103 rfl (lv_at hl 2 rfl) ?_
        refine gR ck_Mod F hH q_fl_Mod_25 (k := 8) (by decide) rfl (by decide) d_Mod_act_104 ?_
        refine lv_iload_n F.1.1 F.1.2.1 d_Mod_act_107 rfl (lv_at hl 3 rfl) ?_
        refine lB F hH rfl (vp_in_nI (by omega) (by omega)) d_Mod_act_108 ?_
        refine tB F hH hS rfl (vp_in_nI (by omega) (by omega)) d_Mod_act_109 (fun H locs hH hS => ?_)
        refine lv_aload_n F.1.1 F.1.2.1 d_Mod_act_110 rfl (lv_at hl 2 rfl) ?_
        refine gR ck_Mod F hH q_fl_Mod_41 (k := 13) (by decide) rfl (by decide) d_Mod_act_111 ?_
        refine lv_iload_n F.1.1 F.1.2.1 d_Mod_act_114 rfl (lv_at hl 0 rfl) ?_
        refine lv_aload_n F.1.1 F.1.2.1 d_Mod_act_115 rfl (lv_at hl 2 rfl) ?_
        refine gR ck_Mod F hH q_fl_Mod_29 (k := 9) (by decide) rfl (by decide) d_Mod_act_116 ?_
        refine lv_iload_n F.1.1 F.1.2.1 d_Mod_act_119 rfl (lv_at hl 3 rfl) ?_
        refine lB F hH rfl (vp_in_nI (by omega) (by omega)) d_Mod_act_120 ?_
        refine tB F hH hS rfl (vp_in_nI (by omega) (by omega)) d_Mod_act_121 (fun H locs hH hS => ?_)
        refine lv_aload_n F.1.1 F.1.2.1 d_Mod_act_122 rfl (lv_at hl 2 rfl) ?_
        refine gR ck_Mod F hH q_fl_Mod_44 (k := 14) (by decide) rfl (by decide) d_Mod_act_123 ?_
        refine lv_iload_n F.1.1 F.1.2.1 d_Mod_act_126 rfl (lv_at hl 0 rfl) ?_
        refine lv_iconst (v := 0) F.1.1 F.1.2.1 d_Mod_act_127 (by decide) ?_
        refine tA F hH hS rfl (vp_in_nI (by omega) (by omega)) d_Mod_act_128 (fun H locs hH hS => ?_)
        refine lv_aload_n F.1.1 F.1.2.1 d_Mod_act_129 rfl (lv_at hl 2 rfl) ?_
        refine gR ck_Mod F hH q_fl_Mod_32 (k := 10) (by decide) rfl (by decide) d_Mod_act_130 ?_
        refine lv_iload_n F.1.1 F.1.2.1 d_Mod_act_133 rfl (lv_at hl 1 rfl) ?_
        refine lv_dup2_11 F.1.1 F.1.2.1 d_Mod_act_134 rfl rfl ?_
        refine lA F hH rfl (vp_in_nI (by omega) (by omega)) d_Mod_act_135 ?_
        refine lv_iconst (v := 1) F.1.1 F.1.2.1 d_Mod_act_136 (by decide) ?_
        refine lv_iadd F.1.1 F.1.2.1 d_Mod_act_137 ?_
        refine tA F hH hS rfl (vp_in_nI (by omega) (by omega)) d_Mod_act_138 (fun H locs hH hS => ?_)
        refine lv_goto (tgt := 319) F.1.1 F.1.2.1 d_Mod_act_139 (by decide) ?_
        exact hw_vret F hr hlocks hH hS d_Mod_act_319 (congrArg (fun o => obP D ad β 6 shMod o f) (by unfold mAct; rw [if_neg (by rw [hk5]; decide), if_pos hk5, h6, nI_clamp (show i < 2 ^ 31 by omega)]; unfold mLay; rw [hlc]; simp only [oA_A, oA_B, oB_A, oB_B, nI_clamp (show n < 2 ^ 31 by omega), nI_clamp (show i < 2 ^ 31 by omega), nI_clamp (show 10 * i + lc (xL σ i) < 2 ^ 31 by omega), if_neg (show ¬ (10 : Nat) = 14 by decide), if_neg (show ¬ (10 : Nat) = 11 by decide), if_neg (show ¬ (14 : Nat) = 11 by decide), if_neg (show ¬ (8 : Nat) = 12 by decide), if_neg (show ¬ (9 : Nat) = 12 by decide), if_neg (show ¬ (9 : Nat) = 13 by decide), if_neg (show ¬ (13 : Nat) = 12 by decide), h10c, nI_1]))
    · rw [nI_clamp (show n < 2 ^ 31 by omega), hk5] at c13
      exact absurd c13 (by decide)
  · have hk5 : oA o 5 n = 2 := e5.trans hw0
    have h6 : oA o 6 n = nI i := e6.trans hpl
    rw [h6] at hl
    have hlc := Lrel_cn hR hc
    have h10 := (LI_lc hI hc).2
    have hlE := (LI_lc hI hc).1
    have h10c : oA o 10 i = nI (lc (xL σ i)) := by rw [(hR.1 i hc).1, (hI.1 i hc).1, hlE]
    obtain ⟨n1, hn1⟩ : ∃ n1, lc (xL σ i) = n1 + 1 := ⟨lc (xL σ i) - 1, by omega⟩
    obtain ⟨hps, hps4⟩ := LI_ps hI hc hn2
    have h14 : oA o 14 (10 * i + n1) = nI (oA (xL σ i) 1 n1).toNatClampNeg := by rw [((hR.1 i hc).2.2 n1 (by omega)).2.2.2]; rw [hn1] at hps; exact hps
    rw [hn1] at h10c
    rw [hn1, Nat.add_sub_cancel] at hps4
    have h7 : oA o 7 n = nI t := e7.trans hnu
    refine lv_aload_n F.1.1 F.1.2.1 d_Mod_act_7 rfl (lv_at hl 1 rfl) ?_
    refine gR ck_Mod F hH q_fl_Mod_16 (k := 5) (by decide) rfl (by decide) d_Mod_act_8 ?_
    refine lv_iload_n F.1.1 F.1.2.1 d_Mod_act_11 rfl (lv_at hl 2 rfl) ?_
    refine lA F hH rfl (vp_in_nI (by omega) (by omega)) d_Mod_act_12 ?_
    refine lv_if_ne (tgt := 64) F.1.1 F.1.2.1 d_Mod_act_13 (by decide) (fun c13 => ?_) (fun c13 => ?_)
    · refine lv_aload_n F.1.1 F.1.2.1 d_Mod_act_64 rfl (lv_at hl 1 rfl) ?_
      refine gR ck_Mod F hH q_fl_Mod_16 (k := 5) (by decide) rfl (by decide) d_Mod_act_65 ?_
      refine lv_iload_n F.1.1 F.1.2.1 d_Mod_act_68 rfl (lv_at hl 2 rfl) ?_
      refine lA F hH rfl (vp_in_nI (by omega) (by omega)) d_Mod_act_69 ?_
      refine lv_iconst (v := 1) F.1.1 F.1.2.1 d_Mod_act_70 (by decide) ?_
      refine lv_icmp_ne (tgt := 142) F.1.1 F.1.2.1 d_Mod_act_71 (by decide) (fun c71 => ?_) (fun c71 => ?_)
      · refine lv_aload_n F.1.1 F.1.2.1 d_Mod_act_142 rfl (lv_at hl 1 rfl) ?_
        refine gR ck_Mod F hH q_fl_Mod_16 (k := 5) (by decide) rfl (by decide) d_Mod_act_143 ?_
        refine lv_iload_n F.1.1 F.1.2.1 d_Mod_act_146 rfl (lv_at hl 2 rfl) ?_
        refine lA F hH rfl (vp_in_nI (by omega) (by omega)) d_Mod_act_147 ?_
        refine lv_iconst (v := 2) F.1.1 F.1.2.1 d_Mod_act_148 (by decide) ?_
        refine lv_icmp_ne (tgt := 178) F.1.1 F.1.2.1 d_Mod_act_149 (by decide) (fun c149 => ?_) (fun c149 => ?_)
        · exact absurd (by rw [nI_clamp (show n < 2 ^ 31 by omega)]; exact hk5) c149
        · refine lv_iconst (v := 0) F.1.1 F.1.2.1 d_Mod_act_152 (by decide) ?_
          refine lv_istore_n F.1.1 F.1.2.1 d_Mod_act_153 rfl hl (by decide) rfl (fun ls hl => ?_)
          have L154 : ∀ (u : Nat) (j : Nat) (H : Heap) (locs : List Loc) (ls : Array Slot), (j ≤ t) → t - j < u → hw D L0 ad (obP D ad β 6 shMod (mPr o (10 * i + n1) (oA (xL σ i) 1 n1).toNatClampNeg j) f) H → va_S (fun q => L0 ≤ q) s.heap H locs → lv_has ls 7 [(0, .ref (ad β)), (1, .int (nI n)), (2, .int (nI i)), (3, .int (nI j))] → W p l e { frames := 1, cells := 0, slots := 0, locals := 29 } s m [.ref (ad β), .int (nI n)].toArray below meth c H locs 0 0 (MQ below (dt D L0 ad (none) (obP D ad β 6 shMod (mAct o (xC σ) n) f)) [.ref (ad β), .int (nI n)].toArray s 0 0 (fun q => L0 ≤ q)) (F0 m 154 ls []) := by
            intro u
            induction u with
            | zero => intros; exact absurd ‹(_ : Nat) < 0› (Nat.not_lt_zero _)
            | succ u ih154 =>
              intro j H locs ls hj hu hH hS hl
              refine lv_iload_n F.1.1 F.1.2.1 d_Mod_act_154 rfl (lv_at hl 3 rfl) ?_
              refine lv_aload_n F.1.1 F.1.2.1 d_Mod_act_155 rfl (lv_at hl 0 rfl) ?_
              refine gR ck_Mod F hH q_fl_Mod_22 (k := 7) (by decide) rfl (by decide) d_Mod_act_156 ?_
              refine lv_iload_n F.1.1 F.1.2.1 d_Mod_act_159 rfl (lv_at hl 1 rfl) ?_
              refine lA F hH rfl (vp_in_nI (by omega) (by omega)) d_Mod_act_160 ?_
              refine lv_icmp_ge (tgt := 175) F.1.1 F.1.2.1 d_Mod_act_161 (by decide) (fun c161 => ?_) (fun c161 => ?_)
              · rw [show oA (mPr o (10 * i + n1) (oA (xL σ i) 1 n1).toNatClampNeg j) 7 (nI n).toNatClampNeg = nI t from by rw [nI_clamp (show n < 2 ^ 31 by omega)]; exact h7] at c161
                have hin := (nI_leI (by omega) (by omega)).mp c161
                refine lv_goto (tgt := 319) F.1.1 F.1.2.1 d_Mod_act_175 (by decide) ?_
                exact hw_vret F hr hlocks hH hS d_Mod_act_319 (congrArg (fun o => obP D ad β 6 shMod o f) (by unfold mAct; rw [if_neg (by rw [hk5]; decide), if_neg (by rw [hk5]; decide), if_pos hk5, h6, h7, nI_clamp (show i < 2 ^ 31 by omega), nI_clamp (show t < 2 ^ 31 by omega), hlc, hn1, Nat.add_sub_cancel, h14, nI_clamp (by omega), show j = t by omega]))
              · rw [show oA (mPr o (10 * i + n1) (oA (xL σ i) 1 n1).toNatClampNeg j) 7 (nI n).toNatClampNeg = nI t from by rw [nI_clamp (show n < 2 ^ 31 by omega)]; exact h7] at c161
                have hin : j < t := by
                  rcases Nat.lt_or_ge j t with q | q
                  · exact q
                  · exact absurd (nI_le q (by omega)) c161
                refine lv_aload_n F.1.1 F.1.2.1 d_Mod_act_164 rfl (lv_at hl 0 rfl) ?_
                refine lv_iload_n F.1.1 F.1.2.1 d_Mod_act_165 rfl (lv_at hl 2 rfl) ?_
                refine hw_call0 (hw_runV F hL hS hH hl (c_Mod_onePass l D L0 ad β (mPr o (10 * i + n1) (oA (xL σ i) 1 n1).toNatClampNeg j) _ obP_id i n1 ((oA (xL σ i) 1 n1).toNatClampNeg + j) (by omega) h10c (by omega) pk_us (by omega)) ck_Mod obP_o rfl q_ml_Mod_95 q_im_Mod_onePass q_se_Mod_onePass q_in_Mod q_co_Mod_onePass rfl (k := 1) ⟨rfl, rfl, by decide +kernel, ⟨Nat.le_of_ble_eq_true rfl, Nat.le_of_ble_eq_true rfl⟩, Nat.le_of_ble_eq_true rfl⟩ rfl d_Mod_act_166 ⟨Nat.le_of_ble_eq_true rfl, Nat.le_of_ble_eq_true rfl⟩) hS (fun H locs hH hS => ?_)
                replace hH := hH.to (obP_obP.trans (congrArg (fun o => obP D ad β 6 shMod o f) mPr_s))
                refine lv_iinc F.1.1 F.1.2.1 d_Mod_act_169 hl (k := 3) rfl rfl (by decide) rfl (fun ls hl => ?_)
                refine lv_goto (tgt := 154) F.1.1 F.1.2.1 d_Mod_act_172 (by decide) ?_
                refine ih154 (j + 1) H locs ls (by omega) (by omega) hH hS (lv_sub hl [1, 2, 3, 0] ?_)
                show [_, _, _, _] = [_, _, _, _]
                rw [ii1]
                first | done | rfl
          exact L154 (t - 0 + 1) 0 s.heap [] ls (Nat.zero_le _) (Nat.lt_succ_self _) (hH.to (by rw [mPr_0 h14])) hS (lv_sub hl [2, 3, 1, 0] rfl)
      · rw [nI_clamp (show n < 2 ^ 31 by omega), hk5] at c71
        exact absurd c71 (by decide)
    · rw [nI_clamp (show n < 2 ^ 31 by omega), hk5] at c13
      exact absurd c13 (by decide)
  · have hk5 : oA o 5 n = 3 := e5.trans hw0
    have h7 : oA o 7 n = nI t := e7.trans hnu
    have hcn : ∀ c, c < xC σ → ∃ n, n ≤ 10 ∧ oA o 10 c = nI n ∧ ∀ j, j < n → ∃ q, q < 4 ∧ oA o 11 (10 * c + j) = nI q := fun c hc => ⟨_, (LI_lc hI hc).2, by rw [(hR.1 c hc).1]; exact (hI.1 c hc).1, fun j hj => by rw [((hR.1 c hc).2.2 j (by rw [(LI_lc hI hc).1]; exact hj)).1]; exact LI_kn hI hc j (by rw [(LI_lc hI hc).1]; exact hj)⟩
    have hrn : ∀ k, k < 4 → ∃ r, r ≤ 4 ∧ oA o 16 k = nI r := fun k hk => ⟨_, (LI_rc hI hk).2, by rw [(hR.2.1 k hk).1]; exact (hI.2 k hk).1⟩
    refine lv_aload_n F.1.1 F.1.2.1 d_Mod_act_7 rfl (lv_at hl 1 rfl) ?_
    refine gR ck_Mod F hH q_fl_Mod_16 (k := 5) (by decide) rfl (by decide) d_Mod_act_8 ?_
    refine lv_iload_n F.1.1 F.1.2.1 d_Mod_act_11 rfl (lv_at hl 2 rfl) ?_
    refine lA F hH rfl (vp_in_nI (by omega) (by omega)) d_Mod_act_12 ?_
    refine lv_if_ne (tgt := 64) F.1.1 F.1.2.1 d_Mod_act_13 (by decide) (fun c13 => ?_) (fun c13 => ?_)
    · refine lv_aload_n F.1.1 F.1.2.1 d_Mod_act_64 rfl (lv_at hl 1 rfl) ?_
      refine gR ck_Mod F hH q_fl_Mod_16 (k := 5) (by decide) rfl (by decide) d_Mod_act_65 ?_
      refine lv_iload_n F.1.1 F.1.2.1 d_Mod_act_68 rfl (lv_at hl 2 rfl) ?_
      refine lA F hH rfl (vp_in_nI (by omega) (by omega)) d_Mod_act_69 ?_
      refine lv_iconst (v := 1) F.1.1 F.1.2.1 d_Mod_act_70 (by decide) ?_
      refine lv_icmp_ne (tgt := 142) F.1.1 F.1.2.1 d_Mod_act_71 (by decide) (fun c71 => ?_) (fun c71 => ?_)
      · refine lv_aload_n F.1.1 F.1.2.1 d_Mod_act_142 rfl (lv_at hl 1 rfl) ?_
        refine gR ck_Mod F hH q_fl_Mod_16 (k := 5) (by decide) rfl (by decide) d_Mod_act_143 ?_
        refine lv_iload_n F.1.1 F.1.2.1 d_Mod_act_146 rfl (lv_at hl 2 rfl) ?_
        refine lA F hH rfl (vp_in_nI (by omega) (by omega)) d_Mod_act_147 ?_
        refine lv_iconst (v := 2) F.1.1 F.1.2.1 d_Mod_act_148 (by decide) ?_
        refine lv_icmp_ne (tgt := 178) F.1.1 F.1.2.1 d_Mod_act_149 (by decide) (fun c149 => ?_) (fun c149 => ?_)
        · refine lv_aload_n F.1.1 F.1.2.1 d_Mod_act_178 rfl (lv_at hl 1 rfl) ?_
          refine gR ck_Mod F hH q_fl_Mod_16 (k := 5) (by decide) rfl (by decide) d_Mod_act_179 ?_
          refine lv_iload_n F.1.1 F.1.2.1 d_Mod_act_182 rfl (lv_at hl 2 rfl) ?_
          refine lA F hH rfl (vp_in_nI (by omega) (by omega)) d_Mod_act_183 ?_
          refine lv_iconst (v := 3) F.1.1 F.1.2.1 d_Mod_act_184 (by decide) ?_
          refine lv_icmp_ne (tgt := 213) F.1.1 F.1.2.1 d_Mod_act_185 (by decide) (fun c185 => ?_) (fun c185 => ?_)
          · exact absurd (by rw [nI_clamp (show n < 2 ^ 31 by omega)]; exact hk5) c185
          · refine lv_iconst (v := 0) F.1.1 F.1.2.1 d_Mod_act_188 (by decide) ?_
            refine lv_istore_n F.1.1 F.1.2.1 d_Mod_act_189 rfl hl (by decide) rfl (fun ls hl => ?_)
            have L190 : ∀ (u : Nat) (j : Nat) (H : Heap) (locs : List Loc) (ls : Array Slot), (j ≤ t) → t - j < u → hw D L0 ad (obP D ad β 6 shMod (mYr o (xC σ) j) f) H → va_S (fun q => L0 ≤ q) s.heap H locs → lv_has ls 7 [(0, .ref (ad β)), (1, .int (nI n)), (3, .int (nI j))] → W p l e { frames := 1, cells := 0, slots := 0, locals := 29 } s m [.ref (ad β), .int (nI n)].toArray below meth c H locs 0 0 (MQ below (dt D L0 ad (none) (obP D ad β 6 shMod (mAct o (xC σ) n) f)) [.ref (ad β), .int (nI n)].toArray s 0 0 (fun q => L0 ≤ q)) (F0 m 190 ls []) := by
              intro u
              induction u with
              | zero => intros; exact absurd ‹(_ : Nat) < 0› (Nat.not_lt_zero _)
              | succ u ih190 =>
                intro j H locs ls hj hu hH hS hl
                refine lv_iload_n F.1.1 F.1.2.1 d_Mod_act_190 rfl (lv_at hl 2 rfl) ?_
                refine lv_aload_n F.1.1 F.1.2.1 d_Mod_act_191 rfl (lv_at hl 0 rfl) ?_
                refine gR ck_Mod F hH q_fl_Mod_22 (k := 7) (by decide) rfl (by decide) d_Mod_act_192 ?_
                refine lv_iload_n F.1.1 F.1.2.1 d_Mod_act_195 rfl (lv_at hl 1 rfl) ?_
                refine lA F hH rfl (vp_in_nI (by omega) (by omega)) d_Mod_act_196 ?_
                refine lv_icmp_ge (tgt := 210) F.1.1 F.1.2.1 d_Mod_act_197 (by decide) (fun c197 => ?_) (fun c197 => ?_)
                · rw [show oA (mYr o (xC σ) j) 7 (nI n).toNatClampNeg = nI t from by rw [nI_clamp (show n < 2 ^ 31 by omega)]; exact h7] at c197
                  have hin := (nI_leI (by omega) (by omega)).mp c197
                  refine lv_goto (tgt := 319) F.1.1 F.1.2.1 d_Mod_act_210 (by decide) ?_
                  exact hw_vret F hr hlocks hH hS d_Mod_act_319 (congrArg (fun o => obP D ad β 6 shMod o f) (by unfold mAct; rw [if_neg (by rw [hk5]; decide), if_neg (by rw [hk5]; decide), if_neg (by rw [hk5]; decide), if_pos hk5, h7, nI_clamp (show t < 2 ^ 31 by omega), show j = t by omega]))
                · rw [show oA (mYr o (xC σ) j) 7 (nI n).toNatClampNeg = nI t from by rw [nI_clamp (show n < 2 ^ 31 by omega)]; exact h7] at c197
                  have hin : j < t := by
                    rcases Nat.lt_or_ge j t with q | q
                    · exact q
                    · exact absurd (nI_le q (by omega)) c197
                  refine lv_aload_n F.1.1 F.1.2.1 d_Mod_act_200 rfl (lv_at hl 0 rfl) ?_
                  refine hw_call0 (hw_runV F hL hS hH hl (c_Mod_oneYear l D L0 ad β (mYr o (xC σ) j) _ obP_id (xC σ) hHr.1 hC.2 hcn hrn) ck_Mod obP_o rfl q_ml_Mod_99 q_im_Mod_oneYear q_se_Mod_oneYear q_in_Mod q_co_Mod_oneYear rfl (k := 0) ⟨rfl, rfl, by decide +kernel, ⟨Nat.le_of_ble_eq_true rfl, Nat.le_of_ble_eq_true rfl⟩, Nat.le_of_ble_eq_true rfl⟩ rfl d_Mod_act_201 ⟨Nat.le_of_ble_eq_true rfl, Nat.le_of_ble_eq_true rfl⟩) hS (fun H locs hH hS => ?_)
                  replace hH := hH.to (obP_obP.trans (congrArg (fun o => obP D ad β 6 shMod o f) mYr_s))
                  refine lv_iinc F.1.1 F.1.2.1 d_Mod_act_204 hl (k := 2) rfl rfl (by decide) rfl (fun ls hl => ?_)
                  refine lv_goto (tgt := 190) F.1.1 F.1.2.1 d_Mod_act_207 (by decide) ?_
                  refine ih190 (j + 1) H locs ls (by omega) (by omega) hH hS (lv_sub hl [1, 2, 0] ?_)
                  show [_, _, _] = [_, _, _]
                  rw [ii1]
                  first | done | rfl
            exact L190 (t - 0 + 1) 0 s.heap [] ls (Nat.zero_le _) (Nat.lt_succ_self _) (hH.to (by rw [mYr_0])) hS (lv_sub hl [2, 3, 0] rfl)
        · rw [nI_clamp (show n < 2 ^ 31 by omega), hk5] at c149
          exact absurd c149 (by decide)
      · rw [nI_clamp (show n < 2 ^ 31 by omega), hk5] at c71
        exact absurd c71 (by decide)
    · rw [nI_clamp (show n < 2 ^ 31 by omega), hk5] at c13
      exact absurd c13 (by decide)
  · have hk5 : oA o 5 n = 4 := e5.trans hw0
    have h6 : oA o 6 n = nI i := e6.trans hpl
    rw [h6] at hl
    refine lv_aload_n F.1.1 F.1.2.1 d_Mod_act_7 rfl (lv_at hl 1 rfl) ?_
    refine gR ck_Mod F hH q_fl_Mod_16 (k := 5) (by decide) rfl (by decide) d_Mod_act_8 ?_
    refine lv_iload_n F.1.1 F.1.2.1 d_Mod_act_11 rfl (lv_at hl 2 rfl) ?_
    refine lA F hH rfl (vp_in_nI (by omega) (by omega)) d_Mod_act_12 ?_
    refine lv_if_ne (tgt := 64) F.1.1 F.1.2.1 d_Mod_act_13 (by decide) (fun c13 => ?_) (fun c13 => ?_)
    · refine lv_aload_n F.1.1 F.1.2.1 d_Mod_act_64 rfl (lv_at hl 1 rfl) ?_
      refine gR ck_Mod F hH q_fl_Mod_16 (k := 5) (by decide) rfl (by decide) d_Mod_act_65 ?_
      refine lv_iload_n F.1.1 F.1.2.1 d_Mod_act_68 rfl (lv_at hl 2 rfl) ?_
      refine lA F hH rfl (vp_in_nI (by omega) (by omega)) d_Mod_act_69 ?_
      refine lv_iconst (v := 1) F.1.1 F.1.2.1 d_Mod_act_70 (by decide) ?_
      refine lv_icmp_ne (tgt := 142) F.1.1 F.1.2.1 d_Mod_act_71 (by decide) (fun c71 => ?_) (fun c71 => ?_)
      · refine lv_aload_n F.1.1 F.1.2.1 d_Mod_act_142 rfl (lv_at hl 1 rfl) ?_
        refine gR ck_Mod F hH q_fl_Mod_16 (k := 5) (by decide) rfl (by decide) d_Mod_act_143 ?_
        refine lv_iload_n F.1.1 F.1.2.1 d_Mod_act_146 rfl (lv_at hl 2 rfl) ?_
        refine lA F hH rfl (vp_in_nI (by omega) (by omega)) d_Mod_act_147 ?_
        refine lv_iconst (v := 2) F.1.1 F.1.2.1 d_Mod_act_148 (by decide) ?_
        refine lv_icmp_ne (tgt := 178) F.1.1 F.1.2.1 d_Mod_act_149 (by decide) (fun c149 => ?_) (fun c149 => ?_)
        · refine lv_aload_n F.1.1 F.1.2.1 d_Mod_act_178 rfl (lv_at hl 1 rfl) ?_
          refine gR ck_Mod F hH q_fl_Mod_16 (k := 5) (by decide) rfl (by decide) d_Mod_act_179 ?_
          refine lv_iload_n F.1.1 F.1.2.1 d_Mod_act_182 rfl (lv_at hl 2 rfl) ?_
          refine lA F hH rfl (vp_in_nI (by omega) (by omega)) d_Mod_act_183 ?_
          refine lv_iconst (v := 3) F.1.1 F.1.2.1 d_Mod_act_184 (by decide) ?_
          refine lv_icmp_ne (tgt := 213) F.1.1 F.1.2.1 d_Mod_act_185 (by decide) (fun c185 => ?_) (fun c185 => ?_)
          · refine lv_aload_n F.1.1 F.1.2.1 d_Mod_act_213 rfl (lv_at hl 1 rfl) ?_
            refine gR ck_Mod F hH q_fl_Mod_16 (k := 5) (by decide) rfl (by decide) d_Mod_act_214 ?_
            refine lv_iload_n F.1.1 F.1.2.1 d_Mod_act_217 rfl (lv_at hl 2 rfl) ?_
            refine lA F hH rfl (vp_in_nI (by omega) (by omega)) d_Mod_act_218 ?_
            refine lv_iconst (v := 4) F.1.1 F.1.2.1 d_Mod_act_219 (by decide) ?_
            refine lv_icmp_ne (tgt := 241) F.1.1 F.1.2.1 d_Mod_act_220 (by decide) (fun c220 => ?_) (fun c220 => ?_)
            · exact absurd (by rw [nI_clamp (show n < 2 ^ 31 by omega)]; exact hk5) c220
            · refine lv_aload_n F.1.1 F.1.2.1 d_Mod_act_223 rfl (lv_at hl 1 rfl) ?_
              refine gR ck_Mod F hH q_fl_Mod_47 (k := 15) (by decide) rfl (by decide) d_Mod_act_224 ?_
              refine lv_iload_n F.1.1 F.1.2.1 d_Mod_act_227 rfl (lv_at hl 0 rfl) ?_
              refine lv_dup2_11 F.1.1 F.1.2.1 d_Mod_act_228 rfl rfl ?_
              refine lA F hH rfl (vp_in_nI (by omega) (by omega)) d_Mod_act_229 ?_
              refine lv_aload_n F.1.1 F.1.2.1 d_Mod_act_230 rfl (lv_at hl 1 rfl) ?_
              refine gR ck_Mod F hH q_fl_Mod_22 (k := 7) (by decide) rfl (by decide) d_Mod_act_231 ?_
              refine lv_iload_n F.1.1 F.1.2.1 d_Mod_act_234 rfl (lv_at hl 2 rfl) ?_
              refine lA F hH rfl (vp_in_nI (by omega) (by omega)) d_Mod_act_235 ?_
              refine lv_iadd F.1.1 F.1.2.1 d_Mod_act_236 ?_
              refine tA F hH hS rfl (vp_in_nI (by omega) (by omega)) d_Mod_act_237 (fun H locs hH hS => ?_)
              refine lv_goto (tgt := 319) F.1.1 F.1.2.1 d_Mod_act_238 (by decide) ?_
              exact hw_vret F hr hlocks hH hS d_Mod_act_319 (congrArg (fun o => obP D ad β 6 shMod o f) (by unfold mAct; rw [if_neg (by rw [hk5]; decide), if_neg (by rw [hk5]; decide), if_neg (by rw [hk5]; decide), if_neg (by rw [hk5]; decide), if_pos hk5, h6, nI_clamp (show i < 2 ^ 31 by omega), nI_clamp (show n < 2 ^ 31 by omega)]))
          · rw [nI_clamp (show n < 2 ^ 31 by omega), hk5] at c185
            exact absurd c185 (by decide)
        · rw [nI_clamp (show n < 2 ^ 31 by omega), hk5] at c149
          exact absurd c149 (by decide)
      · rw [nI_clamp (show n < 2 ^ 31 by omega), hk5] at c71
        exact absurd c71 (by decide)
    · rw [nI_clamp (show n < 2 ^ 31 by omega), hk5] at c13
      exact absurd c13 (by decide)
  · have hk5 : oA o 5 n = 5 := e5.trans hw0
    have h6 : oA o 6 n = nI i := e6.trans hpl
    rw [h6] at hl
    have hlc := Lrel_cn hR hc
    have h10 := (LI_lc hI hc).2
    have hlE := (LI_lc hI hc).1
    have h10c : oA o 10 i = nI (lc (xL σ i)) := by rw [(hR.1 i hc).1, (hI.1 i hc).1, hlE]
    refine lv_aload_n F.1.1 F.1.2.1 d_Mod_act_7 rfl (lv_at hl 1 rfl) ?_
    refine gR ck_Mod F hH q_fl_Mod_16 (k := 5) (by decide) rfl (by decide) d_Mod_act_8 ?_
    refine lv_iload_n F.1.1 F.1.2.1 d_Mod_act_11 rfl (lv_at hl 2 rfl) ?_
    refine lA F hH rfl (vp_in_nI (by omega) (by omega)) d_Mod_act_12 ?_
    refine lv_if_ne (tgt := 64) F.1.1 F.1.2.1 d_Mod_act_13 (by decide) (fun c13 => ?_) (fun c13 => ?_)
    · refine lv_aload_n F.1.1 F.1.2.1 d_Mod_act_64 rfl (lv_at hl 1 rfl) ?_
      refine gR ck_Mod F hH q_fl_Mod_16 (k := 5) (by decide) rfl (by decide) d_Mod_act_65 ?_
      refine lv_iload_n F.1.1 F.1.2.1 d_Mod_act_68 rfl (lv_at hl 2 rfl) ?_
      refine lA F hH rfl (vp_in_nI (by omega) (by omega)) d_Mod_act_69 ?_
      refine lv_iconst (v := 1) F.1.1 F.1.2.1 d_Mod_act_70 (by decide) ?_
      refine lv_icmp_ne (tgt := 142) F.1.1 F.1.2.1 d_Mod_act_71 (by decide) (fun c71 => ?_) (fun c71 => ?_)
      · refine lv_aload_n F.1.1 F.1.2.1 d_Mod_act_142 rfl (lv_at hl 1 rfl) ?_
        refine gR ck_Mod F hH q_fl_Mod_16 (k := 5) (by decide) rfl (by decide) d_Mod_act_143 ?_
        refine lv_iload_n F.1.1 F.1.2.1 d_Mod_act_146 rfl (lv_at hl 2 rfl) ?_
        refine lA F hH rfl (vp_in_nI (by omega) (by omega)) d_Mod_act_147 ?_
        refine lv_iconst (v := 2) F.1.1 F.1.2.1 d_Mod_act_148 (by decide) ?_
        refine lv_icmp_ne (tgt := 178) F.1.1 F.1.2.1 d_Mod_act_149 (by decide) (fun c149 => ?_) (fun c149 => ?_)
        · refine lv_aload_n F.1.1 F.1.2.1 d_Mod_act_178 rfl (lv_at hl 1 rfl) ?_
          refine gR ck_Mod F hH q_fl_Mod_16 (k := 5) (by decide) rfl (by decide) d_Mod_act_179 ?_
          refine lv_iload_n F.1.1 F.1.2.1 d_Mod_act_182 rfl (lv_at hl 2 rfl) ?_
          refine lA F hH rfl (vp_in_nI (by omega) (by omega)) d_Mod_act_183 ?_
          refine lv_iconst (v := 3) F.1.1 F.1.2.1 d_Mod_act_184 (by decide) ?_
          refine lv_icmp_ne (tgt := 213) F.1.1 F.1.2.1 d_Mod_act_185 (by decide) (fun c185 => ?_) (fun c185 => ?_)
          · refine lv_aload_n F.1.1 F.1.2.1 d_Mod_act_213 rfl (lv_at hl 1 rfl) ?_
            refine gR ck_Mod F hH q_fl_Mod_16 (k := 5) (by decide) rfl (by decide) d_Mod_act_214 ?_
            refine lv_iload_n F.1.1 F.1.2.1 d_Mod_act_217 rfl (lv_at hl 2 rfl) ?_
            refine lA F hH rfl (vp_in_nI (by omega) (by omega)) d_Mod_act_218 ?_
            refine lv_iconst (v := 4) F.1.1 F.1.2.1 d_Mod_act_219 (by decide) ?_
            refine lv_icmp_ne (tgt := 241) F.1.1 F.1.2.1 d_Mod_act_220 (by decide) (fun c220 => ?_) (fun c220 => ?_)
            · refine lv_aload_n F.1.1 F.1.2.1 d_Mod_act_241 rfl (lv_at hl 1 rfl) ?_
              refine lv_iload_n F.1.1 F.1.2.1 d_Mod_act_242 rfl (lv_at hl 0 rfl) ?_
              refine hw_call1 (hw_runV F hL hS hH hl (c_Mod_heightOf l D L0 ad β o _ obP_id i (lc (xL σ i)) (by omega) h10c (by omega)) ck_Mod obP_o rfl q_ml_Mod_102 q_im_Mod_heightOf q_se_Mod_heightOf q_in_Mod q_co_Mod_heightOf rfl (k := 1) ⟨rfl, rfl, by decide +kernel, ⟨Nat.le_of_ble_eq_true rfl, Nat.le_of_ble_eq_true rfl⟩, Nat.le_of_ble_eq_true rfl⟩ rfl d_Mod_act_243 ⟨Nat.le_of_ble_eq_true rfl, Nat.le_of_ble_eq_true rfl⟩) hS (fun H locs hH hS => ?_)
              refine lv_lstore_n F.1.1 F.1.2.1 d_Mod_act_246 rfl hl (by decide) rfl (fun ls hl => ?_)
              refine lv_lload_n F.1.1 F.1.2.1 d_Mod_act_247 rfl (lv_at hl 0 rfl) ?_
              refine lv_ldc2 F.1.1 F.1.2.1 F.1.2.2.2.1 (F.1.2.2.2.2 _ q_cl_Mod_93) d_Mod_act_248 ?_
              refine lv_ldiv F.1.1 F.1.2.1 d_Mod_act_251 (by decide) ?_
              refine lv_aload_n F.1.1 F.1.2.1 d_Mod_act_252 rfl (lv_at hl 2 rfl) ?_
              refine gR ck_Mod F hH q_fl_Mod_25 (k := 8) (by decide) rfl (by decide) d_Mod_act_253 ?_
              refine lv_iload_n F.1.1 F.1.2.1 d_Mod_act_256 rfl (lv_at hl 3 rfl) ?_
              refine lB F hH rfl (vp_in_nI (by omega) (by omega)) d_Mod_act_257 ?_
              refine lv_lsub F.1.1 F.1.2.1 d_Mod_act_258 ?_
              refine lv_lstore F.1.1 F.1.2.1 d_Mod_act_259 hl (by decide) rfl (fun ls hl => ?_)
              refine lv_lload F.1.1 F.1.2.1 d_Mod_act_261 (lv_at hl 0 rfl) ?_
              refine lv_ldc2 F.1.1 F.1.2.1 F.1.2.2.2.1 (F.1.2.2.2.2 _ q_cl_Mod_106) d_Mod_act_263 ?_
              refine W.lcmp F.1.1 F.1.2.1 d_Mod_act_266 ?_
              refine lv_if_ge (tgt := 276) F.1.1 F.1.2.1 d_Mod_act_267 (by decide) (fun c267 => ?_) (fun c267 => ?_)
              · rw [lg_cmp_ge] at c267
                refine lv_lload F.1.1 F.1.2.1 d_Mod_act_276 (lv_at hl 0 rfl) ?_
                refine lv_ldc2 F.1.1 F.1.2.1 F.1.2.2.2.1 (F.1.2.2.2.2 _ q_cl_Mod_88) d_Mod_act_278 ?_
                refine W.lcmp F.1.1 F.1.2.1 d_Mod_act_281 ?_
                refine lv_if_le (tgt := 291) F.1.1 F.1.2.1 d_Mod_act_282 (by decide) (fun c282 => ?_) (fun c282 => ?_)
                · rw [lg_cmp_le] at c282
                  refine lv_lload F.1.1 F.1.2.1 d_Mod_act_291 (lv_at hl 0 rfl) ?_
                  refine lv_lstore F.1.1 F.1.2.1 d_Mod_act_293 hl (by decide) rfl (fun ls hl => ?_)
                  refine lv_aload_n F.1.1 F.1.2.1 d_Mod_act_295 rfl (lv_at hl 3 rfl) ?_
                  refine lv_dup F.1.1 F.1.2.1 d_Mod_act_296 rfl ?_
                  refine gJ ck_Mod F hH q_fl_Mod_108 (k := 21) (by decide) rfl d_Mod_act_297 ?_
                  refine lv_lload F.1.1 F.1.2.1 d_Mod_act_300 (lv_at hl 0 rfl) ?_
                  refine lv_lload F.1.1 F.1.2.1 d_Mod_act_302 (lv_at hl 0 rfl) ?_
                  refine lv_lmul F.1.1 F.1.2.1 d_Mod_act_304 ?_
                  refine lv_ladd F.1.1 F.1.2.1 d_Mod_act_305 ?_
                  refine pJ ck_Mod F hH hS q_fl_Mod_108 (k := 21) (by decide) rfl rfl rfl d_Mod_act_306 (fun H locs hH hS => ?_)
                  refine lv_aload_n F.1.1 F.1.2.1 d_Mod_act_309 rfl (lv_at hl 3 rfl) ?_
                  refine lv_dup F.1.1 F.1.2.1 d_Mod_act_310 rfl ?_
                  refine gI ck_Mod F hH q_fl_Mod_112 (k := 20) (by decide) rfl d_Mod_act_311 ?_
                  refine lv_iconst (v := 1) F.1.1 F.1.2.1 d_Mod_act_314 (by decide) ?_
                  refine lv_iadd F.1.1 F.1.2.1 d_Mod_act_315 ?_
                  refine pI ck_Mod F hH hS q_fl_Mod_112 (k := 20) (by decide) rfl rfl rfl d_Mod_act_316 (fun H locs hH hS => ?_)
                  exact hw_vret F hr hlocks hH hS d_Mod_act_319 (congrArg (fun o => obP D ad β 6 shMod o f) (by unfold mAct; rw [if_neg (by rw [hk5]; decide), if_neg (by rw [hk5]; decide), if_neg (by rw [hk5]; decide), if_neg (by rw [hk5]; decide), if_neg (by rw [hk5]; decide), h6, nI_clamp (show i < 2 ^ 31 by omega)]; unfold mCmp cutM; rw [hlc, nI_clamp (show n < 2 ^ 31 by omega)] at *; rw [if_neg (Int64.not_lt.mpr c267), if_neg (Int64.not_lt.mpr c282)]; rfl))
                · rw [lg_cmp_le] at c282
                  refine lv_ldc2 F.1.1 F.1.2.1 F.1.2.2.2.1 (F.1.2.2.2.2 _ q_cl_Mod_88) d_Mod_act_285 ?_
                  refine lv_goto (tgt := 293) F.1.1 F.1.2.1 d_Mod_act_288 (by decide) ?_
                  refine lv_lstore F.1.1 F.1.2.1 d_Mod_act_293 hl (by decide) rfl (fun ls hl => ?_)
                  refine lv_aload_n F.1.1 F.1.2.1 d_Mod_act_295 rfl (lv_at hl 3 rfl) ?_
                  refine lv_dup F.1.1 F.1.2.1 d_Mod_act_296 rfl ?_
                  refine gJ ck_Mod F hH q_fl_Mod_108 (k := 21) (by decide) rfl d_Mod_act_297 ?_
                  refine lv_lload F.1.1 F.1.2.1 d_Mod_act_300 (lv_at hl 0 rfl) ?_
                  refine lv_lload F.1.1 F.1.2.1 d_Mod_act_302 (lv_at hl 0 rfl) ?_
                  refine lv_lmul F.1.1 F.1.2.1 d_Mod_act_304 ?_
                  refine lv_ladd F.1.1 F.1.2.1 d_Mod_act_305 ?_
                  refine pJ ck_Mod F hH hS q_fl_Mod_108 (k := 21) (by decide) rfl rfl rfl d_Mod_act_306 (fun H locs hH hS => ?_)
                  refine lv_aload_n F.1.1 F.1.2.1 d_Mod_act_309 rfl (lv_at hl 3 rfl) ?_
                  refine lv_dup F.1.1 F.1.2.1 d_Mod_act_310 rfl ?_
                  refine gI ck_Mod F hH q_fl_Mod_112 (k := 20) (by decide) rfl d_Mod_act_311 ?_
                  refine lv_iconst (v := 1) F.1.1 F.1.2.1 d_Mod_act_314 (by decide) ?_
                  refine lv_iadd F.1.1 F.1.2.1 d_Mod_act_315 ?_
                  refine pI ck_Mod F hH hS q_fl_Mod_112 (k := 20) (by decide) rfl rfl rfl d_Mod_act_316 (fun H locs hH hS => ?_)
                  exact hw_vret F hr hlocks hH hS d_Mod_act_319 (congrArg (fun o => obP D ad β 6 shMod o f) (by unfold mAct; rw [if_neg (by rw [hk5]; decide), if_neg (by rw [hk5]; decide), if_neg (by rw [hk5]; decide), if_neg (by rw [hk5]; decide), if_neg (by rw [hk5]; decide), h6, nI_clamp (show i < 2 ^ 31 by omega)]; unfold mCmp cutM; rw [hlc, nI_clamp (show n < 2 ^ 31 by omega)] at *; rw [if_neg (Int64.not_lt.mpr c267), if_pos (Int64.not_le.mp c282)]; rfl))
              · rw [lg_cmp_ge] at c267
                refine lv_ldc2 F.1.1 F.1.2.1 F.1.2.2.2.1 (F.1.2.2.2.2 _ q_cl_Mod_106) d_Mod_act_270 ?_
                refine lv_goto (tgt := 293) F.1.1 F.1.2.1 d_Mod_act_273 (by decide) ?_
                refine lv_lstore F.1.1 F.1.2.1 d_Mod_act_293 hl (by decide) rfl (fun ls hl => ?_)
                refine lv_aload_n F.1.1 F.1.2.1 d_Mod_act_295 rfl (lv_at hl 3 rfl) ?_
                refine lv_dup F.1.1 F.1.2.1 d_Mod_act_296 rfl ?_
                refine gJ ck_Mod F hH q_fl_Mod_108 (k := 21) (by decide) rfl d_Mod_act_297 ?_
                refine lv_lload F.1.1 F.1.2.1 d_Mod_act_300 (lv_at hl 0 rfl) ?_
                refine lv_lload F.1.1 F.1.2.1 d_Mod_act_302 (lv_at hl 0 rfl) ?_
                refine lv_lmul F.1.1 F.1.2.1 d_Mod_act_304 ?_
                refine lv_ladd F.1.1 F.1.2.1 d_Mod_act_305 ?_
                refine pJ ck_Mod F hH hS q_fl_Mod_108 (k := 21) (by decide) rfl rfl rfl d_Mod_act_306 (fun H locs hH hS => ?_)
                refine lv_aload_n F.1.1 F.1.2.1 d_Mod_act_309 rfl (lv_at hl 3 rfl) ?_
                refine lv_dup F.1.1 F.1.2.1 d_Mod_act_310 rfl ?_
                refine gI ck_Mod F hH q_fl_Mod_112 (k := 20) (by decide) rfl d_Mod_act_311 ?_
                refine lv_iconst (v := 1) F.1.1 F.1.2.1 d_Mod_act_314 (by decide) ?_
                refine lv_iadd F.1.1 F.1.2.1 d_Mod_act_315 ?_
                refine pI ck_Mod F hH hS q_fl_Mod_112 (k := 20) (by decide) rfl rfl rfl d_Mod_act_316 (fun H locs hH hS => ?_)
                exact hw_vret F hr hlocks hH hS d_Mod_act_319 (congrArg (fun o => obP D ad β 6 shMod o f) (by unfold mAct; rw [if_neg (by rw [hk5]; decide), if_neg (by rw [hk5]; decide), if_neg (by rw [hk5]; decide), if_neg (by rw [hk5]; decide), if_neg (by rw [hk5]; decide), h6, nI_clamp (show i < 2 ^ 31 by omega)]; unfold mCmp cutM; rw [hlc, nI_clamp (show n < 2 ^ 31 by omega)] at *; rw [if_pos (Int64.not_le.mp c267)]; rfl))
            · rw [nI_clamp (show n < 2 ^ 31 by omega), hk5] at c220
              exact absurd c220 (by decide)
          · rw [nI_clamp (show n < 2 ^ 31 by omega), hk5] at c185
            exact absurd c185 (by decide)
        · rw [nI_clamp (show n < 2 ^ 31 by omega), hk5] at c149
          exact absurd c149 (by decide)
      · rw [nI_clamp (show n < 2 ^ 31 by omega), hk5] at c71
        exact absurd c71 (by decide)
    · rw [nI_clamp (show n < 2 ^ 31 by omega), hk5] at c13
      exact absurd c13 (by decide)
