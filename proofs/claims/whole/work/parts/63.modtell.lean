/-! CellSettlingModel.doAnew, tell; printed by wip/gen/modc.py -/
theorem Hrel_sub {σ : Xs} {o : Ob} {n m : Nat} (h : Hrel σ o n) (hm : m ≤ n) : Hrel σ o m := ⟨h.1, h.2.1, fun i hi => h.2.2 i (by omega)⟩
def m1 (o : Ob) (i : Nat) : Ob := sA (sA o 10 (fun j => if j < i then 0 else oA o 10 j)) 15 (fun j => if j < i then 0 else oA o 15 j)
def m2 (o : Ob) (i : Nat) : Ob := sA (m1 o 8) 16 (fun j => if j < i then 0 else oA o 16 j)
theorem if0 {g : Nat → Int32} : (fun j => if j < 0 then 0 else g j) = g := by
  funext j; exact if_neg (by omega)
theorem upd_if {g : Nat → Int32} {i : Nat} : upd (fun j => if j < i then 0 else g j) i 0 = fun j => if j < i + 1 then 0 else g j := by
  funext c
  by_cases hc : c = i
  · subst hc; rw [pk_us, if_pos (by omega)]
  · rw [pk_un hc]
    by_cases h1 : c < i
    · rw [if_pos h1, if_pos (by omega)]
    · rw [if_neg h1, if_neg (by omega)]
theorem m1_0 {o : Ob} : m1 o 0 = o := by
  unfold m1
  rw [if0, if0, sA_self, sA_self]
theorem m2_0 {o : Ob} : m2 o 0 = m1 o 8 := by
  unfold m2
  rw [if0, show oA o 16 = oA (m1 o 8) 16 from rfl, sA_self]
theorem m1_s {o : Ob} {i : Nat} : sA (sA (m1 o i) 10 (upd (oA (m1 o i) 10) i 0)) 15 (upd (oA (sA (m1 o i) 10 (upd (oA (m1 o i) 10) i 0)) 15) i 0) = m1 o (i + 1) := by
  have e1 : oA (m1 o i) 10 = fun j => if j < i then 0 else oA o 10 j := rfl
  have e2 : oA (sA (m1 o i) 10 (upd (oA (m1 o i) 10) i 0)) 15 = fun j => if j < i then 0 else oA o 15 j := rfl
  rw [e2, e1, upd_if, upd_if]
  refine Ob.ext (fun _ => rfl) (fun _ => rfl) (fun j => ?_) (fun _ => rfl)
  unfold m1
  simp only [oA_A]
  by_cases h1 : j = 15
  · rw [if_pos h1, if_pos h1]
  · by_cases h2 : j = 10
    · simp only [h1, h2, if_true, if_false]
    · simp only [h1, h2, if_false]
theorem m2_s {o : Ob} {i : Nat} : sA (m2 o i) 16 (upd (oA (m2 o i) 16) i 0) = m2 o (i + 1) := by
  have e1 : oA (m2 o i) 16 = fun j => if j < i then 0 else oA o 16 j := rfl
  rw [e1, upd_if]
  refine Ob.ext (fun _ => rfl) (fun _ => rfl) (fun j => ?_) (fun _ => rfl)
  unfold m2
  simp only [oA_A]
  by_cases h1 : j = 16
  · rw [if_pos h1, if_pos h1]
  · rw [if_neg h1, if_neg h1, if_neg h1]
def mAd (o : Ob) (n : Nat) (wh pl nu : Int32) (am th : Int64) : Ob := sI (sB (sB (sA (sA (sA o 5 (upd (oA o 5) n wh)) 6 (upd (oA o 6) n pl)) 7 (upd (oA o 7) n nu)) 8 (vp_updL (oB o 8) n am)) 9 (vp_updL (oB o 9) n th)) 4 (nI (n + 1))
theorem mAd_eq {o : Ob} {n : Nat} {wh pl nu : Int32} {am th : Int64} (hn : oI o 4 = nI n) (h : n < 200) : sI (sB (sB (sA (sA (sA o 5 (upd (oA o 5) (oI o 4).toNatClampNeg wh)) 6 (upd (oA o 6) (oI o 4).toNatClampNeg pl)) 7 (upd (oA o 7) (oI o 4).toNatClampNeg nu)) 8 (vp_updL (oB o 8) (oI o 4).toNatClampNeg am)) 9 (vp_updL (oB o 9) (oI o 4).toNatClampNeg th)) 4 (oI o 4 + 1) = mAd o n wh pl nu am th := by
  rw [hn, nI_clamp (by omega), nI_1]; rfl
set_option maxHeartbeats 1000000 in
theorem c_Mod_doAnew (l : Launch) (D : va_G) (L0 : Nat) (ad : Nat → Nat) (β : Nat) (o : Ob) (f : Nat → Option va_E) (hA : hasO D ad β 6 shMod o f) (σ : Xs) (hG : gd σ) (hT : oI o 4 = nI (tc (xT σ))) (hHr : Hrel σ o (tc (xT σ))) : Met l y_Mod_doAnew (wd y_Mod_doAnew b_Mod_doAnew 2 none) { frames := 2, cells := 0, slots := 0, locals := 55 } (va_Pc [.ref (ad β)] (cp D L0 ad (f))) (dt D L0 ad (none) (obP D ad β 6 shMod (mRep o (xC σ) (tc (xT σ))) f)) 0 0 (fun q => L0 ≤ q) := by
  refine hw_met (by decide) (Nat.le_of_ble_eq_true rfl) ?_
  intro p e s m below meth c ls F hr hlocks hnm hL hH hS hl
  replace hH := hH.to hA.symm
  have htc := hG.1.2.2.2.2.2.2
  refine lv_iconst (v := 0) F.1.1 F.1.2.1 d_Mod_doAnew_0 (by decide) ?_
  refine lv_istore_n F.1.1 F.1.2.1 d_Mod_doAnew_1 rfl hl (by decide) rfl (fun ls hl => ?_)
  have L2 : ∀ (u : Nat) (i : Nat) (H : Heap) (locs : List Loc) (ls : Array Slot), (i ≤ 8) → 8 - i < u → hw D L0 ad (obP D ad β 6 shMod (m1 o i) f) H → va_S (fun q => L0 ≤ q) s.heap H locs → lv_has ls 2 [(0, .ref (ad β)), (1, .int (nI i))] → W p l e { frames := 2, cells := 0, slots := 0, locals := 55 } s m [.ref (ad β)].toArray below meth c H locs 0 0 (MQ below (dt D L0 ad (none) (obP D ad β 6 shMod (mRep o (xC σ) (tc (xT σ))) f)) [.ref (ad β)].toArray s 0 0 (fun q => L0 ≤ q)) (F0 m 2 ls []) := by
    intro u
    induction u with
    | zero => intros; exact absurd ‹(_ : Nat) < 0› (Nat.not_lt_zero _)
    | succ u ih2 =>
      intro i H locs ls hi hu hH hS hl
      refine lv_iload_n F.1.1 F.1.2.1 d_Mod_doAnew_2 rfl (lv_at hl 1 rfl) ?_
      refine lv_bipush (v := 8) F.1.1 F.1.2.1 d_Mod_doAnew_3 (by decide) ?_
      refine lv_icmp_ge (tgt := 28) F.1.1 F.1.2.1 d_Mod_doAnew_5 (by decide) (fun c5 => ?_) (fun c5 => ?_)
      · have hin : 8 ≤ i := (nI_leI (by omega) (by omega)).mp (show nI 8 ≤ nI i from c5)
        refine lv_iconst (v := 0) F.1.1 F.1.2.1 d_Mod_doAnew_28 (by decide) ?_
        refine lv_istore_n F.1.1 F.1.2.1 d_Mod_doAnew_29 rfl hl (by decide) rfl (fun ls hl => ?_)
        have L30 : ∀ (u : Nat) (i : Nat) (H : Heap) (locs : List Loc) (ls : Array Slot), (i ≤ 4) → 4 - i < u → hw D L0 ad (obP D ad β 6 shMod (m2 o i) f) H → va_S (fun q => L0 ≤ q) s.heap H locs → lv_has ls 2 [(0, .ref (ad β)), (1, .int (nI i))] → W p l e { frames := 2, cells := 0, slots := 0, locals := 55 } s m [.ref (ad β)].toArray below meth c H locs 0 0 (MQ below (dt D L0 ad (none) (obP D ad β 6 shMod (mRep o (xC σ) (tc (xT σ))) f)) [.ref (ad β)].toArray s 0 0 (fun q => L0 ≤ q)) (F0 m 30 ls []) := by
          intro u
          induction u with
          | zero => intros; exact absurd ‹(_ : Nat) < 0› (Nat.not_lt_zero _)
          | succ u ih30 =>
            intro i H locs ls hi hu hH hS hl
            refine lv_iload_n F.1.1 F.1.2.1 d_Mod_doAnew_30 rfl (lv_at hl 1 rfl) ?_
            refine lv_iconst (v := 4) F.1.1 F.1.2.1 d_Mod_doAnew_31 (by decide) ?_
            refine lv_icmp_ge (tgt := 48) F.1.1 F.1.2.1 d_Mod_doAnew_32 (by decide) (fun c32 => ?_) (fun c32 => ?_)
            · have hin : 4 ≤ i := (nI_leI (by omega) (by omega)).mp (show nI 4 ≤ nI i from c32)
              refine lv_aload_n F.1.1 F.1.2.1 d_Mod_doAnew_48 rfl (lv_at hl 0 rfl) ?_
              refine lv_iconst (v := 0) F.1.1 F.1.2.1 d_Mod_doAnew_49 (by decide) ?_
              refine pI ck_Mod F hH hS q_fl_Mod_90 (k := 19) (by decide) rfl rfl rfl d_Mod_doAnew_50 (fun H locs hH hS => ?_)
              refine lv_aload_n F.1.1 F.1.2.1 d_Mod_doAnew_53 rfl (lv_at hl 0 rfl) ?_
              refine lv_iconst (v := 0) F.1.1 F.1.2.1 d_Mod_doAnew_54 (by decide) ?_
              refine pI ck_Mod F hH hS q_fl_Mod_112 (k := 20) (by decide) rfl rfl rfl d_Mod_doAnew_55 (fun H locs hH hS => ?_)
              refine lv_aload_n F.1.1 F.1.2.1 d_Mod_doAnew_58 rfl (lv_at hl 0 rfl) ?_
              refine lv_lconst (v := 0) F.1.1 F.1.2.1 d_Mod_doAnew_59 (by decide) ?_
              refine pJ ck_Mod F hH hS q_fl_Mod_108 (k := 21) (by decide) rfl rfl rfl d_Mod_doAnew_60 (fun H locs hH hS => ?_)
              refine lv_iconst (v := 0) F.1.1 F.1.2.1 d_Mod_doAnew_63 (by decide) ?_
              refine lv_istore_n F.1.1 F.1.2.1 d_Mod_doAnew_64 rfl hl (by decide) rfl (fun ls hl => ?_)
              have L65 : ∀ (u : Nat) (i : Nat) (H : Heap) (locs : List Loc) (ls : Array Slot), (i ≤ tc (xT σ)) → tc (xT σ) - i < u → hw D L0 ad (obP D ad β 6 shMod (mRep o (xC σ) i) f) H → va_S (fun q => L0 ≤ q) s.heap H locs → lv_has ls 2 [(0, .ref (ad β)), (1, .int (nI i))] → W p l e { frames := 2, cells := 0, slots := 0, locals := 55 } s m [.ref (ad β)].toArray below meth c H locs 0 0 (MQ below (dt D L0 ad (none) (obP D ad β 6 shMod (mRep o (xC σ) (tc (xT σ))) f)) [.ref (ad β)].toArray s 0 0 (fun q => L0 ≤ q)) (F0 m 65 ls []) := by
                intro u
                induction u with
                | zero => intros; exact absurd ‹(_ : Nat) < 0› (Nat.not_lt_zero _)
                | succ u ih65 =>
                  intro i H locs ls hi hu hH hS hl
                  refine lv_iload_n F.1.1 F.1.2.1 d_Mod_doAnew_65 rfl (lv_at hl 1 rfl) ?_
                  refine lv_aload_n F.1.1 F.1.2.1 d_Mod_doAnew_66 rfl (lv_at hl 0 rfl) ?_
                  refine gI ck_Mod F hH q_fl_Mod_115 (k := 4) (by decide) rfl d_Mod_doAnew_67 ?_
                  refine lv_icmp_ge (tgt := 84) F.1.1 F.1.2.1 d_Mod_doAnew_70 (by decide) (fun c70 => ?_) (fun c70 => ?_)
                  · rw [show oI (mRep o (xC σ) i) 4 = nI (tc (xT σ)) from mRep_keep.2.2.1.trans hT] at c70
                    have hin := (nI_leI (by omega) (by omega)).mp c70
                    exact hw_vret F hr hlocks hH hS d_Mod_doAnew_84 (by rw [show i = tc (xT σ) by omega])
                  · rw [show oI (mRep o (xC σ) i) 4 = nI (tc (xT σ)) from mRep_keep.2.2.1.trans hT] at c70
                    have hin : i < tc (xT σ) := by
                      rcases Nat.lt_or_ge (i) (tc (xT σ)) with q | q
                      · exact q
                      · exact absurd (nI_le q (by omega)) c70
                    refine lv_aload_n F.1.1 F.1.2.1 d_Mod_doAnew_73 rfl (lv_at hl 0 rfl) ?_
                    refine lv_iload_n F.1.1 F.1.2.1 d_Mod_doAnew_74 rfl (lv_at hl 1 rfl) ?_
                    refine hw_call0 (hw_runV F hL hS hH hl (c_Mod_act l D L0 ad β (mRep o (xC σ) i) _ obP_id (repX σ i) (rep_B hG.1) i (by omega) (rep_LI hG.1 hG.2 (by omega)) (by rw [rep_keep.1, rep_keep.2.1]; exact hG.2 i hin) (Hrel_sub (hHr.keep mRep_keep rep_keep.1 rep_keep.2.1 (fun k => (rep_keep.2.2.2.2.2.2.2 k).2)) (by omega)) (rep_sim hG.1 hG.2 htc hHr (by omega))) ck_Mod obP_o rfl q_ml_Mod_118 q_im_Mod_act q_se_Mod_act q_in_Mod q_co_Mod_act rfl (k := 1) ⟨rfl, rfl, by decide +kernel, ⟨Nat.le_of_ble_eq_true rfl, Nat.le_of_ble_eq_true rfl⟩, Nat.le_of_ble_eq_true rfl⟩ rfl d_Mod_doAnew_75 ⟨Nat.le_of_ble_eq_true rfl, Nat.le_of_ble_eq_true rfl⟩) hS (fun H locs hH hS => ?_)
                    replace hH := hH.to (obP_obP.trans (by rw [rep_keep.2.1]))
                    refine lv_iinc F.1.1 F.1.2.1 d_Mod_doAnew_78 hl (k := 1) rfl rfl (by decide) rfl (fun ls hl => ?_)
                    refine lv_goto (tgt := 65) F.1.1 F.1.2.1 d_Mod_doAnew_81 (by decide) ?_
                    refine ih65 (i + 1) H locs ls (by omega) (by omega) hH hS (lv_sub hl [1, 0] ?_)
                    show [_, _] = [_, _]
                    rw [ii1]
                    first | done | rfl
              exact L65 (tc (xT σ) - 0 + 1) 0 H locs ls (Nat.zero_le _) (Nat.lt_succ_self _) (hH.to (by rw [show i = 4 by omega]; rfl)) hS (lv_sub hl [1, 0] rfl)
            · have hin : i < 4 := by
                rcases Nat.lt_or_ge i 4 with q | q
                · exact q
                · exact absurd (show nI 4 ≤ nI i from nI_le q (by omega)) c32
              refine lv_aload_n F.1.1 F.1.2.1 d_Mod_doAnew_35 rfl (lv_at hl 0 rfl) ?_
              refine gR ck_Mod F hH q_fl_Mod_50 (k := 16) (by decide) rfl (by decide) d_Mod_doAnew_36 ?_
              refine lv_iload_n F.1.1 F.1.2.1 d_Mod_doAnew_39 rfl (lv_at hl 1 rfl) ?_
              refine lv_iconst (v := 0) F.1.1 F.1.2.1 d_Mod_doAnew_40 (by decide) ?_
              refine tA F hH hS rfl (vp_in_nI (by omega) (by omega)) d_Mod_doAnew_41 (fun H locs hH hS => ?_)
              refine lv_iinc F.1.1 F.1.2.1 d_Mod_doAnew_42 hl (k := 1) rfl rfl (by decide) rfl (fun ls hl => ?_)
              refine lv_goto (tgt := 30) F.1.1 F.1.2.1 d_Mod_doAnew_45 (by decide) ?_
              refine ih30 (i + 1) H locs ls (by omega) (by omega) (hH.to (congrArg (fun o => obP D ad β 6 shMod o f) (by rw [nI_clamp (by omega)]; exact m2_s))) hS (lv_sub hl [1, 0] ?_)
              show [_, _] = [_, _]
              rw [ii1]
              first | done | rfl
        exact L30 (4 - 0 + 1) 0 H locs ls (Nat.zero_le _) (Nat.lt_succ_self _) (hH.to (by rw [show i = 8 by omega, ← m2_0])) hS (lv_sub hl [1, 0] rfl)
      · have hin : i < 8 := by
          rcases Nat.lt_or_ge i 8 with q | q
          · exact q
          · exact absurd (show nI 8 ≤ nI i from nI_le q (by omega)) c5
        refine lv_aload_n F.1.1 F.1.2.1 d_Mod_doAnew_8 rfl (lv_at hl 0 rfl) ?_
        refine gR ck_Mod F hH q_fl_Mod_32 (k := 10) (by decide) rfl (by decide) d_Mod_doAnew_9 ?_
        refine lv_iload_n F.1.1 F.1.2.1 d_Mod_doAnew_12 rfl (lv_at hl 1 rfl) ?_
        refine lv_iconst (v := 0) F.1.1 F.1.2.1 d_Mod_doAnew_13 (by decide) ?_
        refine tA F hH hS rfl (vp_in_nI (by omega) (by omega)) d_Mod_doAnew_14 (fun H locs hH hS => ?_)
        refine lv_aload_n F.1.1 F.1.2.1 d_Mod_doAnew_15 rfl (lv_at hl 0 rfl) ?_
        refine gR ck_Mod F hH q_fl_Mod_47 (k := 15) (by decide) rfl (by decide) d_Mod_doAnew_16 ?_
        refine lv_iload_n F.1.1 F.1.2.1 d_Mod_doAnew_19 rfl (lv_at hl 1 rfl) ?_
        refine lv_iconst (v := 0) F.1.1 F.1.2.1 d_Mod_doAnew_20 (by decide) ?_
        refine tA F hH hS rfl (vp_in_nI (by omega) (by omega)) d_Mod_doAnew_21 (fun H locs hH hS => ?_)
        refine lv_iinc F.1.1 F.1.2.1 d_Mod_doAnew_22 hl (k := 1) rfl rfl (by decide) rfl (fun ls hl => ?_)
        refine lv_goto (tgt := 2) F.1.1 F.1.2.1 d_Mod_doAnew_25 (by decide) ?_
        refine ih2 (i + 1) H locs ls (by omega) (by omega) (hH.to (congrArg (fun o => obP D ad β 6 shMod o f) (by rw [nI_clamp (by omega)]; exact m1_s))) hS (lv_sub hl [1, 0] ?_)
        show [_, _] = [_, _]
        rw [ii1]
        first | done | rfl
  exact L2 (8 - 0 + 1) 0 s.heap [] ls (Nat.zero_le _) (Nat.lt_succ_self _) (hH.to (by rw [m1_0])) hS (lv_sub hl [1, 0] rfl)
set_option maxHeartbeats 1000000 in
theorem c_Mod_tell (l : Launch) (D : va_G) (L0 : Nat) (ad : Nat → Nat) (β : Nat) (o : Ob) (f : Nat → Option va_E) (hA : hasO D ad β 6 shMod o f) (n : Nat) (hn : oI o 4 = nI n) (hn2 : n < 200) (wh pl nu : Int32) (am th : Int64) (σ : Xs) (hG : gd σ) (htc : tc (xT σ) = n + 1) (hHr : Hrel σ (mAd o n wh pl nu am th) (n + 1)) : Met l y_Mod_tell (wd y_Mod_tell b_Mod_tell 8 none) { frames := 3, cells := 0, slots := 0, locals := 76 } (va_Pc [.ref (ad β), .int wh, .int pl, .int nu, .long am, .long th] (cp D L0 ad (f))) (dt D L0 ad (none) (obP D ad β 6 shMod (mRep (mAd o n wh pl nu am th) (xC σ) (n + 1)) f)) 0 0 (fun q => L0 ≤ q) := by
  refine hw_met (by decide) (Nat.le_of_ble_eq_true rfl) ?_
  intro p e s m below meth c ls F hr hlocks hnm hL hH hS hl
  replace hH := hH.to hA.symm
  have hix : vp_in (oI o 4) 200 := by rw [hn]; exact vp_in_nI (by omega) (by omega)
  refine lv_aload_n F.1.1 F.1.2.1 d_Mod_tell_0 rfl (lv_at hl 0 rfl) ?_
  refine gR ck_Mod F hH q_fl_Mod_16 (k := 5) (by decide) rfl (by decide) d_Mod_tell_1 ?_
  refine lv_aload_n F.1.1 F.1.2.1 d_Mod_tell_4 rfl (lv_at hl 0 rfl) ?_
  refine gI ck_Mod F hH q_fl_Mod_115 (k := 4) (by decide) rfl d_Mod_tell_5 ?_
  refine lv_iload_n F.1.1 F.1.2.1 d_Mod_tell_8 rfl (lv_at hl 1 rfl) ?_
  refine tA F hH hS rfl hix d_Mod_tell_9 (fun H locs hH hS => ?_)
  refine lv_aload_n F.1.1 F.1.2.1 d_Mod_tell_10 rfl (lv_at hl 0 rfl) ?_
  refine gR ck_Mod F hH q_fl_Mod_19 (k := 6) (by decide) rfl (by decide) d_Mod_tell_11 ?_
  refine lv_aload_n F.1.1 F.1.2.1 d_Mod_tell_14 rfl (lv_at hl 0 rfl) ?_
  refine gI ck_Mod F hH q_fl_Mod_115 (k := 4) (by decide) rfl d_Mod_tell_15 ?_
  refine lv_iload_n F.1.1 F.1.2.1 d_Mod_tell_18 rfl (lv_at hl 2 rfl) ?_
  refine tA F hH hS rfl hix d_Mod_tell_19 (fun H locs hH hS => ?_)
  refine lv_aload_n F.1.1 F.1.2.1 d_Mod_tell_20 rfl (lv_at hl 0 rfl) ?_
  refine gR ck_Mod F hH q_fl_Mod_22 (k := 7) (by decide) rfl (by decide) d_Mod_tell_21 ?_
  refine lv_aload_n F.1.1 F.1.2.1 d_Mod_tell_24 rfl (lv_at hl 0 rfl) ?_
  refine gI ck_Mod F hH q_fl_Mod_115 (k := 4) (by decide) rfl d_Mod_tell_25 ?_
  refine lv_iload_n F.1.1 F.1.2.1 d_Mod_tell_28 rfl (lv_at hl 3 rfl) ?_
  refine tA F hH hS rfl hix d_Mod_tell_29 (fun H locs hH hS => ?_)
  refine lv_aload_n F.1.1 F.1.2.1 d_Mod_tell_30 rfl (lv_at hl 0 rfl) ?_
  refine gR ck_Mod F hH q_fl_Mod_25 (k := 8) (by decide) rfl (by decide) d_Mod_tell_31 ?_
  refine lv_aload_n F.1.1 F.1.2.1 d_Mod_tell_34 rfl (lv_at hl 0 rfl) ?_
  refine gI ck_Mod F hH q_fl_Mod_115 (k := 4) (by decide) rfl d_Mod_tell_35 ?_
  refine lv_lload F.1.1 F.1.2.1 d_Mod_tell_38 (lv_at hl 4 rfl) ?_
  refine tB F hH hS rfl hix d_Mod_tell_40 (fun H locs hH hS => ?_)
  refine lv_aload_n F.1.1 F.1.2.1 d_Mod_tell_41 rfl (lv_at hl 0 rfl) ?_
  refine gR ck_Mod F hH q_fl_Mod_29 (k := 9) (by decide) rfl (by decide) d_Mod_tell_42 ?_
  refine lv_aload_n F.1.1 F.1.2.1 d_Mod_tell_45 rfl (lv_at hl 0 rfl) ?_
  refine gI ck_Mod F hH q_fl_Mod_115 (k := 4) (by decide) rfl d_Mod_tell_46 ?_
  refine lv_lload F.1.1 F.1.2.1 d_Mod_tell_49 (lv_at hl 5 rfl) ?_
  refine tB F hH hS rfl hix d_Mod_tell_51 (fun H locs hH hS => ?_)
  refine lv_aload_n F.1.1 F.1.2.1 d_Mod_tell_52 rfl (lv_at hl 0 rfl) ?_
  refine lv_dup F.1.1 F.1.2.1 d_Mod_tell_53 rfl ?_
  refine gI ck_Mod F hH q_fl_Mod_115 (k := 4) (by decide) rfl d_Mod_tell_54 ?_
  refine lv_iconst (v := 1) F.1.1 F.1.2.1 d_Mod_tell_57 (by decide) ?_
  refine lv_iadd F.1.1 F.1.2.1 d_Mod_tell_58 ?_
  refine pI ck_Mod F hH hS q_fl_Mod_115 (k := 4) (by decide) rfl rfl rfl d_Mod_tell_59 (fun H locs hH hS => ?_)
  replace hH := hH.to (congrArg (fun o => obP D ad β 6 shMod o f) (mAd_eq hn hn2))
  refine lv_aload_n F.1.1 F.1.2.1 d_Mod_tell_62 rfl (lv_at hl 0 rfl) ?_
  refine hw_call0 (hw_runV F hL hS hH hl (c_Mod_doAnew l D L0 ad β (mAd o n wh pl nu am th) _ obP_id σ hG (by rw [htc]; rfl) (by rw [htc]; exact hHr)) ck_Mod obP_o rfl q_ml_Mod_121 q_im_Mod_doAnew q_se_Mod_doAnew q_in_Mod q_co_Mod_doAnew rfl (k := 0) ⟨rfl, rfl, by decide +kernel, ⟨Nat.le_of_ble_eq_true rfl, Nat.le_of_ble_eq_true rfl⟩, Nat.le_of_ble_eq_true rfl⟩ rfl d_Mod_tell_63 ⟨Nat.le_of_ble_eq_true rfl, Nat.le_of_ble_eq_true rfl⟩) hS (fun H locs hH hS => ?_)
  replace hH := hH.to obP_obP
  exact hw_vret F hr hlocks hH hS d_Mod_tell_66 (by rw [htc])
