/-! CellSettlingModel: the constructor; printed by wip/gen/modh.py -/
def mN (cn sd : Int32) (i : Nat) : Ob := sA (sA (sI (sI zO 0 (ccI cn)) 1 (cdF sd)) 2 (fun j => if j < i then 500 else 0)) 3 (fun j => if j < i then 1000 else 0)
def mO (cn sd : Int32) : Ob := mN cn sd 4
theorem upd_if2 {x : Int32} {i : Nat} : upd (fun j => if j < i then x else 0) i x = fun j => if j < i + 1 then x else 0 := by
  funext c
  by_cases hc : c = i
  · subst hc; rw [pk_us, if_pos (by omega)]
  · rw [pk_un hc]
    by_cases h1 : c < i
    · rw [if_pos h1, if_pos (by omega)]
    · rw [if_neg h1, if_neg (by omega)]
theorem mN_0 {cn sd : Int32} : mN cn sd 0 = sI (sI zO 0 (ccI cn)) 1 (cdF sd) := by
  have z : ∀ x : Int32, (fun j => if j < 0 then x else 0) = (fun _ : Nat => (0 : Int32)) := fun x => by funext j; exact if_neg (by omega)
  unfold mN
  rw [z, z]
  refine Ob.ext (fun _ => rfl) (fun _ => rfl) (fun j => ?_) (fun _ => rfl)
  rw [oA_A, oA_A]
  by_cases h1 : j = 3
  · rw [if_pos h1]; rfl
  · rw [if_neg h1]
    by_cases h2 : j = 2
    · rw [if_pos h2]; rfl
    · rw [if_neg h2]
theorem mN_s {cn sd : Int32} {i : Nat} : sA (sA (mN cn sd i) 2 (upd (oA (mN cn sd i) 2) i 500)) 3 (upd (oA (sA (mN cn sd i) 2 (upd (oA (mN cn sd i) 2) i 500)) 3) i 1000) = mN cn sd (i + 1) := by
  have e1 : oA (mN cn sd i) 2 = fun j => if j < i then 500 else 0 := rfl
  have e2 : oA (sA (mN cn sd i) 2 (upd (oA (mN cn sd i) 2) i 500)) 3 = fun j => if j < i then 1000 else 0 := rfl
  rw [e2, e1, upd_if2, upd_if2]
  refine Ob.ext (fun _ => rfl) (fun _ => rfl) (fun j => ?_) (fun _ => rfl)
  unfold mN
  simp only [oA_A]
  by_cases h1 : j = 3
  · rw [if_pos h1, if_pos h1]
  · by_cases h2 : j = 2
    · simp only [h1, h2, if_true, if_false]
    · simp only [h1, h2, if_false]
theorem wi100 {x : Int32} : wi x.toInt64 1 100 = 0 ↔ (x < 1 ∨ 100 < x) := by
  have h0 : (1 : Int32).toInt = 1 := by decide
  have h1 : (100 : Int32).toInt = 100 := by decide
  have h2 : (1 : Int64).toInt = 1 := by decide
  have h3 : (100 : Int64).toInt = 100 := by decide
  rw [wi_0, Int64_le, Int64_le, i2l_toInt, Int32.lt_iff_toInt_lt, Int32.lt_iff_toInt_lt, h0, h1, h2, h3]
  omega
theorem wi8 {x : Int32} : wi x.toInt64 1 8 = 0 ↔ (x < 1 ∨ 8 < x) := by
  have h0 : (1 : Int32).toInt = 1 := by decide
  have h1 : (8 : Int32).toInt = 8 := by decide
  have h2 : (1 : Int64).toInt = 1 := by decide
  have h3 : (8 : Int64).toInt = 8 := by decide
  rw [wi_0, Int64_le, Int64_le, i2l_toInt, Int32.lt_iff_toInt_lt, Int32.lt_iff_toInt_lt, h0, h1, h2, h3]
  omega
set_option maxHeartbeats 2000000 in
theorem c_Mod_init (l : Launch) (D : va_G) (L0 : Nat) (ad : Nat → Nat) (β : Nat) (f : Nat → Option va_E) (hN : ∀ k, k < 29 → f (β + 1 + k) = none) (cn sd : Int32) : Met l y_Mod_init (wd y_Mod_init b_Mod_init 4 none) { frames := 1, cells := 21, slots := 1592, locals := 24 } (va_Pc [.ref (ad β), .int cn, .int sd] (cp D L0 ad (obT D ad β 6 shMod 0 f))) (da D L0 none (fun ad' f' => (∀ x, (x ≤ β ∨ β + 29 < x) → ad' x = ad x) ∧ f' = obP D ad' β 6 shMod (mO cn sd) f)) 21 1592 (fun q => L0 ≤ q) := by
  refine hw_met (by decide) (Nat.le_of_ble_eq_true rfl) ?_
  intro p e s m below meth c ls F hr hlocks hnm hL hH hS hl
  refine lv_aload_n F.1.1 F.1.2.1 d_Mod_init_0 rfl (lv_at hl 0 rfl) ?_
  refine oInit F hl q_ml_Mod_1 q_im_Object q_co_Object d_Mod_init_1 (Nat.le_of_ble_eq_true rfl) (Nat.le_of_ble_eq_true rfl) ?_
  have hb0 : ad β = ad β := rfl
  replace hH := hH.to (obT_num (j := 0) rfl (Or.inl rfl))
  replace hH := hH.to (obT_num (j := 1) rfl (Or.inl rfl))
  refine lv_aload_n F.1.1 F.1.2.1 d_Mod_init_4 rfl (lv_at hl 0 rfl) ?_
  refine lv_iconst (v := 4) F.1.1 F.1.2.1 d_Mod_init_5 (by decide) ?_
  refine ct_a (t0 := 0) ck_Mod F hL hH hS (j := 2) rfl (by decide) (by decide) (hN 2 (by decide)) rfl q_ac_int rfl rfl (fun _ => rfl) (by decide) (by decide) (by decide) (Nat.le_of_ble_eq_true rfl) (Nat.le_of_ble_eq_true rfl) d_Mod_init_6 q_fl_Mod_7 (by decide) rfl hnm rfl rfl hb0 d_Mod_init_8 (fun ad1 H locs hx1 hH hS => ?_)
  have hb1 : ad1 β = ad β := (hx1 β (by omega)).trans hb0
  refine lv_aload_n F.1.1 F.1.2.1 d_Mod_init_11 rfl (lv_at hl 0 rfl) ?_
  refine lv_iconst (v := 4) F.1.1 F.1.2.1 d_Mod_init_12 (by decide) ?_
  refine ct_a (t0 := 0) ck_Mod F hL hH hS (j := 3) rfl (by decide) (by decide) (hN 3 (by decide)) rfl q_ac_int rfl rfl (fun _ => rfl) (by decide) (by decide) (by decide) (Nat.le_of_ble_eq_true rfl) (Nat.le_of_ble_eq_true rfl) d_Mod_init_13 q_fl_Mod_13 (by decide) rfl hnm rfl rfl hb1 d_Mod_init_15 (fun ad2 H locs hx2 hH hS => ?_)
  have hb2 : ad2 β = ad β := (hx2 β (by omega)).trans hb1
  replace hH := hH.to (obT_num (j := 4) rfl (Or.inl rfl))
  refine lv_aload_n F.1.1 F.1.2.1 d_Mod_init_18 rfl (lv_at hl 0 rfl) ?_
  refine lv_sipush (v := 200) F.1.1 F.1.2.1 d_Mod_init_19 (by decide) ?_
  refine ct_a (t0 := 0) ck_Mod F hL hH hS (j := 5) rfl (by decide) (by decide) (hN 5 (by decide)) rfl q_ac_int rfl rfl (fun _ => rfl) (by decide) (by decide) (by decide) (Nat.le_of_ble_eq_true rfl) (Nat.le_of_ble_eq_true rfl) d_Mod_init_22 q_fl_Mod_16 (by decide) rfl hnm rfl rfl hb2 d_Mod_init_24 (fun ad3 H locs hx3 hH hS => ?_)
  have hb3 : ad3 β = ad β := (hx3 β (by omega)).trans hb2
  refine lv_aload_n F.1.1 F.1.2.1 d_Mod_init_27 rfl (lv_at hl 0 rfl) ?_
  refine lv_sipush (v := 200) F.1.1 F.1.2.1 d_Mod_init_28 (by decide) ?_
  refine ct_a (t0 := 0) ck_Mod F hL hH hS (j := 6) rfl (by decide) (by decide) (hN 6 (by decide)) rfl q_ac_int rfl rfl (fun _ => rfl) (by decide) (by decide) (by decide) (Nat.le_of_ble_eq_true rfl) (Nat.le_of_ble_eq_true rfl) d_Mod_init_31 q_fl_Mod_19 (by decide) rfl hnm rfl rfl hb3 d_Mod_init_33 (fun ad4 H locs hx4 hH hS => ?_)
  have hb4 : ad4 β = ad β := (hx4 β (by omega)).trans hb3
  refine lv_aload_n F.1.1 F.1.2.1 d_Mod_init_36 rfl (lv_at hl 0 rfl) ?_
  refine lv_sipush (v := 200) F.1.1 F.1.2.1 d_Mod_init_37 (by decide) ?_
  refine ct_a (t0 := 0) ck_Mod F hL hH hS (j := 7) rfl (by decide) (by decide) (hN 7 (by decide)) rfl q_ac_int rfl rfl (fun _ => rfl) (by decide) (by decide) (by decide) (Nat.le_of_ble_eq_true rfl) (Nat.le_of_ble_eq_true rfl) d_Mod_init_40 q_fl_Mod_22 (by decide) rfl hnm rfl rfl hb4 d_Mod_init_42 (fun ad5 H locs hx5 hH hS => ?_)
  have hb5 : ad5 β = ad β := (hx5 β (by omega)).trans hb4
  refine lv_aload_n F.1.1 F.1.2.1 d_Mod_init_45 rfl (lv_at hl 0 rfl) ?_
  refine lv_sipush (v := 200) F.1.1 F.1.2.1 d_Mod_init_46 (by decide) ?_
  refine ct_a (t0 := 1) ck_Mod F hL hH hS (j := 8) rfl (by decide) (by decide) (hN 8 (by decide)) rfl q_ac_long rfl rfl (fun _ => rfl) (by decide) (by decide) (by decide) (Nat.le_of_ble_eq_true rfl) (Nat.le_of_ble_eq_true rfl) d_Mod_init_49 q_fl_Mod_25 (by decide) rfl hnm rfl rfl hb5 d_Mod_init_51 (fun ad6 H locs hx6 hH hS => ?_)
  have hb6 : ad6 β = ad β := (hx6 β (by omega)).trans hb5
  refine lv_aload_n F.1.1 F.1.2.1 d_Mod_init_54 rfl (lv_at hl 0 rfl) ?_
  refine lv_sipush (v := 200) F.1.1 F.1.2.1 d_Mod_init_55 (by decide) ?_
  refine ct_a (t0 := 1) ck_Mod F hL hH hS (j := 9) rfl (by decide) (by decide) (hN 9 (by decide)) rfl q_ac_long rfl rfl (fun _ => rfl) (by decide) (by decide) (by decide) (Nat.le_of_ble_eq_true rfl) (Nat.le_of_ble_eq_true rfl) d_Mod_init_58 q_fl_Mod_29 (by decide) rfl hnm rfl rfl hb6 d_Mod_init_60 (fun ad7 H locs hx7 hH hS => ?_)
  have hb7 : ad7 β = ad β := (hx7 β (by omega)).trans hb6
  refine lv_aload_n F.1.1 F.1.2.1 d_Mod_init_63 rfl (lv_at hl 0 rfl) ?_
  refine lv_bipush (v := 8) F.1.1 F.1.2.1 d_Mod_init_64 (by decide) ?_
  refine ct_a (t0 := 0) ck_Mod F hL hH hS (j := 10) rfl (by decide) (by decide) (hN 10 (by decide)) rfl q_ac_int rfl rfl (fun _ => rfl) (by decide) (by decide) (by decide) (Nat.le_of_ble_eq_true rfl) (Nat.le_of_ble_eq_true rfl) d_Mod_init_66 q_fl_Mod_32 (by decide) rfl hnm rfl rfl hb7 d_Mod_init_68 (fun ad8 H locs hx8 hH hS => ?_)
  have hb8 : ad8 β = ad β := (hx8 β (by omega)).trans hb7
  refine lv_aload_n F.1.1 F.1.2.1 d_Mod_init_71 rfl (lv_at hl 0 rfl) ?_
  refine lv_bipush (v := 80) F.1.1 F.1.2.1 d_Mod_init_72 (by decide) ?_
  refine ct_a (t0 := 0) ck_Mod F hL hH hS (j := 11) rfl (by decide) (by decide) (hN 11 (by decide)) rfl q_ac_int rfl rfl (fun _ => rfl) (by decide) (by decide) (by decide) (Nat.le_of_ble_eq_true rfl) (Nat.le_of_ble_eq_true rfl) d_Mod_init_74 q_fl_Mod_35 (by decide) rfl hnm rfl rfl hb8 d_Mod_init_76 (fun ad9 H locs hx9 hH hS => ?_)
  have hb9 : ad9 β = ad β := (hx9 β (by omega)).trans hb8
  refine lv_aload_n F.1.1 F.1.2.1 d_Mod_init_79 rfl (lv_at hl 0 rfl) ?_
  refine lv_bipush (v := 80) F.1.1 F.1.2.1 d_Mod_init_80 (by decide) ?_
  refine ct_a (t0 := 1) ck_Mod F hL hH hS (j := 12) rfl (by decide) (by decide) (hN 12 (by decide)) rfl q_ac_long rfl rfl (fun _ => rfl) (by decide) (by decide) (by decide) (Nat.le_of_ble_eq_true rfl) (Nat.le_of_ble_eq_true rfl) d_Mod_init_82 q_fl_Mod_38 (by decide) rfl hnm rfl rfl hb9 d_Mod_init_84 (fun ad10 H locs hx10 hH hS => ?_)
  have hb10 : ad10 β = ad β := (hx10 β (by omega)).trans hb9
  refine lv_aload_n F.1.1 F.1.2.1 d_Mod_init_87 rfl (lv_at hl 0 rfl) ?_
  refine lv_bipush (v := 80) F.1.1 F.1.2.1 d_Mod_init_88 (by decide) ?_
  refine ct_a (t0 := 1) ck_Mod F hL hH hS (j := 13) rfl (by decide) (by decide) (hN 13 (by decide)) rfl q_ac_long rfl rfl (fun _ => rfl) (by decide) (by decide) (by decide) (Nat.le_of_ble_eq_true rfl) (Nat.le_of_ble_eq_true rfl) d_Mod_init_90 q_fl_Mod_41 (by decide) rfl hnm rfl rfl hb10 d_Mod_init_92 (fun ad11 H locs hx11 hH hS => ?_)
  have hb11 : ad11 β = ad β := (hx11 β (by omega)).trans hb10
  refine lv_aload_n F.1.1 F.1.2.1 d_Mod_init_95 rfl (lv_at hl 0 rfl) ?_
  refine lv_bipush (v := 80) F.1.1 F.1.2.1 d_Mod_init_96 (by decide) ?_
  refine ct_a (t0 := 0) ck_Mod F hL hH hS (j := 14) rfl (by decide) (by decide) (hN 14 (by decide)) rfl q_ac_int rfl rfl (fun _ => rfl) (by decide) (by decide) (by decide) (Nat.le_of_ble_eq_true rfl) (Nat.le_of_ble_eq_true rfl) d_Mod_init_98 q_fl_Mod_44 (by decide) rfl hnm rfl rfl hb11 d_Mod_init_100 (fun ad12 H locs hx12 hH hS => ?_)
  have hb12 : ad12 β = ad β := (hx12 β (by omega)).trans hb11
  refine lv_aload_n F.1.1 F.1.2.1 d_Mod_init_103 rfl (lv_at hl 0 rfl) ?_
  refine lv_bipush (v := 8) F.1.1 F.1.2.1 d_Mod_init_104 (by decide) ?_
  refine ct_a (t0 := 0) ck_Mod F hL hH hS (j := 15) rfl (by decide) (by decide) (hN 15 (by decide)) rfl q_ac_int rfl rfl (fun _ => rfl) (by decide) (by decide) (by decide) (Nat.le_of_ble_eq_true rfl) (Nat.le_of_ble_eq_true rfl) d_Mod_init_106 q_fl_Mod_47 (by decide) rfl hnm rfl rfl hb12 d_Mod_init_108 (fun ad13 H locs hx13 hH hS => ?_)
  have hb13 : ad13 β = ad β := (hx13 β (by omega)).trans hb12
  refine lv_aload_n F.1.1 F.1.2.1 d_Mod_init_111 rfl (lv_at hl 0 rfl) ?_
  refine lv_iconst (v := 4) F.1.1 F.1.2.1 d_Mod_init_112 (by decide) ?_
  refine ct_a (t0 := 0) ck_Mod F hL hH hS (j := 16) rfl (by decide) (by decide) (hN 16 (by decide)) rfl q_ac_int rfl rfl (fun _ => rfl) (by decide) (by decide) (by decide) (Nat.le_of_ble_eq_true rfl) (Nat.le_of_ble_eq_true rfl) d_Mod_init_113 q_fl_Mod_50 (by decide) rfl hnm rfl rfl hb13 d_Mod_init_115 (fun ad14 H locs hx14 hH hS => ?_)
  have hb14 : ad14 β = ad β := (hx14 β (by omega)).trans hb13
  refine lv_aload_n F.1.1 F.1.2.1 d_Mod_init_118 rfl (lv_at hl 0 rfl) ?_
  refine lv_bipush (v := 16) F.1.1 F.1.2.1 d_Mod_init_119 (by decide) ?_
  refine ct_a (t0 := 1) ck_Mod F hL hH hS (j := 17) rfl (by decide) (by decide) (hN 17 (by decide)) rfl q_ac_long rfl rfl (fun _ => rfl) (by decide) (by decide) (by decide) (Nat.le_of_ble_eq_true rfl) (Nat.le_of_ble_eq_true rfl) d_Mod_init_121 q_fl_Mod_53 (by decide) rfl hnm rfl rfl hb14 d_Mod_init_123 (fun ad15 H locs hx15 hH hS => ?_)
  have hb15 : ad15 β = ad β := (hx15 β (by omega)).trans hb14
  refine lv_aload_n F.1.1 F.1.2.1 d_Mod_init_126 rfl (lv_at hl 0 rfl) ?_
  refine lv_bipush (v := 16) F.1.1 F.1.2.1 d_Mod_init_127 (by decide) ?_
  refine ct_a (t0 := 0) ck_Mod F hL hH hS (j := 18) rfl (by decide) (by decide) (hN 18 (by decide)) rfl q_ac_int rfl rfl (fun _ => rfl) (by decide) (by decide) (by decide) (Nat.le_of_ble_eq_true rfl) (Nat.le_of_ble_eq_true rfl) d_Mod_init_129 q_fl_Mod_56 (by decide) rfl hnm rfl rfl hb15 d_Mod_init_131 (fun ad16 H locs hx16 hH hS => ?_)
  have hb16 : ad16 β = ad β := (hx16 β (by omega)).trans hb15
  replace hH := hH.to (obT_num (j := 19) rfl (Or.inl rfl))
  replace hH := hH.to (obT_num (j := 20) rfl (Or.inl rfl))
  replace hH := hH.to (obT_num (j := 21) rfl (Or.inr rfl))
  replace hH := hH.to (obT_num (j := 22) rfl (Or.inl rfl))
  refine lv_aload_n F.1.1 F.1.2.1 d_Mod_init_134 rfl (lv_at hl 0 rfl) ?_
  refine lv_bipush (v := 100) F.1.1 F.1.2.1 d_Mod_init_135 (by decide) ?_
  refine ct_a (t0 := 0) ck_Mod F hL hH hS (j := 23) rfl (by decide) (by decide) (hN 23 (by decide)) rfl q_ac_int rfl rfl (fun _ => rfl) (by decide) (by decide) (by decide) (Nat.le_of_ble_eq_true rfl) (Nat.le_of_ble_eq_true rfl) d_Mod_init_137 q_fl_Mod_59 (by decide) rfl hnm rfl rfl hb16 d_Mod_init_139 (fun ad17 H locs hx17 hH hS => ?_)
  have hb17 : ad17 β = ad β := (hx17 β (by omega)).trans hb16
  refine lv_aload_n F.1.1 F.1.2.1 d_Mod_init_142 rfl (lv_at hl 0 rfl) ?_
  refine lv_bipush (v := 100) F.1.1 F.1.2.1 d_Mod_init_143 (by decide) ?_
  refine ct_a (t0 := 2) ck_Mod F hL hH hS (j := 24) rfl (by decide) (by decide) (hN 24 (by decide)) rfl q_ac_boolean rfl rfl (fun _ => rfl) (by decide) (by decide) (by decide) (Nat.le_of_ble_eq_true rfl) (Nat.le_of_ble_eq_true rfl) d_Mod_init_145 q_fl_Mod_62 (by decide) rfl hnm rfl rfl hb17 d_Mod_init_147 (fun ad18 H locs hx18 hH hS => ?_)
  have hb18 : ad18 β = ad β := (hx18 β (by omega)).trans hb17
  replace hH := hH.to (obT_num (j := 25) rfl (Or.inl rfl))
  refine lv_aload_n F.1.1 F.1.2.1 d_Mod_init_150 rfl (lv_at hl 0 rfl) ?_
  refine lv_iconst (v := 4) F.1.1 F.1.2.1 d_Mod_init_151 (by decide) ?_
  refine ct_a (t0 := 0) ck_Mod F hL hH hS (j := 26) rfl (by decide) (by decide) (hN 26 (by decide)) rfl q_ac_int rfl rfl (fun _ => rfl) (by decide) (by decide) (by decide) (Nat.le_of_ble_eq_true rfl) (Nat.le_of_ble_eq_true rfl) d_Mod_init_152 q_fl_Mod_66 (by decide) rfl hnm rfl rfl hb18 d_Mod_init_154 (fun ad19 H locs hx19 hH hS => ?_)
  have hb19 : ad19 β = ad β := (hx19 β (by omega)).trans hb18
  refine lv_aload_n F.1.1 F.1.2.1 d_Mod_init_157 rfl (lv_at hl 0 rfl) ?_
  refine lv_iconst (v := 4) F.1.1 F.1.2.1 d_Mod_init_158 (by decide) ?_
  refine ct_a (t0 := 0) ck_Mod F hL hH hS (j := 27) rfl (by decide) (by decide) (hN 27 (by decide)) rfl q_ac_int rfl rfl (fun _ => rfl) (by decide) (by decide) (by decide) (Nat.le_of_ble_eq_true rfl) (Nat.le_of_ble_eq_true rfl) d_Mod_init_159 q_fl_Mod_69 (by decide) rfl hnm rfl rfl hb19 d_Mod_init_161 (fun ad20 H locs hx20 hH hS => ?_)
  have hb20 : ad20 β = ad β := (hx20 β (by omega)).trans hb19
  refine lv_aload_n F.1.1 F.1.2.1 d_Mod_init_164 rfl (lv_at hl 0 rfl) ?_
  refine lv_iconst (v := 4) F.1.1 F.1.2.1 d_Mod_init_165 (by decide) ?_
  refine ct_a (t0 := 1) ck_Mod F hL hH hS (j := 28) rfl (by decide) (by decide) (hN 28 (by decide)) rfl q_ac_long rfl rfl (fun _ => rfl) (by decide) (by decide) (by decide) (Nat.le_of_ble_eq_true rfl) (Nat.le_of_ble_eq_true rfl) d_Mod_init_166 q_fl_Mod_72 (by decide) rfl hnm rfl rfl hb20 d_Mod_init_168 (fun ad21 H locs hx21 hH hS => ?_)
  have hb21 : ad21 β = ad β := (hx21 β (by omega)).trans hb20
  replace hH := hH.to obT_end
  rw [← hb21] at hl
  have L213 : ∀ (u i : Nat) (H : Heap) (locs : List Loc) (ls : Array Slot), i ≤ 4 → 4 - i < u → hw D L0 ad21 (obP D ad21 β 6 shMod (mN cn sd i) f) H → va_S (fun q => L0 ≤ q) s.heap H locs → lv_has ls 4 [(3, .int (nI i)), (0, .ref (ad21 β)), (1, .int cn), (2, .int sd)] → W p l e { frames := 1, cells := 21, slots := 1592, locals := 24 } s m [Value.ref (ad β), .int cn, .int sd].toArray below meth c H locs 21 1592 (MQ below (da D L0 none (fun ad' f' => (∀ x, (x ≤ β ∨ β + 29 < x) → ad' x = ad x) ∧ f' = obP D ad' β 6 shMod (mO cn sd) f)) [Value.ref (ad β), .int cn, .int sd].toArray s 21 1592 (fun q => L0 ≤ q)) (F0 m 213 ls []) := by
    intro u
    induction u with
    | zero => intros; exact absurd ‹(_ : Nat) < 0› (Nat.not_lt_zero _)
    | succ u ih =>
      intro i H locs ls hi hu hH hS hl
      refine lv_iload_n F.1.1 F.1.2.1 d_Mod_init_213 rfl (lv_at hl 0 rfl) ?_
      refine lv_iconst (v := 4) F.1.1 F.1.2.1 d_Mod_init_214 (by decide) ?_
      refine lv_icmp_ge (tgt := 242) F.1.1 F.1.2.1 d_Mod_init_215 (by decide) (fun c215 => ?_) (fun c215 => ?_)
      · have h4 : i = 4 := by have := (nI_leI (by omega) (by omega)).mp (show nI 4 ≤ nI i from c215); omega
        subst h4
        exact hw_vretA F hr hlocks hH hS d_Mod_init_242 ⟨fun x hx => (hx21 x (by omega)).trans ((hx20 x (by omega)).trans ((hx19 x (by omega)).trans ((hx18 x (by omega)).trans ((hx17 x (by omega)).trans ((hx16 x (by omega)).trans ((hx15 x (by omega)).trans ((hx14 x (by omega)).trans ((hx13 x (by omega)).trans ((hx12 x (by omega)).trans ((hx11 x (by omega)).trans ((hx10 x (by omega)).trans ((hx9 x (by omega)).trans ((hx8 x (by omega)).trans ((hx7 x (by omega)).trans ((hx6 x (by omega)).trans ((hx5 x (by omega)).trans ((hx4 x (by omega)).trans ((hx3 x (by omega)).trans ((hx2 x (by omega)).trans (hx1 x (by omega))))))))))))))))))))), rfl⟩
      · have h4 : i < 4 := by
          rcases Nat.lt_or_ge i 4 with q | q
          · exact q
          · exact absurd (show nI 4 ≤ nI i from nI_le q (by omega)) c215
        refine lv_aload_n F.1.1 F.1.2.1 d_Mod_init_218 rfl (lv_at hl 1 rfl) ?_
        refine gR ck_Mod F hH q_fl_Mod_7 (k := 2) (by decide) rfl (by decide) d_Mod_init_219 ?_
        refine lv_iload_n F.1.1 F.1.2.1 d_Mod_init_222 rfl (lv_at hl 0 rfl) ?_
        refine lv_sipush (v := 500) F.1.1 F.1.2.1 d_Mod_init_223 (by decide) ?_
        refine tA F hH hS rfl (vp_in_nI (by omega) (by omega)) d_Mod_init_226 (fun H locs hH hS => ?_)
        refine lv_aload_n F.1.1 F.1.2.1 d_Mod_init_227 rfl (lv_at hl 1 rfl) ?_
        refine gR ck_Mod F hH q_fl_Mod_13 (k := 3) (by decide) rfl (by decide) d_Mod_init_228 ?_
        refine lv_iload_n F.1.1 F.1.2.1 d_Mod_init_231 rfl (lv_at hl 0 rfl) ?_
        refine lv_sipush (v := 1000) F.1.1 F.1.2.1 d_Mod_init_232 (by decide) ?_
        refine tA F hH hS rfl (vp_in_nI (by omega) (by omega)) d_Mod_init_235 (fun H locs hH hS => ?_)
        replace hH := hH.to (congrArg (fun o => obP D ad21 β 6 shMod o f) (show _ = mN cn sd (i + 1) from by rw [nI_clamp (show i < 2 ^ 31 by omega)]; exact mN_s))
        refine lv_iinc F.1.1 F.1.2.1 d_Mod_init_236 hl (k := 0) rfl rfl (by decide) rfl (fun ls hl => ?_)
        refine lv_goto (tgt := 213) F.1.1 F.1.2.1 d_Mod_init_239 (by decide) ?_
        refine ih (i + 1) H locs ls (by omega) (by omega) hH hS (lv_sub hl [0, 1, 2, 3] ?_)
        show [_, _, _, _] = [_, _, _, _]
        rw [ii1]
        first | done | rfl
  have K208 : ∀ (H : Heap) (locs : List Loc) (ls : Array Slot), hw D L0 ad21 (obP D ad21 β 6 shMod (sI zO 0 (ccI cn)) f) H → va_S (fun q => L0 ≤ q) s.heap H locs → lv_has ls 4 [(0, .ref (ad21 β)), (1, .int cn), (2, .int sd)] → W p l e { frames := 1, cells := 21, slots := 1592, locals := 24 } s m [Value.ref (ad β), .int cn, .int sd].toArray below meth c H locs 21 1592 (MQ below (da D L0 none (fun ad' f' => (∀ x, (x ≤ β ∨ β + 29 < x) → ad' x = ad x) ∧ f' = obP D ad' β 6 shMod (mO cn sd) f)) [Value.ref (ad β), .int cn, .int sd].toArray s 21 1592 (fun q => L0 ≤ q)) (F0 m 208 ls [.int (cdF sd), .ref (ad21 β)]) := by
    intro H locs ls hH hS hl
    refine hw_pfFa (r := β) ck_Mod F hH hS q_fl_Mod_79 (k := 1) (by decide) rfl hnm rfl rfl obP_o rfl rfl (by rw [obO_len]; decide) d_Mod_init_208 (fun H locs hH hS => ?_)
    replace hH := hH.to (obP_setI (k := 1) (z := 0) rfl rfl)
    refine lv_iconst (v := 0) F.1.1 F.1.2.1 d_Mod_init_211 (by decide) ?_
    refine lv_istore_n F.1.1 F.1.2.1 d_Mod_init_212 rfl hl (by decide) rfl (fun ls hl => ?_)
    exact L213 (4 - 0 + 1) 0 H locs ls (Nat.zero_le _) (Nat.lt_succ_self _) (hH.to (by rw [mN_0])) hS (lv_sub hl [0, 1, 2, 3] rfl)
  have K188 : ∀ (H : Heap) (locs : List Loc) (ls : Array Slot), hw D L0 ad21 (obP D ad21 β 6 shMod zO f) H → va_S (fun q => L0 ≤ q) s.heap H locs → lv_has ls 4 [(0, .ref (ad21 β)), (1, .int cn), (2, .int sd)] → W p l e { frames := 1, cells := 21, slots := 1592, locals := 24 } s m [Value.ref (ad β), .int cn, .int sd].toArray below meth c H locs 21 1592 (MQ below (da D L0 none (fun ad' f' => (∀ x, (x ≤ β ∨ β + 29 < x) → ad' x = ad x) ∧ f' = obP D ad' β 6 shMod (mO cn sd) f)) [Value.ref (ad β), .int cn, .int sd].toArray s 21 1592 (fun q => L0 ≤ q)) (F0 m 188 ls [.int (ccI cn), .ref (ad21 β)]) := by
    intro H locs ls hH hS hl
    refine hw_pfFa (r := β) ck_Mod F hH hS q_fl_Mod_75 (k := 0) (by decide) rfl hnm rfl rfl obP_o rfl rfl (by rw [obO_len]; decide) d_Mod_init_188 (fun H locs hH hS => ?_)
    replace hH := hH.to (obP_setI (k := 0) (z := 0) rfl rfl)
    refine lv_aload_n F.1.1 F.1.2.1 d_Mod_init_191 rfl (lv_at hl 0 rfl) ?_
    refine lv_iload_n F.1.1 F.1.2.1 d_Mod_init_192 rfl (lv_at hl 2 rfl) ?_
    refine lv_iconst (v := 1) F.1.1 F.1.2.1 d_Mod_init_193 (by decide) ?_
    refine lv_icmp_lt (tgt := 207) F.1.1 F.1.2.1 d_Mod_init_194 (by decide) (fun ca => ?_) (fun ca => ?_)
    · refine lv_iconst (v := 1) F.1.1 F.1.2.1 d_Mod_init_207 (by decide) ?_
      exact W_top (v' := .int (cdF sd)) (by unfold cdF; rw [if_pos (wi100.mpr (Or.inl ca))]) (K208 H locs ls hH hS hl)
    · refine lv_iload_n F.1.1 F.1.2.1 d_Mod_init_197 rfl (lv_at hl 2 rfl) ?_
      refine lv_bipush (v := 100) F.1.1 F.1.2.1 d_Mod_init_198 (by decide) ?_
      refine lv_icmp_gt (tgt := 207) F.1.1 F.1.2.1 d_Mod_init_200 (by decide) (fun cb => ?_) (fun cb => ?_)
      · refine lv_iconst (v := 1) F.1.1 F.1.2.1 d_Mod_init_207 (by decide) ?_
        exact W_top (v' := .int (cdF sd)) (by unfold cdF; rw [if_pos (wi100.mpr (Or.inr cb))]) (K208 H locs ls hH hS hl)
      · refine lv_iload_n F.1.1 F.1.2.1 d_Mod_init_203 rfl (lv_at hl 2 rfl) ?_
        refine lv_goto (tgt := 208) F.1.1 F.1.2.1 d_Mod_init_204 (by decide) ?_
        exact W_top (v' := .int (cdF sd)) (by unfold cdF; rw [if_neg (fun q => (wi100.mp q).elim ca cb)]) (K208 H locs ls hH hS hl)
  refine lv_aload_n F.1.1 F.1.2.1 d_Mod_init_171 rfl (lv_at hl 0 rfl) ?_
  refine lv_iload_n F.1.1 F.1.2.1 d_Mod_init_172 rfl (lv_at hl 1 rfl) ?_
  refine lv_iconst (v := 1) F.1.1 F.1.2.1 d_Mod_init_173 (by decide) ?_
  refine lv_icmp_lt (tgt := 187) F.1.1 F.1.2.1 d_Mod_init_174 (by decide) (fun ca => ?_) (fun ca => ?_)
  · refine lv_iconst (v := 1) F.1.1 F.1.2.1 d_Mod_init_187 (by decide) ?_
    exact W_top (v' := .int (ccI cn)) (by unfold ccI; rw [if_pos (wi8.mpr (Or.inl ca))]) (K188 _ _ ls hH hS hl)
  · refine lv_iload_n F.1.1 F.1.2.1 d_Mod_init_177 rfl (lv_at hl 1 rfl) ?_
    refine lv_bipush (v := 8) F.1.1 F.1.2.1 d_Mod_init_178 (by decide) ?_
    refine lv_icmp_gt (tgt := 187) F.1.1 F.1.2.1 d_Mod_init_180 (by decide) (fun cb => ?_) (fun cb => ?_)
    · refine lv_iconst (v := 1) F.1.1 F.1.2.1 d_Mod_init_187 (by decide) ?_
      exact W_top (v' := .int (ccI cn)) (by unfold ccI; rw [if_pos (wi8.mpr (Or.inr cb))]) (K188 _ _ ls hH hS hl)
    · refine lv_iload_n F.1.1 F.1.2.1 d_Mod_init_183 rfl (lv_at hl 1 rfl) ?_
      refine lv_goto (tgt := 188) F.1.1 F.1.2.1 d_Mod_init_184 (by decide) ?_
      exact W_top (v' := .int (ccI cn)) (by unfold ccI; rw [if_neg (fun q => (wi8.mp q).elim ca cb)]) (K188 _ _ ls hH hS hl)
