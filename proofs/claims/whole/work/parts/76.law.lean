/-! THE LAW: its loop, its start -/
theorem lw_le {i L : Nat} (hi : i ≤ 2562) (hL : L ≤ 2562) (h : ¬ Int32.ofNat L - 5 < nI i) : i + 5 ≤ L := by
  have h2 := Int32.le_iff_toInt_le.mp (Int32.not_lt.mp h)
  rw [nI_toInt (by omega), Int32.toInt_sub, show (Int32.ofNat L).toInt = (L : Int) from nI_toInt (n := L) (by omega), show (5 : Int32).toInt = 5 from by decide, Int.bmod_eq_of_le (by omega) (by omega)] at h2
  omega
theorem bd_start {D : va_G} {ad : Nat → Nat} {C : Nat} {fs : List Value} : va_up nov 0 (some (.inr (5, fs))) = bdP D ad C 0 0 0 fs nov := by
  funext r
  unfold bdP va_up
  by_cases h : r = 0
  · rw [if_pos h, if_pos h]
  · rw [if_neg h, if_neg h]
    simp [nov]
set_option maxHeartbeats 4000000 in
theorem law_loop {p : Program} {l : Launch} {e : Env} {s : State} {m : MethodId} {below : List Frame} {meth : Method} {c : Code} {D : va_G} {b L : Nat} {xs : Nat → Int32} (F : fx p m c code 4 s #[Value.ref b] R_Law D) (hX : va_X b L xs s s.heap) (hbl : b < s.heap.size) (hLL : L ≤ 2562) (hr : meth.sig.returnType = ret) (hlocks : meth.locks = false) :
    ∀ (u j i : Nat) (ad : Nat → Nat) (σ : Xs) (o : Ob) (H : Heap) (locs : List Loc) (ls : Array Slot) (K S : Nat), i = 2 + 5 * j → i ≤ 2562 → 2562 - i < u → K ≤ 200 + 3 * j → S ≤ 10000 + 52 * j → hw D s.heap.size ad (celP D ad σ (obP D ad 256 6 shMod o nov)) H → Rs σ o → va_S (fun q => s.heap.size ≤ q) s.heap H locs → lv_has ls 4 [(0, .ref b), (1, .ref (ad 0)), (2, .ref (ad 256)), (3, .int (nI i))] → W p l e room_1 s m #[Value.ref b] below meth c H locs K S (lw_Z below #[Value.ref b] s) (F0 m 38 ls []) := by
  have hbA : ¬ (fun q => s.heap.size ≤ q) b := Nat.not_le.mpr hbl
  intro u
  induction u with
  | zero => intro j i ad σ o H locs ls K S _ _ h; exact absurd h (Nat.not_lt_zero _)
  | succ u ih =>
    intro j i ad σ o H locs ls K S hij hib hu hK hSl hH hRs hS hl
    refine lv_iload_n F.1.1 F.1.2.1 d_law_38 rfl (lv_at hl 3 rfl) ?_
    refine lv_aload_n F.1.1 F.1.2.1 d_law_39 rfl (lv_at hl 0 rfl) ?_
    refine va_slen F.1.1 F.1.2.1 hX hbl hbA hS d_law_40 ?_
    refine lv_iconst (v := 5) F.1.1 F.1.2.1 d_law_41 (by decide) ?_
    refine lv_isub F.1.1 F.1.2.1 d_law_42 ?_
    refine lv_icmp_gt (tgt := 929) F.1.1 F.1.2.1 d_law_43 (by decide) (fun c43 => ?_) (fun c43 => ?_)
    · refine lv_iconst (v := 1) F.1.1 F.1.2.1 d_law_929 (by decide) ?_
      refine va_forget (fun q hq => hS.2.2 q hq) ?_
      refine W.widen (k := 600000) (n := 7302250) (by omega) (by omega) ?_
      exact lw_ret F.1.1 F.1.2.1 hr hlocks d_law_930
    · have hi5 : i + 5 ≤ L := lw_le hib hLL c43
      have NX : lwN p l e s m below meth c D b (lw_Z below #[Value.ref b] s) (ad 0) (ad 256) i K S := by
        intro ad2 σ2 o2 H locs ls K2 S2 hH hRs h0 h1 hK2 hS2 hS hl
        refine lv_iinc F.1.1 F.1.2.1 d_law_923 hl (k := 3) rfl rfl (by decide) rfl (fun ls hl => ?_)
        refine lv_goto (tgt := 38) F.1.1 F.1.2.1 d_law_926 (by decide) ?_
        refine ih (j + 1) (i + 5) ad2 σ2 o2 H locs ls K2 S2 (by omega) (by omega) (by omega) (by omega) (by omega) hH hRs hS (lv_sub hl [1, 2, 3, 0] ?_)
        show [_, _, _, _] = [_, _, _, _]
        rw [h0, h1, show nI i + Int32.ofInt 5 = nI (i + 5) from nI_add i 5]
        first | done | rfl
      refine lv_aload_n F.1.1 F.1.2.1 d_law_46 rfl (lv_at hl 0 rfl) ?_
      refine lv_iload_n F.1.1 F.1.2.1 d_law_47 rfl (lv_at hl 3 rfl) ?_
      refine va_sld F.1.1 F.1.2.1 hX hbl hbA hS (vp_in_nI (by omega) (by omega)) d_law_48 ?_
      refine lv_bipush (v := 31) F.1.1 F.1.2.1 d_law_49 (by decide) ?_
      refine lv_iand F.1.1 F.1.2.1 d_law_51 ?_
      generalize (xs (nI i).toNatClampNeg &&& 31) = v
      by_cases hv : v.toInt < 0 ∨ 19 < v.toInt
      · refine lv_tableOut (tgt := 923) F.1.1 F.1.2.1 d_law_52 hv (by decide) ?_
        exact NX ad σ o H locs ls K S hH hRs rfl rfl (by omega) (by omega) hS hl
      · obtain ⟨q, hq, rfl⟩ := vp_in_of (x := v) (n := 20) (vp_in_iff.mpr ⟨by omega, by omega⟩) (by omega)
        clear hv
        have hK3 : K + 3 ≤ 600000 := by omega
        have hS3 : S + 52 ≤ 7302250 := by omega
        rcases (show q = 0 ∨ q = 1 ∨ q = 2 ∨ q = 3 ∨ q = 4 ∨ q = 5 ∨ q = 6 ∨ q = 7 ∨ q = 8 ∨ q = 9 ∨ q = 10 ∨ q = 11 ∨ q = 12 ∨ q = 13 ∨ q = 14 ∨ q = 15 ∨ q = 16 ∨ q = 17 ∨ q = 18 ∨ q = 19 by omega) with rfl | rfl | rfl | rfl | rfl | rfl | rfl | rfl | rfl | rfl | rfl | rfl | rfl | rfl | rfl | rfl | rfl | rfl | rfl | rfl
        · refine lv_tableIn (off := 96) (tgt := 148) F.1.1 F.1.2.1 d_law_52 (by decide) (by decide) rfl (by decide) ?_
          exact law_density F hX hbl hLL hi5 hK3 hS3 hRs hH hS hl NX
        · refine lv_tableIn (off := 129) (tgt := 181) F.1.1 F.1.2.1 d_law_52 (by decide) (by decide) rfl (by decide) ?_
          exact law_row F hX hbl hLL hi5 hK3 hS3 hRs hH hS hl NX
        · refine lv_tableIn (off := 202) (tgt := 254) F.1.1 F.1.2.1 d_law_52 (by decide) (by decide) rfl (by decide) ?_
          exact law_layer F hX hbl hLL hi5 hK3 hS3 hRs hH hS hl NX
        · refine lv_tableIn (off := 275) (tgt := 327) F.1.1 F.1.2.1 d_law_52 (by decide) (by decide) rfl (by decide) ?_
          exact law_roll F hX hbl hLL hi5 hK3 hS3 hRs hH hS hl NX
        · refine lv_tableIn (off := 308) (tgt := 360) F.1.1 F.1.2.1 d_law_52 (by decide) (by decide) rfl (by decide) ?_
          exact law_run F hX hbl hLL hi5 hK3 hS3 hRs hH hS hl NX
        · refine lv_tableIn (off := 331) (tgt := 383) F.1.1 F.1.2.1 d_law_52 (by decide) (by decide) rfl (by decide) ?_
          exact law_cover F hX hbl hLL hi5 hK3 hS3 hRs hH hS hl NX
        · refine lv_tableIn (off := 364) (tgt := 416) F.1.1 F.1.2.1 d_law_52 (by decide) (by decide) rfl (by decide) ?_
          exact law_survey F hX hbl hLL hi5 hK3 hS3 hRs hH hS hl NX
        · refine lv_tableIn (off := 427) (tgt := 479) F.1.1 F.1.2.1 d_law_52 (by decide) (by decide) rfl (by decide) ?_
          exact law_height F hX hbl hLL hi5 hK3 hS3 hRs hH hS hl NX
        · refine lv_tableIn (off := 451) (tgt := 503) F.1.1 F.1.2.1 d_law_52 (by decide) (by decide) rfl (by decide) ?_
          exact law_thickness F hX hbl hLL hi5 hK3 hS3 hRs hH hS hl NX
        · refine lv_tableIn (off := 485) (tgt := 537) F.1.1 F.1.2.1 d_law_52 (by decide) (by decide) rfl (by decide) ?_
          exact law_mass F hX hbl hLL hi5 hK3 hS3 hRs hH hS hl NX
        · refine lv_tableIn (off := 519) (tgt := 571) F.1.1 F.1.2.1 d_law_52 (by decide) (by decide) rfl (by decide) ?_
          exact law_covered F hX hbl hLL hi5 hK3 hS3 hRs hH hS hl NX
        · refine lv_tableIn (off := 542) (tgt := 594) F.1.1 F.1.2.1 d_law_52 (by decide) (by decide) rfl (by decide) ?_
          exact law_surface F hX hbl hLL hi5 hK3 hS3 hRs hH hS hl NX
        · refine lv_tableIn (off := 555) (tgt := 607) F.1.1 F.1.2.1 d_law_52 (by decide) (by decide) rfl (by decide) ?_
          exact law_point F hX hbl hLL hi5 hK3 hS3 hRs hH hS hl NX
        · refine lv_tableIn (off := 608) (tgt := 660) F.1.1 F.1.2.1 d_law_52 (by decide) (by decide) rfl (by decide) ?_
          exact law_room F hX hbl hLL hi5 hK3 hS3 hRs hH hS hl NX
        · refine lv_tableIn (off := 652) (tgt := 704) F.1.1 F.1.2.1 d_law_52 (by decide) (by decide) rfl (by decide) ?_
          exact law_phase F hX hbl hLL hi5 hK3 hS3 hRs hH hS hl NX
        · refine lv_tableIn (off := 725) (tgt := 777) F.1.1 F.1.2.1 d_law_52 (by decide) (by decide) rfl (by decide) ?_
          exact law_kept F hX hbl hLL hi5 hK3 hS3 hRs hH hS hl NX
        · refine lv_tableIn (off := 748) (tgt := 800) F.1.1 F.1.2.1 d_law_52 (by decide) (by decide) rfl (by decide) ?_
          exact law_crack F hX hbl hLL hi5 hK3 hS3 hRs hH hS hl NX
        · refine lv_tableIn (off := 811) (tgt := 863) F.1.1 F.1.2.1 d_law_52 (by decide) (by decide) rfl (by decide) ?_
          exact law_factor F hX hbl hLL hi5 hK3 hS3 hRs hH hS hl NX
        · refine lv_tableIn (off := 834) (tgt := 886) F.1.1 F.1.2.1 d_law_52 (by decide) (by decide) rfl (by decide) ?_
          exact law_sum F hX hbl hLL hi5 hK3 hS3 hRs hH hS hl NX
        · refine lv_tableIn (off := 848) (tgt := 900) F.1.1 F.1.2.1 d_law_52 (by decide) (by decide) rfl (by decide) ?_
          exact law_fit F hX hbl hLL hi5 hK3 hS3 hRs hH hS hl NX
set_option maxHeartbeats 4000000 in
/-- THE LAW, from its entry -/
theorem whole_start {p : Program} {e : Env} {s : State} {m : MethodId} {below : List Frame} {meth : Method} {c : Code} (l : Launch) {b L : Nat} {xs : Nat → Int32} (hL : L ≤ 2562) (C0 : lw_At p s m meth c b L xs) : W p l e room_1 s m #[Value.ref b] below meth c s.heap [] 0 0 (lw_Z below #[Value.ref b] s) (entryFrame m ([Value.ref b] : List Value).toArray 4) := by
  obtain ⟨hx, hb, hr, hml, hown, hts, hX, hbl, hlocks, hgv⟩ := C0
  obtain ⟨D, hkn⟩ := kn_start hts
  have F : fx p m c code 4 s #[Value.ref b] R_Law D := ⟨⟨hx, hb, hml, hown, fun w h => hts w (List.mem_filter.mp h).1⟩, hkn⟩
  have hL0 := Nat.le_refl s.heap.size
  have hS : va_S (fun q => s.heap.size ≤ q) s.heap s.heap [] := va_S.rf
  have hH : hw D s.heap.size (fun _ => 0) nov s.heap := ⟨fun r e h => (by cases h), fun r r' e e' h => (by cases h), 0, fun _ _ => rfl⟩
  have hl := lv_entry ([.ref b]) (n := 4) (Nat.le_of_ble_eq_true rfl)
  rw [lg_entry_eq]
  generalize (lg_sl ([.ref b]) ++ List.replicate (4 - (lg_sl ([.ref b])).length) Slot.unset).toArray = ls at hl ⊢
  have hl : lv_has ls 4 [(0, .ref b)] := hl
  refine hw_obj (C := R_Cel) (T := T_Cel) (N := 11) (ci := 5) F hH hS hL0 ck_Cel.2.1 v_Cel ck_Cel.2.2.1 rfl q_kl_Law_7 q_mk_Cel q_in_Cel 0 rfl (fs := [.int 0, .null, .null, .null, .null, .null, .int 0, .int 0, .int 0, .int 0, .long 0]) (fun j hj => by rcases (show j = 0 ∨ j = 1 ∨ j = 2 ∨ j = 3 ∨ j = 4 ∨ j = 5 ∨ j = 6 ∨ j = 7 ∨ j = 8 ∨ j = 9 ∨ j = 10 by omega) with rfl | rfl | rfl | rfl | rfl | rfl | rfl | rfl | rfl | rfl | rfl <;> rfl) (Nat.le_of_ble_eq_true rfl) (Nat.le_of_ble_eq_true rfl) d_law_0 (fun ad1 H hx1 hH hS => ?_)
  refine lv_dup F.1.1 F.1.2.1 d_law_3 rfl ?_
  refine lv_aload_n F.1.1 F.1.2.1 d_law_4 rfl (lv_at hl 0 rfl) ?_
  refine lv_iconst (v := 0) F.1.1 F.1.2.1 d_law_5 (by decide) ?_
  refine lw_cell F hX hbl hL hH hS hl 0 (by omega) (Nat.le_of_ble_eq_true rfl) d_law_6 ⟨Nat.le_of_ble_eq_true rfl, Nat.le_of_ble_eq_true rfl⟩ (fun H locs hH hS => ?_)
  refine lv_aload_n F.1.1 F.1.2.1 d_law_9 rfl (lv_at hl 0 rfl) ?_
  refine lv_iconst (v := 1) F.1.1 F.1.2.1 d_law_10 (by decide) ?_
  refine lw_cell F hX hbl hL hH hS hl 1 (by omega) (Nat.le_of_ble_eq_true rfl) d_law_11 ⟨Nat.le_of_ble_eq_true rfl, Nat.le_of_ble_eq_true rfl⟩ (fun H locs hH hS => ?_)
  obtain ⟨cn, hcn⟩ : ∃ cn, cn = (if 0 < L then xs 0 else 0) := ⟨_, rfl⟩
  obtain ⟨sd, hsd⟩ : ∃ sd, sd = (if 1 < L then xs 1 else 0) := ⟨_, rfl⟩
  rw [← hcn, ← hsd]
  replace hH := hH.to (bd_start (D := D) (ad := ad1) (C := ccF cn))
  refine hw_callA (hw_runI (n := 2) F hL0 hS hH hl (c_Cel_init l D s.heap.size ad1 nov cn sd) q_ml_Law_15 q_im_Cel_init q_in_Cel q_co_Cel_init rfl rfl ⟨rfl, rfl, by decide +kernel, ⟨Nat.le_of_ble_eq_true rfl, Nat.le_of_ble_eq_true rfl⟩, Nat.le_of_ble_eq_true rfl⟩ rfl d_law_14 ⟨Nat.le_of_ble_eq_true rfl, Nat.le_of_ble_eq_true rfl⟩) hS (fun ad2 f2 H locs hB hH hS => ?_)
  obtain ⟨hx2, rfl⟩ := hB
  refine lv_astore_n F.1.1 F.1.2.1 d_law_17 rfl hl (by decide) rfl (fun ls hl => ?_)
  refine hw_obj (C := R_Mod) (T := T_Mod) (N := 29) (ci := 6) F hH hS hL0 ck_Mod.2.1 v_Mod ck_Mod.2.2.1 rfl q_kl_Law_18 q_mk_Mod q_in_Mod 256 rfl (fs := [.int 0, .int 0, .null, .null, .int 0, .null, .null, .null, .null, .null, .null, .null, .null, .null, .null, .null, .null, .null, .null, .int 0, .int 0, .long 0, .int 0, .null, .null, .int 0, .null, .null, .null]) (fun j hj => by rcases (show j = 0 ∨ j = 1 ∨ j = 2 ∨ j = 3 ∨ j = 4 ∨ j = 5 ∨ j = 6 ∨ j = 7 ∨ j = 8 ∨ j = 9 ∨ j = 10 ∨ j = 11 ∨ j = 12 ∨ j = 13 ∨ j = 14 ∨ j = 15 ∨ j = 16 ∨ j = 17 ∨ j = 18 ∨ j = 19 ∨ j = 20 ∨ j = 21 ∨ j = 22 ∨ j = 23 ∨ j = 24 ∨ j = 25 ∨ j = 26 ∨ j = 27 ∨ j = 28 by omega) with rfl | rfl | rfl | rfl | rfl | rfl | rfl | rfl | rfl | rfl | rfl | rfl | rfl | rfl | rfl | rfl | rfl | rfl | rfl | rfl | rfl | rfl | rfl | rfl | rfl | rfl | rfl | rfl | rfl <;> rfl) (Nat.le_of_ble_eq_true rfl) (Nat.le_of_ble_eq_true rfl) d_law_18 (fun ad3 H hx3 hH hS => ?_)
  replace hH := hH.to (obT_0 (D := D) (ad := ad3) (sh := shMod))
  refine lv_dup F.1.1 F.1.2.1 d_law_21 rfl ?_
  refine lv_aload_n F.1.1 F.1.2.1 d_law_22 rfl (lv_at hl 1 rfl) ?_
  refine lv_iconst (v := 0) F.1.1 F.1.2.1 d_law_23 (by decide) ?_
  refine lw_cell F hX hbl hL hH hS hl 0 (by omega) (Nat.le_of_ble_eq_true rfl) d_law_24 ⟨Nat.le_of_ble_eq_true rfl, Nat.le_of_ble_eq_true rfl⟩ (fun H locs hH hS => ?_)
  refine lv_aload_n F.1.1 F.1.2.1 d_law_27 rfl (lv_at hl 1 rfl) ?_
  refine lv_iconst (v := 1) F.1.1 F.1.2.1 d_law_28 (by decide) ?_
  refine lw_cell F hX hbl hL hH hS hl 1 (by omega) (Nat.le_of_ble_eq_true rfl) d_law_29 ⟨Nat.le_of_ble_eq_true rfl, Nat.le_of_ble_eq_true rfl⟩ (fun H locs hH hS => ?_)
  rw [← hcn, ← hsd]
  refine hw_callA (hw_runI (n := 2) F hL0 hS hH hl (c_Mod_init l D s.heap.size ad3 256 _ (fun k hk => by rw [cr6 _ (by omega)]; rfl) cn sd) q_ml_Law_20 q_im_Mod_init q_in_Mod q_co_Mod_init rfl rfl ⟨rfl, rfl, by decide +kernel, ⟨Nat.le_of_ble_eq_true rfl, Nat.le_of_ble_eq_true rfl⟩, Nat.le_of_ble_eq_true rfl⟩ rfl d_law_32 ⟨Nat.le_of_ble_eq_true rfl, Nat.le_of_ble_eq_true rfl⟩) hS (fun ad4 f4 H locs hB hH hS => ?_)
  obtain ⟨hx4, rfl⟩ := hB
  refine lv_astore_n F.1.1 F.1.2.1 d_law_35 rfl hl (by decide) rfl (fun ls hl => ?_)
  refine lv_iconst (v := 2) F.1.1 F.1.2.1 d_law_36 (by decide) ?_
  refine lv_istore_n F.1.1 F.1.2.1 d_law_37 rfl hl (by decide) rfl (fun ls hl => ?_)
  have h24 : ∀ x, x < 192 → ad4 x = ad2 x := fun x h => (hx4 x (by omega)).trans (hx3 x (by omega))
  have hc8 := (cc_ok cn).2.2
  replace hH := hH.to (by rw [celP_ad (ad' := ad4) (show xC (x0 (ccF cn) (cdF sd)) ≤ 8 from hc8) (Nat.zero_le _) (Nat.zero_le _) (fun x h => h24 x (by have : xSc (x0 (ccF cn) (cdF sd)) = 0 := rfl; have : xPc (x0 (ccF cn) (cdF sd)) = 0 := rfl; omega)), cel_M (o := zO)])
  refine law_loop F hX hbl hL hr hlocks (2562 - 2 + 1) 0 2 ad4 _ _ H locs ls _ _ rfl (by omega) (by omega) (Nat.le_of_ble_eq_true rfl) (Nat.le_of_ble_eq_true rfl) hH (st_init cn sd) hS (lv_sub hl [3, 2, 1, 0] ?_)
  show [_, _, _, _] = [_, _, _, _]
  rw [h24 0 (by omega), hx2 0 (Or.inl rfl), hx4 256 (by omega)]
  first | done | rfl
