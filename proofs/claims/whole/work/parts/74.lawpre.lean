/-! AHEAD OF THE LAW: the class world at its entry, the script's cells, rows for its calls -/
theorem kn_start {s : State} {args : Array Value} (hts : ∀ w ∈ lw_tbl, w.before args s = true) : ∃ D : va_G, kn D s := by
  have hT : ∀ w ∈ T0, w.before args s = true := fun w h => hts w (List.mem_filter.mp h).1
  obtain ⟨c0, i0, h0⟩ := u_known (C := R_Col) (T := T_Col) (N := 6) (n := 6) hT ck_Col.2.1 (hT _ q_mk_Col)
  obtain ⟨c1, i1, h1⟩ := u_known (C := R_Kin) (T := T_Kin) (N := 5) (n := 5) hT ck_Kin.2.1 (hT _ q_mk_Kin)
  obtain ⟨c2, i2, h2⟩ := u_known (C := R_Pha) (T := T_Pha) (N := 3) (n := 3) hT ck_Pha.2.1 (hT _ q_mk_Pha)
  obtain ⟨c3, i3, h3⟩ := u_known (C := R_Sur) (T := T_Sur) (N := 2) (n := 2) hT ck_Sur.2.1 (hT _ q_mk_Sur)
  obtain ⟨c4, i4, h4⟩ := u_known (C := R_Tol) (T := T_Tol) (N := 6) (n := 6) hT ck_Tol.2.1 (hT _ q_mk_Tol)
  obtain ⟨c5, i5, h5⟩ := u_known (C := R_Cel) (T := T_Cel) (N := 11) (n := 11) hT ck_Cel.2.1 (hT _ q_mk_Cel)
  obtain ⟨c6, i6, h6⟩ := u_known (C := R_Mod) (T := T_Mod) (N := 29) (n := 29) hT ck_Mod.2.1 (hT _ q_mk_Mod)
  obtain ⟨a0, ka0, ca0, fa0, ga0, ha0⟩ := Cond.arrayClass_spec (hT _ q_ac_int)
  obtain ⟨a1, ka1, ca1, fa1, ga1, ha1⟩ := Cond.arrayClass_spec (hT _ q_ac_long)
  obtain ⟨a2, ka2, ca2, fa2, ga2, ha2⟩ := Cond.arrayClass_spec (hT _ q_ac_boolean)
  have w3 : (Cond.arrayOver (.object R_Col)).before args s = true := hts _ (List.mem_of_getElem? (i := 50) rfl)
  have w4 : (Cond.arrayOver (.object R_Kin)).before args s = true := hts _ (List.mem_of_getElem? (i := 81) rfl)
  have w5 : (Cond.arrayOver (.object R_Sur)).before args s = true := hts _ (List.mem_of_getElem? (i := 137) rfl)
  have w6 : (Cond.arrayOver (.object R_Pha)).before args s = true := hts _ (List.mem_of_getElem? (i := 139) rfl)
  obtain ⟨p3, a3, k3, x3, y3, z3, u3, v3⟩ := Cond.arrayOver_spec w3
  obtain ⟨p4, a4, k4, x4, y4, z4, u4, v4⟩ := Cond.arrayOver_spec w4
  obtain ⟨p5, a5, k5, x5, y5, z5, u5, v5⟩ := Cond.arrayOver_spec w5
  obtain ⟨p6, a6, k6, x6, y6, z6, u6, v6⟩ := Cond.arrayOver_spec w6
  let D : va_G := (fun k => if k = 0 then c0 else if k = 1 then c1 else if k = 2 then c2 else if k = 3 then c3 else if k = 4 then c4 else if k = 5 then c5 else if k = 6 then c6 else if k = 100 then a0 else if k = 101 then a1 else if k = 102 then a2 else if k = 103 then a3 else if k = 104 then a4 else if k = 105 then a5 else a6,
    fun k => if k = 0 then i0 else if k = 1 then i1 else if k = 2 then i2 else if k = 3 then i3 else if k = 4 then i4 else if k = 5 then i5 else i6)
  refine ⟨D, ⟨fun k q hq => ?_, fun k q hq => ?_⟩, fun w hw => va_Nw.of (nestW_on w hw) (hts w (List.mem_filter.mp hw).1), fun C hC => ?_⟩
  · match k, hq with
    | 0, hq => cases hq; exact h0
    | 1, hq => cases hq; exact h1
    | 2, hq => cases hq; exact h2
    | 3, hq => cases hq; exact h3
    | 4, hq => cases hq; exact h4
    | 5, hq => cases hq; exact h5
    | 6, hq => cases hq; exact h6
    | k + 7, hq => simp [classes] at hq
  · match k, hq with
    | 0, hq => cases hq; exact ⟨fun n z => ⟨fun k h => (by cases h), ka0, ga0, ca0, ha0⟩, fa0⟩
    | 1, hq => cases hq; exact ⟨fun n z => ⟨fun k h => (by cases h), ka1, ga1, ca1, ha1⟩, fa1⟩
    | 2, hq => cases hq; exact ⟨fun n z => ⟨fun k h => (by cases h), ka2, ga2, ca2, ha2⟩, fa2⟩
    | 3, hq => cases hq; exact ⟨fun n z => ⟨fun k h => (by cases h), k3, z3, p3, u3⟩, k3, p3, z3, u3, x3, v3⟩
    | 4, hq => cases hq; exact ⟨fun n z => ⟨fun k h => (by cases h), k4, z4, p4, u4⟩, k4, p4, z4, u4, x4, v4⟩
    | 5, hq => cases hq; exact ⟨fun n z => ⟨fun k h => (by cases h), k5, z5, p5, u5⟩, k5, p5, z5, u5, x5, v5⟩
    | 6, hq => cases hq; exact ⟨fun n z => ⟨fun k h => (by cases h), k6, z6, p6, u6⟩, k6, p6, z6, u6, x6, v6⟩
    | k + 7, hq => simp [tysOf, arrObj] at hq
  · simp only [arrObj, List.mem_cons, List.not_mem_nil, or_false] at hC
    rcases hC with rfl | rfl | rfl | rfl
    · exact va_AO.of w3
    · exact va_AO.of w4
    · exact va_AO.of w5
    · exact va_AO.of w6
theorem cel_M {D : va_G} {ad : Nat → Nat} {σ : Xs} {o o' : Ob} {f0 : Nat → Option va_E} : obP D ad 256 6 shMod o' (celP D ad σ f0) = celP D ad σ (obP D ad 256 6 shMod o' f0) := by
  funext r
  rcases cregs r with h | h | h | h | h | h | h
  · rw [obP_out (Or.inl (by omega)), cr0 _ h, cr0 _ h]
  · rw [obP_out (Or.inl (by omega)), cr1 _ h.1 h.2, cr1 _ h.1 h.2]
  · rw [obP_out (Or.inl (by omega)), cr2 _ h.1 h.2, cr2 _ h.1 h.2]
  · rw [obP_out (Or.inl (by omega)), cr3 _ h.1 h.2, cr3 _ h.1 h.2]
  · rw [obP_out (Or.inl (by omega)), cr4 _ h.1 h.2, cr4 _ h.1 h.2]
  · rw [obP_out (Or.inl (by omega)), cr5 _ h.1 h.2, cr5 _ h.1 h.2]
  · rw [cr6 _ h, obP_pt (cr6 _ h)]
theorem cel_MM {D : va_G} {ad : Nat → Nat} {σ : Xs} {o o' : Ob} {f0 : Nat → Option va_E} : obP D ad 256 6 shMod o' (celP D ad σ (obP D ad 256 6 shMod o f0)) = celP D ad σ (obP D ad 256 6 shMod o' f0) := by
  rw [cel_M, obP_obP]
  exact o
theorem cel_hM {D : va_G} {ad : Nat → Nat} {σ : Xs} {o : Ob} {f0 : Nat → Option va_E} : hasO D ad 256 6 shMod o (celP D ad σ (obP D ad 256 6 shMod o f0)) := cel_MM
theorem sx {i k L : Nat} (h : i + k < L) (hL : L ≤ 2562) : vp_in (nI i + nI k) L := by
  rw [nI_add]
  exact vp_in_nI h (by omega)
section LC
variable {p : Program} {l : Launch} {e : Env} {R : Room} {s : State} {m : MethodId} {args : Array Value} {below : List Frame} {meth : Method} {c : Code} {H : Heap} {locs : List Loc} {cells slots : Nat} {Q : State → Prop}
variable {cc : ByteArray} {pc nL : Nat} {ls : Array Slot} {rest st0 : List Value} {D : va_G} {L0 : Nat} {ad : Nat → Nat} {own : String} {H0 : Heap} {f f' : Nat → Option va_E}
variable {y : MethodName} {b : ByteArray} {maxL index : Nat} {ret : Option FieldType} {rm : Room} {lv : List (Nat × Value)} {host : String}
theorem hw_runVA {C : String} {T : u_T} {N : Nat} {ty : Nat → FieldType} {r ci mc ms : Nat} {fs av : List Value} {Qc : Array Value → State → Outcome → State → Prop} {free : Addr → Prop} (F : fx p m c cc nL s args own D) (hL : L0 ≤ s.heap.size) (hS : va_S (fun q => L0 ≤ q) s.heap H locs) (h : hw D L0 ad f H) (hl : lv_has ls nL lv) (hM : Met l y (wd y b maxL ret) rm (va_Pc (.ref (ad r) :: av) (cp D L0 ad f)) Qc mc ms free) (K : CK ci C T N ty) (he : f r = some (.inr (ci, fs))) (hC : y.cls = C)
    (h1 : Cond.methodLink own index y ∈ T0) (h2 : Cond.instanceMethod y ∈ T0) (h3 : Cond.selects C y y ∈ T0) (h4 : Cond.initialized C ∈ T0) (h5 : Cond.code y b maxL ret ∈ T0) (hst : st0 = av.reverse ++ .ref (ad r) :: rest) {k : Nat} (n : cM R rm y maxL k mc ms rest) (hk : av.length = k) (hdg : decode cc pc = .ok (.invokevirtual index, 3)) (hf : cells + mc ≤ R.cells ∧ slots + ms ≤ R.slots) :
    va_Run p l e R s m args below meth c H locs cells slots mc ms (F0 m pc ls st0) rest (Qc (Value.ref (ad r) :: av).toArray) free := by
  subst hC
  subst hk
  exact va_runV F.1 hM (cwV av.length F.1.2.2.2.2 (gd_V h1 h2 h3 h4 h5) rfl n.1 n.2.1 ⟨rfl, n.2.2.1⟩ n.2.2.2.1) (hw_pV F (Nat.le_trans hL hS.1) h he K.1) rfl rfl hl.1 hst (lv_room n.2.2.2.2) hdg hf
end LC
def cpX (D : va_G) (L0 : Nat) (ad : Nat → Nat) (f : Nat → Option va_E) (b L : Nat) (xs : Nat → Int32) (U : State) : Prop := cp D L0 ad f U ∧ va_X b L xs U U.heap ∧ b < L0
theorem cpX_blind {D : va_G} {L0 : Nat} {ad : Nat → Nat} {f : Nat → Option va_E} {b L : Nat} {xs : Nat → Int32} {av : List Value} : FrameBlind (va_Pc av (cpX D L0 ad f b L xs)) := fun a U g mk ⟨h1, ⟨h2, h3, h4⟩, h5, h6⟩ => ⟨h1, ⟨kn.same (u := U) rfl h2, h3, h4⟩, va_X.moved (u := U) (U := U.calling g mk a) (Vm.Alike.refl U.vm) h5, h6⟩
set_option maxHeartbeats 1000000 in
/-- the script's k-th int, or 0 -/
theorem c_Law_cell (l : Launch) (D : va_G) (L0 : Nat) (ad : Nat → Nat) (f : Nat → Option va_E) (b L : Nat) (xs : Nat → Int32) (hLL : L ≤ 2562) (k : Nat) (hk : k < 2562) : Met l y_Law_cell (wd y_Law_cell b_Law_cell 2 (some .int)) { frames := 0, cells := 0, slots := 0, locals := 0 } (va_Pc [.ref b, .int (nI k)] (cpX D L0 ad f b L xs)) (dt D L0 ad (some (.int (if k < L then xs k else 0))) f) 0 0 (fun q => L0 ≤ q) := by
  refine Met.ofW (cc := b_Law_cell) (maxL := 2) (ret := some .int) (by decide) rfl ?_
  intro p e s m args below meth c s₁ B hml hv
  obtain ⟨rfl, ⟨hK, hL, hH⟩, hX, hb⟩ := hv
  have hts := atoms_spec (ws := wd y_Law_cell b_Law_cell 2 (some .int)) B.pre
  have hown : s.vm.findClass y_Law_cell.cls = some m.cls := findClass_of_methodNamed B.named
  have F : fx p m c b_Law_cell 2 s ([.ref b, .int (nI k)] : List Value).toArray y_Law_cell.cls D := ⟨⟨B.exec, B.bytes, hml, hown, fun w hw => hts w (List.mem_cons_of_mem _ hw)⟩, hK⟩
  have hr := B.returns
  have hlocks := B.notSynchronized
  have hS : va_S (fun q => L0 ≤ q) s.heap s.heap [] := va_S.rf
  have hbl : b < s.heap.size := Nat.lt_of_lt_of_le hb hL
  have hbA : ¬ (fun q => L0 ≤ q) b := Nat.not_le.mpr hb
  rw [lg_entry_eq]
  have hl := lv_entry ([.ref b, .int (nI k)]) (n := 2) (Nat.le_of_ble_eq_true rfl)
  generalize (lg_sl ([.ref b, .int (nI k)]) ++ List.replicate (2 - (lg_sl ([.ref b, .int (nI k)])).length) Slot.unset).toArray = ls at hl ⊢
  refine lv_iload_n F.1.1 F.1.2.1 d_Law_cell_0 rfl (lv_at hl 1 rfl) ?_
  refine lv_aload_n F.1.1 F.1.2.1 d_Law_cell_1 rfl (lv_at hl 0 rfl) ?_
  refine va_slen F.1.1 F.1.2.1 hX hbl hbA hS d_Law_cell_2 ?_
  refine lv_icmp_ge (tgt := 12) F.1.1 F.1.2.1 d_Law_cell_3 (by decide) (fun c3 => ?_) (fun c3 => ?_)
  · have hge : L ≤ k := (nI_leI (by omega) (by omega)).mp (show nI L ≤ nI k from c3)
    refine lv_iconst (v := 0) F.1.1 F.1.2.1 d_Law_cell_12 (by decide) ?_
    exact hw_iret F hr hlocks hH hS d_Law_cell_13 (by rw [if_neg (by omega)]) rfl
  · have hlt : k < L := by
      rcases Nat.lt_or_ge k L with q | q
      · exact q
      · exact absurd (show nI L ≤ nI k from nI_le q (by omega)) c3
    refine lv_aload_n F.1.1 F.1.2.1 d_Law_cell_6 rfl (lv_at hl 0 rfl) ?_
    refine lv_iload_n F.1.1 F.1.2.1 d_Law_cell_7 rfl (lv_at hl 1 rfl) ?_
    refine va_sld F.1.1 F.1.2.1 hX hbl hbA hS (vp_in_nI hlt (by omega)) d_Law_cell_8 ?_
    refine lv_goto (tgt := 13) F.1.1 F.1.2.1 d_Law_cell_9 (by decide) ?_
    exact hw_iret F hr hlocks hH hS d_Law_cell_13 (by rw [if_pos hlt, nI_clamp (by omega)]) rfl
theorem lw_cell {p : Program} {l : Launch} {e : Env} {s : State} {m : MethodId} {args : Array Value} {below : List Frame} {meth : Method} {c : Code} {H : Heap} {locs : List Loc} {cells slots : Nat} {Q : State → Prop} {pc : Nat} {ls : Array Slot} {rest : List Value} {D : va_G} {ad : Nat → Nat} {f : Nat → Option va_E} {lv : List (Nat × Value)} {b L : Nat} {xs : Nat → Int32}
    (F : fx p m c code 4 s args R_Law D) (hX : va_X b L xs s s.heap) (hbl : b < s.heap.size) (hLL : L ≤ 2562) (hH : hw D s.heap.size ad f H) (hS : va_S (fun q => s.heap.size ≤ q) s.heap H locs) (hl : lv_has ls 4 lv) (k : Nat) (hk : k < 2562) (hr : (rest.map fun v => v.category).sum ≤ 8) (hdg : decode code pc = .ok (.invokestatic 9, 3)) (hf : cells ≤ room_1.cells ∧ slots ≤ room_1.slots)
    (kk : ∀ (H1 : Heap) (locs1 : List Loc), hw D s.heap.size ad f H1 → va_S (fun q => s.heap.size ≤ q) s.heap H1 locs1 → W p l e room_1 s m args below meth c H1 locs1 cells slots Q (F0 m (pc + 3) ls (.int (if k < L then xs k else 0) :: rest))) : W p l e room_1 s m args below meth c H locs cells slots Q (F0 m pc ls (.int (nI k) :: .ref b :: rest)) := by
  have hG : GoodIn T0 (va_wsS R_Law 9 y_Law_cell (wd y_Law_cell b_Law_cell 2 (some .int))) := by
    intro w hw
    have hm : w ∈ T0 := by
      simp only [va_wsS, wd, List.mem_append, List.mem_cons, List.not_mem_nil, or_false] at hw
      rcases hw with (rfl | rfl | rfl) | rfl | hw
      · exact q_ml_Law_9
      · exact q_st_Law_cell
      · exact q_in_Law
      · exact q_co_Law_cell
      · exact hw
    exact ⟨hm, good_of_word (T0_good hm)⟩
  have hbA : ¬ (fun q => s.heap.size ≤ q) b := Nat.not_le.mpr hbl
  refine hw_call1 (va_runS (As := [.ref b, .int (nI k)]) F.1 (c_Law_cell l D s.heap.size ad f b L xs hLL k hk) (va_cwS 2 F.1.2.2.2.2 hG rfl rfl rfl (by decide +kernel) ⟨Nat.le_of_ble_eq_true rfl, Nat.le_of_ble_eq_true rfl⟩) ⟨cpX_blind, fun U hU hW => ⟨rfl, ⟨F.2.warm hW, by rw [hU]; exact hS.1, by rw [hU]; exact hH⟩, (hX.moved hW.alike).kept (by rw [hU]; exact hS.2.1 b hbl hbA), hbl⟩⟩ rfl rfl hl.1 rfl (lv_room hr) hdg hf) hS kk
