/-! constructors of the nested classes; printed by wip/gen/ctor.py -/
def phO (a b : Int32) (w : Int64) : Ob := sJ (sI (sI zO 0 a) 1 b) 2 w
section PA
variable {p : Program} {l : Launch} {e : Env} {R : Room} {s : State} {m : MethodId} {args : Array Value} {below : List Frame} {meth : Method} {c : Code} {H : Heap} {locs : List Loc} {cells slots : Nat} {Q : State → Prop}
variable {cc : ByteArray} {pc nL : Nat} {ls : Array Slot} {rest st0 : List Value} {D : va_G} {L0 : Nat} {ad : Nat → Nat} {own : String} {f f' : Nat → Option va_E}
variable {β ci k z N index : Nat} {sh : List (Nat × Nat)} {o : Ob} {f0 : Nat → Option va_E} {C host : String} {T : u_T} {ty : Nat → FieldType}
variable {y : MethodName} {b : ByteArray} {maxL : Nat} {rm : Room} {lv : List (Nat × Value)}
theorem pIa {a : Nat} (ha : ad β = a) (K : CK ci C T N ty) (F : fx p m c cc nL s args own D) (h : hw D L0 ad (obP D ad β ci sh o f0) H) (hS : va_S (fun q => L0 ≤ q) s.heap H locs) (hl : Cond.fieldLink own index (T k).1 (T k).2.1 (T k).2.2.1 ∈ T0) (hk : k < N) (hs : sh[k]? = some (0, z)) (hfin : (T k).2.2.2 = false) (hty : ty k = .int) {v : Int32} (hdg : decode cc pc = .ok (.putfield index, 3))
    (kk : ∀ (H1 : Heap) (locs1 : List Loc), hw D L0 ad (obP D ad β ci sh (sI o k v) f0) H1 → va_S (fun q => L0 ≤ q) s.heap H1 locs1 → W p l e R s m args below meth c H1 locs1 cells slots Q (F0 m (pc + 3) ls rest)) : W p l e R s m args below meth c H locs cells slots Q (F0 m pc ls (.int v :: .ref a :: rest)) := by
  subst ha
  exact pI K F h hS hl hk hs hfin hty hdg kk
/-- numbers of a call that makes mc cells of ms slots -/
def cM (R rm : Room) (y : MethodName) (maxL n mc ms : Nat) (rest : List Value) : Prop := rm.cells = mc ∧ rm.slots = ms ∧ (y.cls ≠ "java/lang/invoke/MethodHandle" ∧ y.cls ≠ "java/lang/invoke/VarHandle" ∧ (parseMethodDescriptor y.desc).map (fun d => d.parameters.length) = some n) ∧ (rm.frames + 1 ≤ R.frames ∧ 8 + (maxL + 11) + rm.locals ≤ R.locals) ∧ (rest.map fun v => v.category).sum ≤ 8
theorem hw_runIN {a mc ms n : Nat} {av : List Value} {Qc : Array Value → State → Outcome → State → Prop} {free : Addr → Prop} (F : fx p m c cc nL s args own D) (hL : L0 ≤ s.heap.size) (hS : va_S (fun q => L0 ≤ q) s.heap H locs) (h : hw D L0 ad f H) (hl : lv_has ls nL lv) (hM : Met l y (wd y b maxL none) rm (va_Pc (.ref a :: av) (cp D L0 ad f)) Qc mc ms free)
    (h1 : Cond.methodLinkNest own index y host ∈ nestW) (h2 : Cond.instanceMethod y ∈ T0) (h4 : Cond.initialized y.cls ∈ T0) (h5 : Cond.code y b maxL none ∈ T0) (hy : y.name = "<init>") (hst : st0 = av.reverse ++ .ref a :: rest) (nn : cM R rm y maxL n mc ms rest) (hk : av.length = n) (hdg : decode cc pc = .ok (.invokespecial index, 3)) (hf : cells + mc ≤ R.cells ∧ slots + ms ≤ R.slots) :
    va_Run p l e R s m args below meth c H locs cells slots mc ms (F0 m pc ls st0) rest (Qc (Value.ref a :: av).toArray) free := by
  have hts := F.1.2.2.2.2
  exact va_runIN F.1 hM ⟨va_cnB n hts (gd_W h5) rfl nn.1 nn.2.1 (F.2.2.1 _ h1) (hts _ h4) nn.2.2.1 nn.2.2.2.1, hy, hts _ h2⟩ (hw_pS F (Nat.le_trans hL hS.1) h) rfl hk hl.1 hst (lv_room nn.2.2.2.2) hdg hf
theorem hw_runI {a mc ms n : Nat} {av : List Value} {Qc : Array Value → State → Outcome → State → Prop} {free : Addr → Prop} (F : fx p m c cc nL s args own D) (hL : L0 ≤ s.heap.size) (hS : va_S (fun q => L0 ≤ q) s.heap H locs) (h : hw D L0 ad f H) (hl : lv_has ls nL lv) (hM : Met l y (wd y b maxL none) rm (va_Pc (.ref a :: av) (cp D L0 ad f)) Qc mc ms free)
    (h1 : Cond.methodLink own index y ∈ T0) (h2 : Cond.instanceMethod y ∈ T0) (h4 : Cond.initialized y.cls ∈ T0) (h5 : Cond.code y b maxL none ∈ T0) (hy : y.name = "<init>") (hst : st0 = av.reverse ++ .ref a :: rest) (nn : cM R rm y maxL n mc ms rest) (hk : av.length = n) (hdg : decode cc pc = .ok (.invokespecial index, 3)) (hf : cells + mc ≤ R.cells ∧ slots + ms ≤ R.slots) :
    va_Run p l e R s m args below meth c H locs cells slots mc ms (F0 m pc ls st0) rest (Qc (Value.ref a :: av).toArray) free := by
  have hts := F.1.2.2.2.2
  exact va_runI F.1 hM (cwI n hts (gd_W h5) rfl nn.1 nn.2.1 (hts _ h4) (hts _ h1) (hts _ h2) hy nn.2.2.1 nn.2.2.2.1) (hw_pS F (Nat.le_trans hL hS.1) h) rfl hk hl.1 hst (lv_room nn.2.2.2.2) hdg hf
end PA
theorem obT_0 {D : va_G} {ad : Nat → Nat} {β ci : Nat} {sh : List (Nat × Nat)} {f : Nat → Option va_E} : va_up f β (some (.inr (ci, ptO ad β sh 0))) = obT D ad β ci sh 0 f := by
  funext r
  unfold obT
  by_cases hr : r = β
  · subst hr; rw [va_up_self, if_pos rfl]
  · rw [va_up_ne _ _ hr, if_neg hr, if_neg (by omega)]
set_option maxHeartbeats 2000000 in
theorem c_Col_init (l : Launch) (D : va_G) (L0 : Nat) (ad : Nat → Nat) (β : Nat) (f : Nat → Option va_E) (hN : ∀ k, k < 6 → f (β + 1 + k) = none) : Met l y_Col_init (wd y_Col_init b_Col_init 1 none) { frames := 1, cells := 4, slots := 40, locals := 24 } (va_Pc [.ref (ad β)] (cp D L0 ad (obT D ad β 0 shCol 0 f))) (da D L0 none (fun ad' f' => (∀ x, (x ≤ β ∨ β + 6 < x) → ad' x = ad x) ∧ f' = obP D ad' β 0 shCol zO f)) 4 40 (fun q => L0 ≤ q) := by
  refine hw_met (by decide) (Nat.le_of_ble_eq_true rfl) ?_
  intro p e s m below meth c ls F hr hlocks hnm hL hH hS hl
  refine lv_aload_n F.1.1 F.1.2.1 d_Col_init_0 rfl (lv_at hl 0 rfl) ?_
  refine oInit F hl q_ml_Col_3 q_im_Object q_co_Object d_Col_init_1 (Nat.le_of_ble_eq_true rfl) (Nat.le_of_ble_eq_true rfl) ?_
  have hb0 : ad β = ad β := rfl
  refine lv_aload_n F.1.1 F.1.2.1 d_Col_init_4 rfl (lv_at hl 0 rfl) ?_
  refine lv_bipush (v := 10) F.1.1 F.1.2.1 d_Col_init_5 (by decide) ?_
  refine ct_a (t0 := 0) ck_Col F hL hH hS (j := 0) rfl (by decide) (by decide) (hN 0 (by decide)) rfl q_ac_int rfl rfl (fun _ => rfl) (by decide) (by decide) (by decide) (Nat.le_of_ble_eq_true rfl) (Nat.le_of_ble_eq_true rfl) d_Col_init_7 q_fl_Col_11 (by decide) rfl hnm rfl rfl hb0 d_Col_init_9 (fun ad1 H locs hx1 hH hS => ?_)
  have hb1 : ad1 β = ad β := (hx1 β (by omega)).trans hb0
  refine lv_aload_n F.1.1 F.1.2.1 d_Col_init_12 rfl (lv_at hl 0 rfl) ?_
  refine lv_bipush (v := 10) F.1.1 F.1.2.1 d_Col_init_13 (by decide) ?_
  refine ct_a (t0 := 0) ck_Col F hL hH hS (j := 1) rfl (by decide) (by decide) (hN 1 (by decide)) rfl q_ac_int rfl rfl (fun _ => rfl) (by decide) (by decide) (by decide) (Nat.le_of_ble_eq_true rfl) (Nat.le_of_ble_eq_true rfl) d_Col_init_15 q_fl_Col_15 (by decide) rfl hnm rfl rfl hb1 d_Col_init_17 (fun ad2 H locs hx2 hH hS => ?_)
  have hb2 : ad2 β = ad β := (hx2 β (by omega)).trans hb1
  refine lv_aload_n F.1.1 F.1.2.1 d_Col_init_20 rfl (lv_at hl 0 rfl) ?_
  refine lv_bipush (v := 10) F.1.1 F.1.2.1 d_Col_init_21 (by decide) ?_
  refine ct_a (t0 := 1) ck_Col F hL hH hS (j := 2) rfl (by decide) (by decide) (hN 2 (by decide)) rfl q_ac_long rfl rfl (fun _ => rfl) (by decide) (by decide) (by decide) (Nat.le_of_ble_eq_true rfl) (Nat.le_of_ble_eq_true rfl) d_Col_init_23 q_fl_Col_18 (by decide) rfl hnm rfl rfl hb2 d_Col_init_25 (fun ad3 H locs hx3 hH hS => ?_)
  have hb3 : ad3 β = ad β := (hx3 β (by omega)).trans hb2
  refine lv_aload_n F.1.1 F.1.2.1 d_Col_init_28 rfl (lv_at hl 0 rfl) ?_
  refine lv_bipush (v := 10) F.1.1 F.1.2.1 d_Col_init_29 (by decide) ?_
  refine ct_a (t0 := 1) ck_Col F hL hH hS (j := 3) rfl (by decide) (by decide) (hN 3 (by decide)) rfl q_ac_long rfl rfl (fun _ => rfl) (by decide) (by decide) (by decide) (Nat.le_of_ble_eq_true rfl) (Nat.le_of_ble_eq_true rfl) d_Col_init_31 q_fl_Col_22 (by decide) rfl hnm rfl rfl hb3 d_Col_init_33 (fun ad4 H locs hx4 hH hS => ?_)
  have hb4 : ad4 β = ad β := (hx4 β (by omega)).trans hb3
  replace hH := hH.to (obT_num (j := 4) rfl (Or.inl rfl))
  replace hH := hH.to (obT_num (j := 5) rfl (Or.inl rfl))
  replace hH := hH.to obT_end
  exact hw_vretA F hr hlocks hH hS d_Col_init_36 ⟨fun x hx => (hx4 x (by omega)).trans ((hx3 x (by omega)).trans ((hx2 x (by omega)).trans (hx1 x (by omega)))), rfl⟩
set_option maxHeartbeats 2000000 in
theorem c_Tol_init (l : Launch) (D : va_G) (L0 : Nat) (ad : Nat → Nat) (β : Nat) (f : Nat → Option va_E) (hN : ∀ k, k < 6 → f (β + 1 + k) = none) : Met l y_Tol_init (wd y_Tol_init b_Tol_init 1 none) { frames := 1, cells := 5, slots := 1000, locals := 24 } (va_Pc [.ref (ad β)] (cp D L0 ad (obT D ad β 4 shTol 0 f))) (da D L0 none (fun ad' f' => (∀ x, (x ≤ β ∨ β + 6 < x) → ad' x = ad x) ∧ f' = obP D ad' β 4 shTol zO f)) 5 1000 (fun q => L0 ≤ q) := by
  refine hw_met (by decide) (Nat.le_of_ble_eq_true rfl) ?_
  intro p e s m below meth c ls F hr hlocks hnm hL hH hS hl
  refine lv_aload_n F.1.1 F.1.2.1 d_Tol_init_0 rfl (lv_at hl 0 rfl) ?_
  refine oInit F hl q_ml_Tol_1 q_im_Object q_co_Object d_Tol_init_1 (Nat.le_of_ble_eq_true rfl) (Nat.le_of_ble_eq_true rfl) ?_
  have hb0 : ad β = ad β := rfl
  refine lv_aload_n F.1.1 F.1.2.1 d_Tol_init_4 rfl (lv_at hl 0 rfl) ?_
  refine lv_sipush (v := 200) F.1.1 F.1.2.1 d_Tol_init_5 (by decide) ?_
  refine ct_a (t0 := 0) ck_Tol F hL hH hS (j := 0) rfl (by decide) (by decide) (hN 0 (by decide)) rfl q_ac_int rfl rfl (fun _ => rfl) (by decide) (by decide) (by decide) (Nat.le_of_ble_eq_true rfl) (Nat.le_of_ble_eq_true rfl) d_Tol_init_8 q_fl_Tol_9 (by decide) rfl hnm rfl rfl hb0 d_Tol_init_10 (fun ad1 H locs hx1 hH hS => ?_)
  have hb1 : ad1 β = ad β := (hx1 β (by omega)).trans hb0
  refine lv_aload_n F.1.1 F.1.2.1 d_Tol_init_13 rfl (lv_at hl 0 rfl) ?_
  refine lv_sipush (v := 200) F.1.1 F.1.2.1 d_Tol_init_14 (by decide) ?_
  refine ct_a (t0 := 0) ck_Tol F hL hH hS (j := 1) rfl (by decide) (by decide) (hN 1 (by decide)) rfl q_ac_int rfl rfl (fun _ => rfl) (by decide) (by decide) (by decide) (Nat.le_of_ble_eq_true rfl) (Nat.le_of_ble_eq_true rfl) d_Tol_init_17 q_fl_Tol_13 (by decide) rfl hnm rfl rfl hb1 d_Tol_init_19 (fun ad2 H locs hx2 hH hS => ?_)
  have hb2 : ad2 β = ad β := (hx2 β (by omega)).trans hb1
  refine lv_aload_n F.1.1 F.1.2.1 d_Tol_init_22 rfl (lv_at hl 0 rfl) ?_
  refine lv_sipush (v := 200) F.1.1 F.1.2.1 d_Tol_init_23 (by decide) ?_
  refine ct_a (t0 := 0) ck_Tol F hL hH hS (j := 2) rfl (by decide) (by decide) (hN 2 (by decide)) rfl q_ac_int rfl rfl (fun _ => rfl) (by decide) (by decide) (by decide) (Nat.le_of_ble_eq_true rfl) (Nat.le_of_ble_eq_true rfl) d_Tol_init_26 q_fl_Tol_16 (by decide) rfl hnm rfl rfl hb2 d_Tol_init_28 (fun ad3 H locs hx3 hH hS => ?_)
  have hb3 : ad3 β = ad β := (hx3 β (by omega)).trans hb2
  refine lv_aload_n F.1.1 F.1.2.1 d_Tol_init_31 rfl (lv_at hl 0 rfl) ?_
  refine lv_sipush (v := 200) F.1.1 F.1.2.1 d_Tol_init_32 (by decide) ?_
  refine ct_a (t0 := 1) ck_Tol F hL hH hS (j := 3) rfl (by decide) (by decide) (hN 3 (by decide)) rfl q_ac_long rfl rfl (fun _ => rfl) (by decide) (by decide) (by decide) (Nat.le_of_ble_eq_true rfl) (Nat.le_of_ble_eq_true rfl) d_Tol_init_35 q_fl_Tol_19 (by decide) rfl hnm rfl rfl hb3 d_Tol_init_37 (fun ad4 H locs hx4 hH hS => ?_)
  have hb4 : ad4 β = ad β := (hx4 β (by omega)).trans hb3
  refine lv_aload_n F.1.1 F.1.2.1 d_Tol_init_40 rfl (lv_at hl 0 rfl) ?_
  refine lv_sipush (v := 200) F.1.1 F.1.2.1 d_Tol_init_41 (by decide) ?_
  refine ct_a (t0 := 1) ck_Tol F hL hH hS (j := 4) rfl (by decide) (by decide) (hN 4 (by decide)) rfl q_ac_long rfl rfl (fun _ => rfl) (by decide) (by decide) (by decide) (Nat.le_of_ble_eq_true rfl) (Nat.le_of_ble_eq_true rfl) d_Tol_init_44 q_fl_Tol_23 (by decide) rfl hnm rfl rfl hb4 d_Tol_init_46 (fun ad5 H locs hx5 hH hS => ?_)
  have hb5 : ad5 β = ad β := (hx5 β (by omega)).trans hb4
  replace hH := hH.to (obT_num (j := 5) rfl (Or.inl rfl))
  replace hH := hH.to obT_end
  exact hw_vretA F hr hlocks hH hS d_Tol_init_49 ⟨fun x hx => (hx5 x (by omega)).trans ((hx4 x (by omega)).trans ((hx3 x (by omega)).trans ((hx2 x (by omega)).trans (hx1 x (by omega))))), rfl⟩
set_option maxHeartbeats 2000000 in
theorem c_Sur_init (l : Launch) (D : va_G) (L0 : Nat) (ad : Nat → Nat) (β : Nat) (f : Nat → Option va_E) (hN : ∀ k, k < 2 → f (β + 1 + k) = none) : Met l y_Sur_init (wd y_Sur_init b_Sur_init 1 none) { frames := 1, cells := 2, slots := 50, locals := 24 } (va_Pc [.ref (ad β)] (cp D L0 ad (obT D ad β 3 shSur 0 f))) (da D L0 none (fun ad' f' => (∀ x, (x ≤ β ∨ β + 2 < x) → ad' x = ad x) ∧ f' = obP D ad' β 3 shSur zO f)) 2 50 (fun q => L0 ≤ q) := by
  refine hw_met (by decide) (Nat.le_of_ble_eq_true rfl) ?_
  intro p e s m below meth c ls F hr hlocks hnm hL hH hS hl
  refine lv_aload_n F.1.1 F.1.2.1 d_Sur_init_0 rfl (lv_at hl 0 rfl) ?_
  refine oInit F hl q_ml_Sur_1 q_im_Object q_co_Object d_Sur_init_1 (Nat.le_of_ble_eq_true rfl) (Nat.le_of_ble_eq_true rfl) ?_
  have hb0 : ad β = ad β := rfl
  refine lv_aload_n F.1.1 F.1.2.1 d_Sur_init_4 rfl (lv_at hl 0 rfl) ?_
  refine lv_bipush (v := 25) F.1.1 F.1.2.1 d_Sur_init_5 (by decide) ?_
  refine ct_a (t0 := 0) ck_Sur F hL hH hS (j := 0) rfl (by decide) (by decide) (hN 0 (by decide)) rfl q_ac_int rfl rfl (fun _ => rfl) (by decide) (by decide) (by decide) (Nat.le_of_ble_eq_true rfl) (Nat.le_of_ble_eq_true rfl) d_Sur_init_7 q_fl_Sur_9 (by decide) rfl hnm rfl rfl hb0 d_Sur_init_9 (fun ad1 H locs hx1 hH hS => ?_)
  have hb1 : ad1 β = ad β := (hx1 β (by omega)).trans hb0
  refine lv_aload_n F.1.1 F.1.2.1 d_Sur_init_12 rfl (lv_at hl 0 rfl) ?_
  refine lv_bipush (v := 25) F.1.1 F.1.2.1 d_Sur_init_13 (by decide) ?_
  refine ct_a (t0 := 2) ck_Sur F hL hH hS (j := 1) rfl (by decide) (by decide) (hN 1 (by decide)) rfl q_ac_boolean rfl rfl (fun _ => rfl) (by decide) (by decide) (by decide) (Nat.le_of_ble_eq_true rfl) (Nat.le_of_ble_eq_true rfl) d_Sur_init_15 q_fl_Sur_13 (by decide) rfl hnm rfl rfl hb1 d_Sur_init_17 (fun ad2 H locs hx2 hH hS => ?_)
  have hb2 : ad2 β = ad β := (hx2 β (by omega)).trans hb1
  replace hH := hH.to obT_end
  exact hw_vretA F hr hlocks hH hS d_Sur_init_20 ⟨fun x hx => (hx2 x (by omega)).trans (hx1 x (by omega)), rfl⟩
set_option maxHeartbeats 2000000 in
theorem c_Kin_init (l : Launch) (D : va_G) (L0 : Nat) (ad : Nat → Nat) (β : Nat) (f : Nat → Option va_E) (hN : ∀ k, k < 5 → f (β + 1 + k) = none) : Met l y_Kin_init (wd y_Kin_init b_Kin_init 1 none) { frames := 1, cells := 2, slots := 8, locals := 24 } (va_Pc [.ref (ad β)] (cp D L0 ad (obT D ad β 1 shKin 0 f))) (da D L0 none (fun ad' f' => (∀ x, (x ≤ β ∨ β + 5 < x) → ad' x = ad x) ∧ f' = obP D ad' β 1 shKin (sI (sI zO 3 500) 4 1000) f)) 2 8 (fun q => L0 ≤ q) := by
  refine hw_met (by decide) (Nat.le_of_ble_eq_true rfl) ?_
  intro p e s m below meth c ls F hr hlocks hnm hL hH hS hl
  refine lv_aload_n F.1.1 F.1.2.1 d_Kin_init_0 rfl (lv_at hl 0 rfl) ?_
  refine oInit F hl q_ml_Kin_1 q_im_Object q_co_Object d_Kin_init_1 (Nat.le_of_ble_eq_true rfl) (Nat.le_of_ble_eq_true rfl) ?_
  have hb0 : ad β = ad β := rfl
  refine lv_aload_n F.1.1 F.1.2.1 d_Kin_init_4 rfl (lv_at hl 0 rfl) ?_
  refine lv_iconst (v := 4) F.1.1 F.1.2.1 d_Kin_init_5 (by decide) ?_
  refine ct_a (t0 := 1) ck_Kin F hL hH hS (j := 0) rfl (by decide) (by decide) (hN 0 (by decide)) rfl q_ac_long rfl rfl (fun _ => rfl) (by decide) (by decide) (by decide) (Nat.le_of_ble_eq_true rfl) (Nat.le_of_ble_eq_true rfl) d_Kin_init_6 q_fl_Kin_9 (by decide) rfl hnm rfl rfl hb0 d_Kin_init_8 (fun ad1 H locs hx1 hH hS => ?_)
  have hb1 : ad1 β = ad β := (hx1 β (by omega)).trans hb0
  refine lv_aload_n F.1.1 F.1.2.1 d_Kin_init_11 rfl (lv_at hl 0 rfl) ?_
  refine lv_iconst (v := 4) F.1.1 F.1.2.1 d_Kin_init_12 (by decide) ?_
  refine ct_a (t0 := 0) ck_Kin F hL hH hS (j := 1) rfl (by decide) (by decide) (hN 1 (by decide)) rfl q_ac_int rfl rfl (fun _ => rfl) (by decide) (by decide) (by decide) (Nat.le_of_ble_eq_true rfl) (Nat.le_of_ble_eq_true rfl) d_Kin_init_13 q_fl_Kin_13 (by decide) rfl hnm rfl rfl hb1 d_Kin_init_15 (fun ad2 H locs hx2 hH hS => ?_)
  have hb2 : ad2 β = ad β := (hx2 β (by omega)).trans hb1
  replace hH := hH.to (obT_num (j := 2) rfl (Or.inl rfl))
  replace hH := hH.to (obT_num (j := 3) rfl (Or.inl rfl))
  replace hH := hH.to (obT_num (j := 4) rfl (Or.inl rfl))
  replace hH := hH.to obT_end
  refine lv_aload_n F.1.1 F.1.2.1 d_Kin_init_18 rfl (lv_at hl 0 rfl) ?_
  refine lv_sipush (v := 500) F.1.1 F.1.2.1 d_Kin_init_19 (by decide) ?_
  refine pIa hb2 ck_Kin F hH hS q_fl_Kin_17 (k := 3) (by decide) rfl rfl rfl d_Kin_init_22 (fun H locs hH hS => ?_)
  refine lv_aload_n F.1.1 F.1.2.1 d_Kin_init_25 rfl (lv_at hl 0 rfl) ?_
  refine lv_sipush (v := 1000) F.1.1 F.1.2.1 d_Kin_init_26 (by decide) ?_
  refine pIa hb2 ck_Kin F hH hS q_fl_Kin_21 (k := 4) (by decide) rfl rfl rfl d_Kin_init_29 (fun H locs hH hS => ?_)
  exact hw_vretA F hr hlocks hH hS d_Kin_init_32 ⟨fun x hx => (hx2 x (by omega)).trans (hx1 x (by omega)), rfl⟩
set_option maxHeartbeats 2000000 in
theorem c_Pha_init (l : Launch) (D : va_G) (L0 : Nat) (ad : Nat → Nat) (β : Nat) (f : Nat → Option va_E) (a b : Int32) (w : Int64) : Met l y_Pha_init (wd y_Pha_init b_Pha_init 5 none) { frames := 1, cells := 0, slots := 0, locals := 24 } (va_Pc [.ref (ad β), .int a, .int b, .long w] (cp D L0 ad (obP D ad β 2 shPha zO f))) (da D L0 none (fun ad' f' => ad' = ad ∧ f' = obP D ad β 2 shPha (phO a b w) f)) 0 0 (fun q => L0 ≤ q) := by
  refine hw_met (by decide) (Nat.le_of_ble_eq_true rfl) ?_
  intro p e s m below meth c ls F hr hlocks hnm hL hH hS hl
  refine lv_aload_n F.1.1 F.1.2.1 d_Pha_init_0 rfl (lv_at hl 0 rfl) ?_
  refine oInit F hl q_ml_Pha_1 q_im_Object q_co_Object d_Pha_init_1 (Nat.le_of_ble_eq_true rfl) (Nat.le_of_ble_eq_true rfl) ?_
  refine lv_aload_n F.1.1 F.1.2.1 d_Pha_init_4 rfl (lv_at hl 0 rfl) ?_
  refine lv_iload_n F.1.1 F.1.2.1 d_Pha_init_5 rfl (lv_at hl 1 rfl) ?_
  refine hw_pfFa ck_Pha F hH hS q_fl_Pha_7 (k := 0) (by decide) rfl hnm rfl rfl obP_o rfl rfl (by rw [obO_len]; decide) d_Pha_init_6 (fun H locs hH hS => ?_)
  replace hH := hH.to (obP_setI (k := 0) (z := 0) rfl rfl)
  refine lv_aload_n F.1.1 F.1.2.1 d_Pha_init_9 rfl (lv_at hl 0 rfl) ?_
  refine lv_iload_n F.1.1 F.1.2.1 d_Pha_init_10 rfl (lv_at hl 2 rfl) ?_
  refine hw_pfFa ck_Pha F hH hS q_fl_Pha_13 (k := 1) (by decide) rfl hnm rfl rfl obP_o rfl rfl (by rw [obO_len]; decide) d_Pha_init_11 (fun H locs hH hS => ?_)
  replace hH := hH.to (obP_setI (k := 1) (z := 0) rfl rfl)
  refine lv_aload_n F.1.1 F.1.2.1 d_Pha_init_14 rfl (lv_at hl 0 rfl) ?_
  refine lv_lload_n F.1.1 F.1.2.1 d_Pha_init_15 rfl (lv_at hl 3 rfl) ?_
  refine hw_pfFa ck_Pha F hH hS q_fl_Pha_16 (k := 2) (by decide) rfl hnm rfl rfl obP_o rfl rfl (by rw [obO_len]; decide) d_Pha_init_16 (fun H locs hH hS => ?_)
  replace hH := hH.to (obP_setJ (k := 2) (z := 0) rfl rfl)
  exact hw_vretA F hr hlocks hH hS d_Pha_init_19 ⟨rfl, rfl⟩
