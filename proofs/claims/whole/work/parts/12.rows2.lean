section RX
variable {p : Program} {l : Launch} {e : Env} {R : Room} {s : State} {m : MethodId} {args : Array Value} {below : List Frame} {meth : Method} {c : Code} {H : Heap} {locs : List Loc} {cells slots : Nat} {Q : State → Prop}
variable {cc : ByteArray} {pc nL : Nat} {ls : Array Slot} {rest st0 : List Value} {D : va_G} {L0 : Nat} {ad : Nat → Nat} {f : Nat → Option va_E} {own : String} {H0 : Heap}
theorem hw_alen (F : fx p m c cc nL s args own D) (h : hw D L0 ad f H) {r : Nat} {t0 : Nat} {ty : FieldType} {cA : ClassId} {x : vp_A} (ht : (tysOf D)[t0]? = some (cA, ty)) (he : f r = some (.inl (cA, x))) {v : Int32} (hv : Int32.ofNat x.1 = v) (hdg : decode cc pc = .ok (.arraylength, 1))
    (kk : W p l e R s m args below meth c H locs cells slots Q (F0 m (pc + 1) ls (.int v :: rest))) : W p l e R s m args below meth c H locs cells slots Q (F0 m pc ls (.ref (ad r) :: rest)) := by
  obtain ⟨ws, k1, -, hP, -, hk1, -⟩ := h.in he he
  exact va_alen F.1.1 F.1.2.1 F.2.1 hP k1 t0 hk1 ht hv hdg kk
/-- a new object at the empty role r -/
theorem hw_obj {C : String} {T : u_T} {N ci index : Nat} (F : fx p m c cc nL s args own D) (h : hw D L0 ad f H) (hS : va_S (fun q => L0 ≤ q) s.heap H locs) (hL : L0 ≤ s.heap.size) (hin : ∀ w ∈ u_ws C T N, w ∈ T0) (ty0 : Nat → FieldType) (hty : ∀ k, k < N → parseFieldDescriptor (T k).2.2.1 = some (ty0 k)) (hc : classes[ci]? = some (C, T, N)) (hcl : Cond.classLink own index C ∈ T0) (hinst : Cond.instantiable C N ∈ T0) (hini : Cond.initialized C ∈ T0) (r : Nat) (hn : f r = none) {fs : List Value} (hfs : ∀ j, j < N → defaultValue (ty0 j) = vp_V fs j) (hcells : cells + 1 ≤ R.cells) (hslots : slots + N ≤ R.slots) (hdg : decode cc pc = .ok (.new index, 3))
    (kk : ∀ (ad' : Nat → Nat) (H1 : Heap), (∀ x, x ≠ r → ad' x = ad x) → hw D L0 ad' (va_up f r (some (.inr (ci, fs)))) H1 → va_S (fun q => L0 ≤ q) s.heap H1 locs → W p l e R s m args below meth c H1 locs (cells + 1) (slots + N) Q (F0 m (pc + 3) ls (.ref (ad' r) :: rest))) : W p l e R s m args below meth c H locs cells slots Q (F0 m pc ls rest) := by
  obtain ⟨ws, hP, hD, hnew⟩ := h.new
  obtain ⟨⟨hx, hb, -, ho, hts⟩, hK, -⟩ := F
  refine va_new hx hb hts hin ty0 hty ho (hts _ hcl) (hts _ hinst) (hts _ hini) hK hP hD hS (fun q hq => Nat.le_trans hL hq) hc hfs hcells hslots hdg (fun q H1 h1 h2 h3 => ?_)
  have := kk (va_up ad r q) H1 (fun x hx => va_up_ne _ _ hx) (hnew r q _ H1 hn h1 h2) h3
  rwa [va_up_self] at this
theorem kn_arr {ty : FieldType} {cA : ClassId} {j : Nat} {cB : ClassId} (k : kn D s) (hj : (tysOf D)[j]? = some (cB, ty)) (h : va_RA s cA ty) : cA = cB := by
  have h2 := (k.1.2 j _ hj).2
  cases ty with
  | object C =>
    obtain ⟨_, _, -, -, -, a⟩ := h
    obtain ⟨_, _, -, -, -, b⟩ := h2
    exact Option.some.inj (a.symm.trans b)
  | _ => exact Option.some.inj (Eq.trans (Eq.symm h) h2)
theorem hw_newa {atype : ArrayType} (F : fx p m c cc nL s args own D) (h : hw D L0 ad f H) (hS : va_S (fun q => L0 ≤ q) s.heap H locs) (hL : L0 ≤ s.heap.size) {ty : FieldType} (harr : Cond.arrayClass ty ∈ T0) (hty : newarray.typeOf atype = ty) {j : Nat} {cB : ClassId} (hj : (tysOf D)[j]? = some (cB, ty)) {n : Int32} {N' : Nat} {a0 : vp_A} (ha : ∀ cA : ClassId, vp_cell cA a0 = arrV cA N' (fun _ => defaultValue ty)) (r : Nat) (hn0 : f r = none) (hn : ¬ n < 0) (hN : n.toNatClampNeg = N') (hbytes : N' * componentBytes ty ≤ 536870912) (hcells : cells + 1 ≤ R.cells) (hslots : slots + N' ≤ R.slots) (hdg : decode cc pc = .ok (.newarray atype, 2))
    (kk : ∀ (ad' : Nat → Nat) (H1 : Heap), (∀ x, x ≠ r → ad' x = ad x) → hw D L0 ad' (va_up f r (some (.inl (cB, a0)))) H1 → va_S (fun q => L0 ≤ q) s.heap H1 locs → W p l e R s m args below meth c H1 locs (cells + 1) (slots + N') Q (F0 m (pc + 2) ls (.ref (ad' r) :: rest))) : W p l e R s m args below meth c H locs cells slots Q (F0 m pc ls (.int n :: rest)) := by
  obtain ⟨ws, hP, hD, hnew⟩ := h.new
  have K := F.2
  obtain ⟨⟨hx, hb, -, ho, hts⟩, hK, -⟩ := F
  refine va_newa hx hb (by rw [hty]; exact hts _ harr) hty hK hP hD hS (fun q hq => Nat.le_trans hL hq) ha hn hN hbytes hcells hslots hdg (fun q cA H1 hK1 h1 h2 h3 => ?_)
  have e1 : cA = cB := kn_arr K hj (hK1.2 (tysOf D).length (cA, ty) (by simp)).2
  subst e1
  have := kk (va_up ad r q) H1 (fun x hx => va_up_ne _ _ hx) (hnew r q _ H1 hn0 h1 h2) h3
  rwa [va_up_self] at this
theorem hw_newq {index : Nat} {C : String} (F : fx p m c cc nL s args own D) (h : hw D L0 ad f H) (hS : va_S (fun q => L0 ≤ q) s.heap H locs) (hL : L0 ≤ s.heap.size) (hcl : Cond.classLink own index C ∈ T0) {j : Nat} (hj : arrObj[j]? = some C) {n : Int32} {N' : Nat} (r : Nat) (hn0 : f r = none) (hn : ¬ n < 0) (hN : n.toNatClampNeg = N') (hbytes : N' * 4 ≤ 536870912) (hcells : cells + 1 ≤ R.cells) (hslots : slots + N' ≤ R.slots) (hdg : decode cc pc = .ok (.anewarray index, 3))
    (kk : ∀ (ad' : Nat → Nat) (H1 : Heap), (∀ x, x ≠ r → ad' x = ad x) → hw D L0 ad' (va_up f r (some (aO D j N' (fun _ => none)))) H1 → va_S (fun q => L0 ≤ q) s.heap H1 locs → W p l e R s m args below meth c H1 locs (cells + 1) (slots + N') Q (F0 m (pc + 3) ls (.ref (ad' r) :: rest))) : W p l e R s m args below meth c H locs cells slots Q (F0 m pc ls (.int n :: rest)) := by
  obtain ⟨ws, hP, hD, hnew⟩ := h.new
  have K := F.2
  obtain ⟨⟨hx, hb, -, ho, hts⟩, hK, -, hAO⟩ := F
  refine va_newq hx hb ho (hts _ hcl) (hAO C (List.mem_of_getElem? hj)) hK hP hD hS (fun q hq => Nat.le_trans hL hq) hn hN hbytes hcells hslots hdg (fun q cA H1 hK1 h1 h2 h3 => ?_)
  have e1 : cA = D.1 (103 + j) := kn_arr K (tysOf_obj D hj) (hK1.2 (tysOf D).length (cA, .object C) (by simp)).2
  subst e1
  have := kk (va_up ad r q) H1 (fun x hx => va_up_ne _ _ hx) (hnew r q _ H1 hn0 h1 h2) h3
  rwa [va_up_self] at this
-- answers
theorem hw_iret {v v' : Int32} {f' : Nat → Option va_E} (F : fx p m c cc nL s args own D) (hr : meth.sig.returnType = some .int) (hlocks : meth.locks = false) (h : hw D L0 ad f H) (hS : va_S (fun q => L0 ≤ q) s.heap H locs) (hdg : decode cc pc = .ok (.ireturn, 1)) (ev : v = v') (ef : f = f') : W p l e R s m args below meth c H locs cells slots (MQ below (dt D L0 ad (some (.int v')) f') args s cells slots (fun q => L0 ≤ q)) (F0 m pc ls [.int v]) := by
  subst ev; subst ef
  exact W.iret F.1.1 F.1.2.1 hr (fun t ht _ => ⟨⟨rfl, by rw [ht]; exact h⟩, hS.F ht⟩) hS.2.2 hdg hlocks
theorem hw_zret {v v' : Int32} {f' : Nat → Option va_E} (F : fx p m c cc nL s args own D) (hr : meth.sig.returnType = some .boolean) (hlocks : meth.locks = false) (h : hw D L0 ad f H) (hS : va_S (fun q => L0 ≤ q) s.heap H locs) (hdg : decode cc pc = .ok (.ireturn, 1)) (hn : narrow .boolean (.int v) = .int v) (ev : v = v') (ef : f = f') : W p l e R s m args below meth c H locs cells slots (MQ below (dt D L0 ad (some (.int v')) f') args s cells slots (fun q => L0 ≤ q)) (F0 m pc ls [.int v]) := by
  subst ev; subst ef
  exact W.zret F.1.1 F.1.2.1 hr hn (fun t ht _ => ⟨⟨rfl, by rw [ht]; exact h⟩, hS.F ht⟩) hS.2.2 hdg hlocks
theorem hw_lret {v v' : Int64} {f' : Nat → Option va_E} (F : fx p m c cc nL s args own D) (hr : meth.sig.returnType = some .long) (hlocks : meth.locks = false) (h : hw D L0 ad f H) (hS : va_S (fun q => L0 ≤ q) s.heap H locs) (hdg : decode cc pc = .ok (.lreturn, 1)) (ev : v = v') (ef : f = f') : W p l e R s m args below meth c H locs cells slots (MQ below (dt D L0 ad (some (.long v')) f') args s cells slots (fun q => L0 ≤ q)) (F0 m pc ls [.long v]) := by
  subst ev; subst ef
  exact W.lret F.1.1 F.1.2.1 hr (fun t ht _ => ⟨⟨rfl, by rw [ht]; exact h⟩, hS.F ht⟩) hS.2.2 hdg hlocks
theorem hw_vret {f' : Nat → Option va_E} (F : fx p m c cc nL s args own D) (hr : meth.sig.returnType = none) (hlocks : meth.locks = false) (h : hw D L0 ad f H) (hS : va_S (fun q => L0 ≤ q) s.heap H locs) (hdg : decode cc pc = .ok (.return_, 1)) (ef : f = f') : W p l e R s m args below meth c H locs cells slots (MQ below (dt D L0 ad none f') args s cells slots (fun q => L0 ≤ q)) (F0 m pc ls []) := by
  subst ef
  exact W.vret F.1.1 F.1.2.1 hr (fun t ht _ => ⟨⟨rfl, by rw [ht]; exact h⟩, hS.F ht⟩) hS.2.2 hdg hlocks
theorem hw_aret {v v' : Value} {nm : String} {f' : Nat → Option va_E} (F : fx p m c cc nL s args own D) (hr : meth.sig.returnType = some (.object nm)) (hlocks : meth.locks = false) (h : hw D L0 ad f H) (hS : va_S (fun q => L0 ≤ q) s.heap H locs) (hdg : decode cc pc = .ok (.areturn, 1)) (hv : v = .null ∨ ∃ a, v = .ref a) (ev : v = v') (ef : f = f') : W p l e R s m args below meth c H locs cells slots (MQ below (dt D L0 ad (some v') f') args s cells slots (fun q => L0 ≤ q)) (F0 m pc ls [v]) := by
  subst ev; subst ef
  exact W.aret F.1.1 F.1.2.1 hr (Or.inl ⟨_, rfl⟩) hv (fun t ht _ => ⟨⟨rfl, by rw [ht]; exact h⟩, hS.F ht⟩) hS.2.2 hdg hlocks
end RX
/-- a contract, from its body's walk -/
abbrev wd (y : MethodName) (b : ByteArray) (n : Nat) (ret : Option FieldType) : List Cond := .code y b n ret :: T0
theorem hw_met {l : Launch} {y : MethodName} {b : ByteArray} {n : Nat} {ret : Option FieldType} {rm : Room} {av : List Value} {D : va_G} {L0 : Nat} {ad : Nat → Nat} {f : Nat → Option va_E} {Qc : Array Value → State → Outcome → State → Prop} {mc ms : Nat} (hy : plainName y.cls = true) (hlen : (lg_sl av).length ≤ n)
    (body : ∀ (p : Program) (e : Env) (s : State) (m : MethodId) (below : List Frame) (meth : Method) (c : Code) (ls : Array Slot), fx p m c b n s av.toArray y.cls D → meth.sig.returnType = ret → meth.locks = false → meth.name = y.name → L0 ≤ s.heap.size → hw D L0 ad f s.heap → va_S (fun q => L0 ≤ q) s.heap s.heap [] → lv_has ls n (lv_args 0 av) →
      W p l e rm s m av.toArray below meth c s.heap [] 0 0 (MQ below Qc av.toArray s mc ms (fun q => L0 ≤ q)) (F0 m 0 ls [])) : Met l y (wd y b n ret) rm (va_Pc av (cp D L0 ad f)) Qc mc ms (fun q => L0 ≤ q) := by
  refine Met.ofW (cc := b) (maxL := n) (ret := ret) hy rfl ?_
  intro p e s m args below meth c s₁ B hml hv
  obtain ⟨rfl, hK, hL, h⟩ := hv
  have hts := atoms_spec (ws := wd y b n ret) B.pre
  have hown : s.vm.findClass y.cls = some m.cls := findClass_of_methodNamed B.named
  rw [lg_entry_eq]
  exact body p e s m below meth c _ ⟨⟨B.exec, B.bytes, hml, hown, fun w hw => hts w (List.mem_cons_of_mem _ hw)⟩, hK⟩ B.returns B.notSynchronized (name_of_methodNamed B.named B.method).1 hL h va_S.rf (lv_entry av hlen)
