/-! CALLS by contracts of the form dt, without new cells -/
section CL
variable {p : Program} {l : Launch} {e : Env} {R : Room} {s : State} {m : MethodId} {args : Array Value} {below : List Frame} {meth : Method} {c : Code} {H : Heap} {locs : List Loc} {cells slots : Nat} {Q : State → Prop}
variable {cc : ByteArray} {pc nL : Nat} {ls : Array Slot} {rest st0 : List Value} {D : va_G} {L0 : Nat} {ad : Nat → Nat} {own : String} {H0 : Heap} {f f' : Nat → Option va_E}
variable {y : MethodName} {b : ByteArray} {maxL index : Nat} {ret : Option FieldType} {rm : Room} {lv : List (Nat × Value)} {host : String}
theorem hw_call1 {a : Array Value} {v : Value} (hr : va_Run p l e R s m args below meth c H locs cells slots 0 0 (F0 m pc ls st0) rest (dt D L0 ad (some v) f' a) (fun q => L0 ≤ q)) (hS : va_S (fun q => L0 ≤ q) H0 H locs)
    (kk : ∀ (H1 : Heap) (locs1 : List Loc), hw D L0 ad f' H1 → va_S (fun q => L0 ≤ q) H0 H1 locs1 → W p l e R s m args below meth c H1 locs1 cells slots Q (F0 m (pc + 3) ls (v :: rest))) : W p l e R s m args below meth c H locs cells slots Q (F0 m pc ls st0) := hw_call hr hS kk
theorem hw_call0 {a : Array Value} (hr : va_Run p l e R s m args below meth c H locs cells slots 0 0 (F0 m pc ls st0) rest (dt D L0 ad none f' a) (fun q => L0 ≤ q)) (hS : va_S (fun q => L0 ≤ q) H0 H locs)
    (kk : ∀ (H1 : Heap) (locs1 : List Loc), hw D L0 ad f' H1 → va_S (fun q => L0 ≤ q) H0 H1 locs1 → W p l e R s m args below meth c H1 locs1 cells slots Q (F0 m (pc + 3) ls rest)) : W p l e R s m args below meth c H locs cells slots Q (F0 m pc ls st0) := hw_call hr hS kk
/-- what a call needs of numbers: its arguments, its frames and locals, what waits on the stack -/
def cN (R rm : Room) (y : MethodName) (maxL n : Nat) (rest : List Value) : Prop := rm.cells = 0 ∧ rm.slots = 0 ∧ (y.cls ≠ "java/lang/invoke/MethodHandle" ∧ y.cls ≠ "java/lang/invoke/VarHandle" ∧ (parseMethodDescriptor y.desc).map (fun d => d.parameters.length) = some n) ∧ (rm.frames + 1 ≤ R.frames ∧ 8 + (maxL + 11) + rm.locals ≤ R.locals) ∧ (rest.map fun v => v.category).sum ≤ 8
theorem hw_runV {C : String} {T : u_T} {N : Nat} {ty : Nat → FieldType} {r ci : Nat} {fs av : List Value} {Qc : Array Value → State → Outcome → State → Prop} {free : Addr → Prop} (F : fx p m c cc nL s args own D) (hL : L0 ≤ s.heap.size) (hS : va_S (fun q => L0 ≤ q) s.heap H locs) (h : hw D L0 ad f H) (hl : lv_has ls nL lv) (hM : Met l y (wd y b maxL ret) rm (va_Pc (.ref (ad r) :: av) (cp D L0 ad f)) Qc 0 0 free) (K : CK ci C T N ty) (he : f r = some (.inr (ci, fs))) (hC : y.cls = C)
    (h1 : Cond.methodLink own index y ∈ T0) (h2 : Cond.instanceMethod y ∈ T0) (h3 : Cond.selects C y y ∈ T0) (h4 : Cond.initialized C ∈ T0) (h5 : Cond.code y b maxL ret ∈ T0) (hst : st0 = av.reverse ++ .ref (ad r) :: rest) {k : Nat} (n : cN R rm y maxL k rest) (hk : av.length = k) (hdg : decode cc pc = .ok (.invokevirtual index, 3)) (hf : cells ≤ R.cells ∧ slots ≤ R.slots) :
    va_Run p l e R s m args below meth c H locs cells slots 0 0 (F0 m pc ls st0) rest (Qc (Value.ref (ad r) :: av).toArray) free := by
  subst hC
  subst hk
  exact va_runV F.1 hM (cwV av.length F.1.2.2.2.2 (gd_V h1 h2 h3 h4 h5) rfl n.1 n.2.1 ⟨rfl, n.2.2.1⟩ n.2.2.2.1) (hw_pV F (Nat.le_trans hL hS.1) h he K.1) rfl rfl hl.1 hst (lv_room n.2.2.2.2) hdg hf
theorem hw_runS {av : List Value} {Qc : Array Value → State → Outcome → State → Prop} {free : Addr → Prop} (F : fx p m c cc nL s args own D) (hL : L0 ≤ s.heap.size) (hS : va_S (fun q => L0 ≤ q) s.heap H locs) (h : hw D L0 ad f H) (hl : lv_has ls nL lv) (hM : Met l y (wd y b maxL ret) rm (va_Pc av (cp D L0 ad f)) Qc 0 0 free)
    (h1 : Cond.methodLink own index y ∈ T0) (h2 : Cond.static y ∈ T0) (h4 : Cond.initialized y.cls ∈ T0) (h5 : Cond.code y b maxL ret ∈ T0) (hst : st0 = av.reverse ++ rest) {k : Nat} (n : cN R rm y maxL k rest) (hk : av.length = k) (hdg : decode cc pc = .ok (.invokestatic index, 3)) (hf : cells ≤ R.cells ∧ slots ≤ R.slots) :
    va_Run p l e R s m args below meth c H locs cells slots 0 0 (F0 m pc ls st0) rest (Qc av.toArray) free := by
  subst hk
  have hG : GoodIn T0 (va_wsS own index y (wd y b maxL ret)) := by
    intro w hw
    have hm : w ∈ T0 := by
      simp only [va_wsS, wd, List.mem_append, List.mem_cons, List.not_mem_nil, or_false] at hw
      rcases hw with (rfl | rfl | rfl) | rfl | hw <;> assumption
    exact ⟨hm, good_of_word (T0_good hm)⟩
  exact va_runS F.1 hM (va_cwS av.length F.1.2.2.2.2 hG rfl n.1 n.2.1 n.2.2.1 n.2.2.2.1) (hw_pS F (Nat.le_trans hL hS.1) h) rfl rfl hl.1 hst (lv_room n.2.2.2.2) hdg hf
theorem hw_runSN {av : List Value} {Qc : Array Value → State → Outcome → State → Prop} {free : Addr → Prop} (F : fx p m c cc nL s args own D) (hL : L0 ≤ s.heap.size) (hS : va_S (fun q => L0 ≤ q) s.heap H locs) (h : hw D L0 ad f H) (hl : lv_has ls nL lv) (hM : Met l y (wd y b maxL ret) rm (va_Pc av (cp D L0 ad f)) Qc 0 0 free)
    (h1 : Cond.methodLinkNest own index y host ∈ nestW) (h2 : Cond.static y ∈ T0) (h4 : Cond.initialized y.cls ∈ T0) (h5 : Cond.code y b maxL ret ∈ T0) (hst : st0 = av.reverse ++ rest) {k : Nat} (n : cN R rm y maxL k rest) (hk : av.length = k) (hdg : decode cc pc = .ok (.invokestatic index, 3)) (hf : cells ≤ R.cells ∧ slots ≤ R.slots) :
    va_Run p l e R s m args below meth c H locs cells slots 0 0 (F0 m pc ls st0) rest (Qc av.toArray) free := by
  subst hk
  have hts := F.1.2.2.2.2
  exact va_runSN F.1 hM ⟨va_cnB av.length hts (gd_W h5) rfl n.1 n.2.1 (F.2.2.1 _ h1) (hts _ h4) n.2.2.1 n.2.2.2.1, hts _ h2, trivial⟩ (hw_pS F (Nat.le_trans hL hS.1) h) rfl rfl hl.1 hst (lv_room n.2.2.2.2) hdg hf
theorem hw_aaldR {r n j a : Nat} {C : String} (F : fx p m c cc nL s args own D) (h : hw D L0 ad f H) (hj : arrObj[j]? = some C) {g : Nat → Option Nat} (he : f r = some (aO D j n g)) {i : Int32} (hin : vp_in i n) (hg : g i.toNatClampNeg = some a) (hdg : decode cc pc = .ok (.aaload, 1))
    (kk : W p l e R s m args below meth c H locs cells slots Q (F0 m (pc + 1) ls (.ref a :: rest))) : W p l e R s m args below meth c H locs cells slots Q (F0 m pc ls (.int i :: .ref (ad r) :: rest)) := by
  refine hw_aald F h hj he hin hdg ?_
  rw [hg]
  exact kk
theorem W_top {v v' : Value} (h : v = v') (k : W p l e R s m args below meth c H locs cells slots Q (F0 m pc ls (v' :: rest))) : W p l e R s m args below meth c H locs cells slots Q (F0 m pc ls (v :: rest)) := h ▸ k
end CL
