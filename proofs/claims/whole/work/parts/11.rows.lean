/-! ROWS OVER THE WORLD BY ROLES -/
abbrev aI (D : va_G) (n : Nat) (g : Nat → Int32) : va_E := .inl (D.1 100, n, .inl g)
abbrev aL (D : va_G) (n : Nat) (g : Nat → Int64) : va_E := .inl (D.1 101, n, .inr (.inl g))
abbrev aZ (D : va_G) (n : Nat) (g : Nat → Int32) : va_E := .inl (D.1 102, n, .inl g)
abbrev aO (D : va_G) (j : Nat) (n : Nat) (g : Nat → Option Nat) : va_E := .inl (D.1 (103 + j), n, .inr (.inr (.inr (.inr g))))
theorem nestW_is {w : Cond} (h : w ∈ nestW) : isNest w = true := (List.mem_filter.mp h).2
theorem nestW_on (w : Cond) (h : w ∈ nestW) : w.onTables = true := by
  have := nestW_is h
  cases w <;> first | rfl | (simp [isNest] at this; done)
theorem nestW_warm {s U : State} (hW : s.WarmedH U.vm) (w : Cond) (h : w ∈ nestW) (hz : va_Nw w s) : va_Nw w U := by
  have h1 := nestW_is h
  clear h
  cases w <;> first | exact va_Nw.warmF hW hz | exact va_Nw.warmM hW hz | (simp [isNest] at h1; done)
def tysOf (D : va_G) : List (ClassId × FieldType) := [(D.1 100, .int), (D.1 101, .long), (D.1 102, .boolean)] ++ arrObj.zipIdx.map (fun q => (D.1 (103 + q.2), .object q.1))
theorem tysOf_obj (D : va_G) {j : Nat} {C : String} (h : arrObj[j]? = some C) : (tysOf D)[3 + j]? = some (D.1 (103 + j), .object C) := by
  unfold tysOf
  rw [List.getElem?_append_right (by simp)]
  simp [h]
/-- what is known of the tables -/
def kn (D : va_G) (U : State) : Prop := va_K D classes (tysOf D) U ∧ (∀ w ∈ nestW, va_Nw w U) ∧ ∀ C ∈ arrObj, va_AO C U
theorem kn.same {D : va_G} {u U : State} (h : u.vm = U.vm) (k : kn D u) : kn D U := by
  have hal : u.vm.Alike U.vm := by rw [h]; exact Vm.Alike.refl U.vm
  exact ⟨va_K.moved hal k.1, fun w hw => va_Nw.same (nestW_on w hw) h (k.2.1 w hw), fun C hC => va_AO.moved hal (k.2.2 C hC)⟩
theorem kn.warm {D : va_G} {s U : State} (h : s.WarmedH U.vm) (k : kn D s) : kn D U :=
  ⟨va_K.moved h.alike k.1, fun w hw => nestW_warm h w hw (k.2.1 w hw), fun C hC => va_AO.moved h.alike (k.2.2 C hC)⟩
/-- a method's start and end -/
def cp (D : va_G) (L0 : Nat) (ad : Nat → Nat) (f : Nat → Option va_E) (U : State) : Prop := kn D U ∧ L0 ≤ U.heap.size ∧ hw D L0 ad f U.heap
def dt (D : va_G) (L0 : Nat) (ad : Nat → Nat) (v : Option Value) (f : Nat → Option va_E) : Array Value → State → Outcome → State → Prop := fun _ st oc t => (oc = .returned v ∧ hw D L0 ad f t.heap) ∧ va_F (fun q => L0 ≤ q) st t
/-- the same where new cells come: an address for each new role -/
def da (D : va_G) (L0 : Nat) (v : Option Value) (B : (Nat → Nat) → (Nat → Option va_E) → Prop) : Array Value → State → Outcome → State → Prop := fun _ st oc t => (∃ ad f, oc = .returned v ∧ B ad f ∧ hw D L0 ad f t.heap) ∧ va_F (fun q => L0 ≤ q) st t
theorem cp_blind {D : va_G} {L0 : Nat} {ad : Nat → Nat} {f : Nat → Option va_E} {av : List Value} : FrameBlind (va_Pc av (cp D L0 ad f)) := fun _ U g mk ⟨h1, h2, h3, h4⟩ => ⟨h1, kn.same (u := U) rfl h2, h3, h4⟩
def fx (p : Program) (m : MethodId) (c : Code) (cc : ByteArray) (nL : Nat) (s : State) (args : Array Value) (own : String) (D : va_G) : Prop := CallFix p m c cc nL s args T0 own ∧ kn D s
section RW
variable {p : Program} {l : Launch} {e : Env} {R : Room} {s : State} {m : MethodId} {args : Array Value} {below : List Frame} {meth : Method} {c : Code} {H : Heap} {locs : List Loc} {cells slots : Nat} {Q : State → Prop}
variable {cc : ByteArray} {pc nL : Nat} {ls : Array Slot} {rest st0 : List Value} {D : va_G} {L0 : Nat} {ad : Nat → Nat} {f : Nat → Option va_E} {own : String} {H0 : Heap}
theorem hw_pS {av : List Value} (F : fx p m c cc nL s args own D) (hL : L0 ≤ H.size) (h : hw D L0 ad f H) : PreS s H (va_Pc av (cp D L0 ad f)) av :=
  ⟨cp_blind, fun U hU hW => ⟨rfl, F.2.warm hW, by rw [hU]; exact hL, by rw [hU]; exact h⟩⟩
theorem hw_pV {av : List Value} {r ci : Nat} {q : vw_C} {fs : List Value} (F : fx p m c cc nL s args own D) (hL : L0 ≤ H.size) (h : hw D L0 ad f H) (he : f r = some (.inr (ci, fs))) (hc : classes[ci]? = some q) : PreV s H q.1 (ad r) (va_Pc (.ref (ad r) :: av) (cp D L0 ad f)) av := by
  obtain ⟨ws, k, -, hP, -, hk, -⟩ := h.in he he
  exact ⟨cp_blind, va_recv F.2.1 hP hc hk, fun U hU hW => ⟨rfl, F.2.warm hW, by rw [hU]; exact hL, by rw [hU]; exact h⟩⟩
theorem hw_call {a : Array Value} {v : Option Value} {f' : Nat → Option va_E} {mc ms : Nat} (hr : va_Run p l e R s m args below meth c H locs cells slots mc ms (F0 m pc ls st0) rest (dt D L0 ad v f' a) (fun q => L0 ≤ q)) (hS : va_S (fun q => L0 ≤ q) H0 H locs)
    (kk : ∀ (H1 : Heap) (locs1 : List Loc), hw D L0 ad f' H1 → va_S (fun q => L0 ≤ q) H0 H1 locs1 → W p l e R s m args below meth c H1 locs1 (cells + mc) (slots + ms) Q (F0 m (pc + 3) ls (v.toList ++ rest))) : W p l e R s m args below meth c H locs cells slots Q (F0 m pc ls st0) := by
  intro T hT X
  obtain ⟨v', st₀, t, T', L, h0, X', hL, e1, e2, ⟨⟨hv, hb⟩, hz, hk⟩, st⟩ := hr T hT X
  cases hv
  rw [h0] at hz hk
  obtain ⟨t2, a1, b1⟩ := kk T'.heap (locs ++ L) (by rw [e1]; exact hb)
    ⟨Nat.le_trans hS.1 (by rw [e1]; exact hz), fun q h1 h2 => by rw [e1, hk q (Nat.lt_of_lt_of_le h1 hS.1) h2]; exact hS.2.1 q h1 h2, fun q hq => by
      rcases List.mem_append.mp hq with h | h
      · exact hS.2.2 q h
      · exact hL q h⟩ T' rfl X'
  exact ⟨t2, st t2 a1, b1⟩
theorem hw_callA {a : Array Value} {v : Option Value} {B : (Nat → Nat) → (Nat → Option va_E) → Prop} {mc ms : Nat} (hr : va_Run p l e R s m args below meth c H locs cells slots mc ms (F0 m pc ls st0) rest (da D L0 v B a) (fun q => L0 ≤ q)) (hS : va_S (fun q => L0 ≤ q) H0 H locs)
    (kk : ∀ (ad' : Nat → Nat) (f' : Nat → Option va_E) (H1 : Heap) (locs1 : List Loc), B ad' f' → hw D L0 ad' f' H1 → va_S (fun q => L0 ≤ q) H0 H1 locs1 → W p l e R s m args below meth c H1 locs1 (cells + mc) (slots + ms) Q (F0 m (pc + 3) ls (v.toList ++ rest))) : W p l e R s m args below meth c H locs cells slots Q (F0 m pc ls st0) := by
  intro T hT X
  obtain ⟨v', st₀, t, T', L, h0, X', hL, e1, e2, ⟨⟨ad', f', hv, hB, hb⟩, hz, hk⟩, st⟩ := hr T hT X
  cases hv
  rw [h0] at hz hk
  obtain ⟨t2, a1, b1⟩ := kk ad' f' T'.heap (locs ++ L) hB (by rw [e1]; exact hb)
    ⟨Nat.le_trans hS.1 (by rw [e1]; exact hz), fun q h1 h2 => by rw [e1, hk q (Nat.lt_of_lt_of_le h1 hS.1) h2]; exact hS.2.1 q h1 h2, fun q hq => by
      rcases List.mem_append.mp hq with h | h
      · exact hS.2.2 q h
      · exact hL q h⟩ T' rfl X'
  exact ⟨t2, st t2 a1, b1⟩
-- fields
theorem hw_gf {ref C : String} {T : u_T} {N ci index k : Nat} (F : fx p m c cc nL s args own D) (h : hw D L0 ad f H) (hin : ∀ w ∈ u_ws C T N, w ∈ T0) (hc : classes[ci]? = some (C, T, N)) (hl : Cond.fieldLink own index ref (T k).2.1 (T k).2.2.1 ∈ T0) (hr : (T k).1 = ref) (hk : k < N) {r : Nat} {fs : List Value} (he : f r = some (.inr (ci, fs))) {v : Value} (hv : fs[k]? = some v) (hdg : decode cc pc = .ok (.getfield index, 3))
    (kk : W p l e R s m args below meth c H locs cells slots Q (F0 m (pc + 3) ls (v :: rest))) : W p l e R s m args below meth c H locs cells slots Q (F0 m pc ls (.ref (ad r) :: rest)) := by
  obtain ⟨ws, k1, -, hP, -, hk1, -⟩ := h.in he he
  obtain ⟨⟨hx, hb, -, ho, hts⟩, hK, -⟩ := F
  subst hr
  exact va_get hx hb hts hin ho hK hP k1 hk1 hc k hk (hts _ hl) (fun _ h => h) hv hdg kk
theorem hw_gfN {ref C host : String} {T : u_T} {N ci index k : Nat} (F : fx p m c cc nL s args own D) (h : hw D L0 ad f H) (hin : ∀ w ∈ u_ws C T N, w ∈ T0) (hc : classes[ci]? = some (C, T, N)) (hl : Cond.fieldLinkNest own index ref (T k).2.1 (T k).2.2.1 host ∈ nestW) (hr : (T k).1 = ref) (hk : k < N) {r : Nat} {fs : List Value} (he : f r = some (.inr (ci, fs))) {v : Value} (hv : fs[k]? = some v) (hdg : decode cc pc = .ok (.getfield index, 3))
    (kk : W p l e R s m args below meth c H locs cells slots Q (F0 m (pc + 3) ls (v :: rest))) : W p l e R s m args below meth c H locs cells slots Q (F0 m pc ls (.ref (ad r) :: rest)) := by
  obtain ⟨ws, k1, -, hP, -, hk1, -⟩ := h.in he he
  obtain ⟨⟨hx, hb, -, ho, hts⟩, hK, hN, -⟩ := F
  subst hr
  exact va_getN hx hb hts hin ho hK hP k1 hk1 hc k hk (va_Nw.use rfl (hN _ hl)) (fun _ h => h) hv hdg kk
theorem hw_pf {ref C : String} {T : u_T} {N ci index k : Nat} (F : fx p m c cc nL s args own D) (h : hw D L0 ad f H) (hS : va_S (fun q => L0 ≤ q) H0 H locs) (hin : ∀ w ∈ u_ws C T N, w ∈ T0) (ty0 : Nat → FieldType) (hty : ∀ k, k < N → parseFieldDescriptor (T k).2.2.1 = some (ty0 k)) (hnm : ∀ a, a < N → ∀ b, b < N → a ≠ b → (T a).2.1 ≠ (T b).2.1) (hc : classes[ci]? = some (C, T, N)) (hl : Cond.fieldLink own index ref (T k).2.1 (T k).2.2.1 ∈ T0) (hr : (T k).1 = ref) (hk : k < N) (hfin : (T k).2.2.2 = false) {r : Nat} {fs : List Value} (he : f r = some (.inr (ci, fs))) {v : Value} (hn : narrow (ty0 k) v = v) (hfit : fits (ty0 k) v = true) (hlen : k < fs.length) (hdg : decode cc pc = .ok (.putfield index, 3))
    (kk : ∀ (H1 : Heap) (locs1 : List Loc), hw D L0 ad (va_up f r (some (.inr (ci, fs.set k v)))) H1 → va_S (fun q => L0 ≤ q) H0 H1 locs1 → W p l e R s m args below meth c H1 locs1 cells slots Q (F0 m (pc + 3) ls rest)) : W p l e R s m args below meth c H locs cells slots Q (F0 m pc ls (v :: .ref (ad r) :: rest)) := by
  obtain ⟨ws, k1, -, hP, hD, hk1, -, hset⟩ := h.in he he
  obtain ⟨⟨hx, hb, -, ho, hts⟩, hK, -⟩ := F
  subst hr
  exact va_put hx hb hts hin ty0 hty hnm ho hK hP hD hS k1 hk1 hc k hk (hts _ hl) (fun _ h => h) hfin (hty k hk) hn hfit hlen hdg (fun H1 locs1 h1 h2 h3 => kk H1 locs1 (hset _ H1 h1 h2) h3)
theorem hw_pfN {ref C host : String} {T : u_T} {N ci index k : Nat} (F : fx p m c cc nL s args own D) (h : hw D L0 ad f H) (hS : va_S (fun q => L0 ≤ q) H0 H locs) (hin : ∀ w ∈ u_ws C T N, w ∈ T0) (ty0 : Nat → FieldType) (hty : ∀ k, k < N → parseFieldDescriptor (T k).2.2.1 = some (ty0 k)) (hnm : ∀ a, a < N → ∀ b, b < N → a ≠ b → (T a).2.1 ≠ (T b).2.1) (hc : classes[ci]? = some (C, T, N)) (hl : Cond.fieldLinkNest own index ref (T k).2.1 (T k).2.2.1 host ∈ nestW) (hr : (T k).1 = ref) (hk : k < N) (hfin : (T k).2.2.2 = false) {r : Nat} {fs : List Value} (he : f r = some (.inr (ci, fs))) {v : Value} (hn : narrow (ty0 k) v = v) (hfit : fits (ty0 k) v = true) (hlen : k < fs.length) (hdg : decode cc pc = .ok (.putfield index, 3))
    (kk : ∀ (H1 : Heap) (locs1 : List Loc), hw D L0 ad (va_up f r (some (.inr (ci, fs.set k v)))) H1 → va_S (fun q => L0 ≤ q) H0 H1 locs1 → W p l e R s m args below meth c H1 locs1 cells slots Q (F0 m (pc + 3) ls rest)) : W p l e R s m args below meth c H locs cells slots Q (F0 m pc ls (v :: .ref (ad r) :: rest)) := by
  obtain ⟨ws, k1, -, hP, hD, hk1, -, hset⟩ := h.in he he
  obtain ⟨⟨hx, hb, -, ho, hts⟩, hK, hN, -⟩ := F
  subst hr
  exact va_putN hx hb hts hin ty0 hty hnm ho hK hP hD hS k1 hk1 hc k hk (va_Nw.use rfl (hN _ hl)) (fun _ h => h) hfin (hty k hk) hn hfit hlen hdg (fun H1 locs1 h1 h2 h3 => kk H1 locs1 (hset _ H1 h1 h2) h3)
theorem hw_pfF {ref C : String} {T : u_T} {N ci index k : Nat} (F : fx p m c cc nL s args own D) (h : hw D L0 ad f H) (hS : va_S (fun q => L0 ≤ q) H0 H locs) (hin : ∀ w ∈ u_ws C T N, w ∈ T0) (ty0 : Nat → FieldType) (hty : ∀ k, k < N → parseFieldDescriptor (T k).2.2.1 = some (ty0 k)) (hnm : ∀ a, a < N → ∀ b, b < N → a ≠ b → (T a).2.1 ≠ (T b).2.1) (hc : classes[ci]? = some (C, T, N)) (hl : Cond.fieldLink own index ref (T k).2.1 (T k).2.2.1 ∈ T0) (hr : (T k).1 = ref) (hk : k < N) (hfin : (T k).2.2.2 = true) (hini : meth.name = "<init>") (hdecl : (T k).1 = own) {r : Nat} {fs : List Value} (he : f r = some (.inr (ci, fs))) {v : Value} (hn : narrow (ty0 k) v = v) (hfit : fits (ty0 k) v = true) (hlen : k < fs.length) (hdg : decode cc pc = .ok (.putfield index, 3))
    (kk : ∀ (H1 : Heap) (locs1 : List Loc), hw D L0 ad (va_up f r (some (.inr (ci, fs.set k v)))) H1 → va_S (fun q => L0 ≤ q) H0 H1 locs1 → W p l e R s m args below meth c H1 locs1 cells slots Q (F0 m (pc + 3) ls rest)) : W p l e R s m args below meth c H locs cells slots Q (F0 m pc ls (v :: .ref (ad r) :: rest)) := by
  obtain ⟨ws, k1, -, hP, hD, hk1, -, hset⟩ := h.in he he
  obtain ⟨⟨hx, hb, -, ho, hts⟩, hK, -⟩ := F
  subst hr
  exact va_putF hx hb hts hin ty0 hty hnm ho hK hP hD hS k1 hk1 hc k hk (hts _ hl) (fun _ h => h) hfin hini hdecl (hty k hk) hn hfit hlen hdg (fun H1 locs1 h1 h2 h3 => kk H1 locs1 (hset _ H1 h1 h2) h3)
-- arrays
theorem hw_iald (F : fx p m c cc nL s args own D) (h : hw D L0 ad f H) {r n : Nat} {g : Nat → Int32} (he : f r = some (aI D n g)) {i : Int32} (hin : vp_in i n) (hdg : decode cc pc = .ok (.iaload, 1))
    (kk : W p l e R s m args below meth c H locs cells slots Q (F0 m (pc + 1) ls (.int (g i.toNatClampNeg) :: rest))) : W p l e R s m args below meth c H locs cells slots Q (F0 m pc ls (.int i :: .ref (ad r) :: rest)) := by
  obtain ⟨ws, k1, -, hP, -, hk1, -⟩ := h.in he he
  exact va_iald F.1.1 F.1.2.1 F.2.1 hP k1 0 hk1 rfl hin hdg kk
theorem hw_lald (F : fx p m c cc nL s args own D) (h : hw D L0 ad f H) {r n : Nat} {g : Nat → Int64} (he : f r = some (aL D n g)) {i : Int32} (hin : vp_in i n) (hdg : decode cc pc = .ok (.laload, 1))
    (kk : W p l e R s m args below meth c H locs cells slots Q (F0 m (pc + 1) ls (.long (g i.toNatClampNeg) :: rest))) : W p l e R s m args below meth c H locs cells slots Q (F0 m pc ls (.int i :: .ref (ad r) :: rest)) := by
  obtain ⟨ws, k1, -, hP, -, hk1, -⟩ := h.in he he
  exact va_lald F.1.1 F.1.2.1 F.2.1 hP k1 1 hk1 rfl hin hdg kk
theorem hw_zald (F : fx p m c cc nL s args own D) (h : hw D L0 ad f H) {r n : Nat} {g : Nat → Int32} (he : f r = some (aZ D n g)) {i : Int32} (hin : vp_in i n) (hdg : decode cc pc = .ok (.baload, 1))
    (kk : W p l e R s m args below meth c H locs cells slots Q (F0 m (pc + 1) ls (.int (g i.toNatClampNeg) :: rest))) : W p l e R s m args below meth c H locs cells slots Q (F0 m pc ls (.int i :: .ref (ad r) :: rest)) := by
  obtain ⟨ws, k1, -, hP, -, hk1, -⟩ := h.in he he
  exact va_zald F.1.1 F.1.2.1 F.2.1 hP k1 2 hk1 rfl hin hdg kk
theorem hw_aald (F : fx p m c cc nL s args own D) (h : hw D L0 ad f H) {r n j : Nat} {C : String} (hj : arrObj[j]? = some C) {g : Nat → Option Nat} (he : f r = some (aO D j n g)) {i : Int32} (hin : vp_in i n) (hdg : decode cc pc = .ok (.aaload, 1))
    (kk : W p l e R s m args below meth c H locs cells slots Q (F0 m (pc + 1) ls (va_rf (g i.toNatClampNeg) :: rest))) : W p l e R s m args below meth c H locs cells slots Q (F0 m pc ls (.int i :: .ref (ad r) :: rest)) := by
  obtain ⟨ws, k1, -, hP, -, hk1, -⟩ := h.in he he
  exact va_aldq (C := C) F.1.1 F.1.2.1 F.2.1 hP k1 (3 + j) hk1 (tysOf_obj D hj) hin hdg kk
theorem hw_iast (F : fx p m c cc nL s args own D) (h : hw D L0 ad f H) (hS : va_S (fun q => L0 ≤ q) H0 H locs) {r n : Nat} {g : Nat → Int32} (he : f r = some (aI D n g)) {i x : Int32} (hin : vp_in i n) (hdg : decode cc pc = .ok (.iastore, 1))
    (kk : ∀ (H1 : Heap) (locs1 : List Loc), hw D L0 ad (va_up f r (some (aI D n (upd g i.toNatClampNeg x)))) H1 → va_S (fun q => L0 ≤ q) H0 H1 locs1 → W p l e R s m args below meth c H1 locs1 cells slots Q (F0 m (pc + 1) ls rest)) : W p l e R s m args below meth c H locs cells slots Q (F0 m pc ls (.int x :: .int i :: .ref (ad r) :: rest)) := by
  obtain ⟨ws, k1, -, hP, hD, hk1, -, hset⟩ := h.in he he
  exact va_iast F.1.1 F.1.2.1 F.2.1 hP hD hS k1 0 hk1 rfl hin hdg (fun H1 locs1 h1 h2 h3 => kk H1 locs1 (hset _ H1 h1 h2) h3)
theorem hw_last (F : fx p m c cc nL s args own D) (h : hw D L0 ad f H) (hS : va_S (fun q => L0 ≤ q) H0 H locs) {r n : Nat} {g : Nat → Int64} (he : f r = some (aL D n g)) {i : Int32} {x : Int64} (hin : vp_in i n) (hdg : decode cc pc = .ok (.lastore, 1))
    (kk : ∀ (H1 : Heap) (locs1 : List Loc), hw D L0 ad (va_up f r (some (aL D n (vp_updL g i.toNatClampNeg x)))) H1 → va_S (fun q => L0 ≤ q) H0 H1 locs1 → W p l e R s m args below meth c H1 locs1 cells slots Q (F0 m (pc + 1) ls rest)) : W p l e R s m args below meth c H locs cells slots Q (F0 m pc ls (.long x :: .int i :: .ref (ad r) :: rest)) := by
  obtain ⟨ws, k1, -, hP, hD, hk1, -, hset⟩ := h.in he he
  exact va_last F.1.1 F.1.2.1 F.2.1 hP hD hS k1 1 hk1 rfl hin hdg (fun H1 locs1 h1 h2 h3 => kk H1 locs1 (hset _ H1 h1 h2) h3)
theorem hw_zast (F : fx p m c cc nL s args own D) (h : hw D L0 ad f H) (hS : va_S (fun q => L0 ≤ q) H0 H locs) {r n : Nat} {g : Nat → Int32} (he : f r = some (aZ D n g)) {i x : Int32} (hin : vp_in i n) (hdg : decode cc pc = .ok (.bastore, 1))
    (kk : ∀ (H1 : Heap) (locs1 : List Loc), hw D L0 ad (va_up f r (some (aZ D n (upd g i.toNatClampNeg (vp_nar .boolean x))))) H1 → va_S (fun q => L0 ≤ q) H0 H1 locs1 → W p l e R s m args below meth c H1 locs1 cells slots Q (F0 m (pc + 1) ls rest)) : W p l e R s m args below meth c H locs cells slots Q (F0 m pc ls (.int x :: .int i :: .ref (ad r) :: rest)) := by
  obtain ⟨ws, k1, -, hP, hD, hk1, -, hset⟩ := h.in he he
  exact va_zast F.1.1 F.1.2.1 F.2.1 hP hD hS k1 2 hk1 rfl hin hdg (fun H1 locs1 h1 h2 h3 => kk H1 locs1 (hset _ H1 h1 h2) h3)
theorem hw_aast (F : fx p m c cc nL s args own D) (h : hw D L0 ad f H) (hS : va_S (fun q => L0 ≤ q) H0 H locs) {r r2 n j ci : Nat} {q : vw_C} {vs : List Value} {g : Nat → Option Nat} (he : f r = some (aO D j n g)) (he2 : f r2 = some (.inr (ci, vs))) (hc : classes[ci]? = some q) (hj : arrObj[j]? = some q.1) {i : Int32} (hin : vp_in i n) (hdg : decode cc pc = .ok (.aastore, 1))
    (kk : ∀ (H1 : Heap) (locs1 : List Loc), hw D L0 ad (va_up f r (some (aO D j n (va_up g i.toNatClampNeg (some (ad r2)))))) H1 → va_S (fun q => L0 ≤ q) H0 H1 locs1 → W p l e R s m args below meth c H1 locs1 cells slots Q (F0 m (pc + 1) ls rest)) : W p l e R s m args below meth c H locs cells slots Q (F0 m pc ls (.ref (ad r2) :: .int i :: .ref (ad r) :: rest)) := by
  obtain ⟨ws, k1, k2, hP, hD, hk1, hk2, hset⟩ := h.in he he2
  exact va_astq F.1.1 F.1.2.1 F.2.1 hP hD hS k1 (3 + j) k2 ci hk1 (tysOf_obj D hj) hk2 hc hin hdg (fun H1 locs1 h1 h2 h3 => kk H1 locs1 (hset _ H1 h1 h2) h3)
end RW
