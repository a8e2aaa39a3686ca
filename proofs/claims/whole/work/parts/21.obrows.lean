/-! ROWS OVER OBJECTS -/
section OR
variable {p : Program} {l : Launch} {e : Env} {R : Room} {s : State} {m : MethodId} {args : Array Value} {below : List Frame} {meth : Method} {c : Code} {H : Heap} {locs : List Loc} {cells slots : Nat} {Q : State → Prop}
variable {cc : ByteArray} {pc nL : Nat} {ls : Array Slot} {rest st0 : List Value} {D : va_G} {L0 : Nat} {ad : Nat → Nat} {own : String} {H0 : Heap}
variable {β ci k z N index : Nat} {sh : List (Nat × Nat)} {o : Ob} {f0 : Nat → Option va_E} {C host : String} {T : u_T} {ty : Nat → FieldType}
theorem gI (K : CK ci C T N ty) (F : fx p m c cc nL s args own D) (h : hw D L0 ad (obP D ad β ci sh o f0) H) (hl : Cond.fieldLink own index (T k).1 (T k).2.1 (T k).2.2.1 ∈ T0) (hk : k < N) (hs : sh[k]? = some (0, z)) (hdg : decode cc pc = .ok (.getfield index, 3))
    (kk : W p l e R s m args below meth c H locs cells slots Q (F0 m (pc + 3) ls (.int (oI o k) :: rest))) : W p l e R s m args below meth c H locs cells slots Q (F0 m pc ls (.ref (ad β) :: rest)) :=
  hw_gf F h K.2.1 K.1 hl rfl hk obP_o (obO_get hs) hdg kk
theorem gJ (K : CK ci C T N ty) (F : fx p m c cc nL s args own D) (h : hw D L0 ad (obP D ad β ci sh o f0) H) (hl : Cond.fieldLink own index (T k).1 (T k).2.1 (T k).2.2.1 ∈ T0) (hk : k < N) (hs : sh[k]? = some (1, z)) (hdg : decode cc pc = .ok (.getfield index, 3))
    (kk : W p l e R s m args below meth c H locs cells slots Q (F0 m (pc + 3) ls (.long (oJ o k) :: rest))) : W p l e R s m args below meth c H locs cells slots Q (F0 m pc ls (.ref (ad β) :: rest)) :=
  hw_gf F h K.2.1 K.1 hl rfl hk obP_o (obO_get hs) hdg kk
theorem gR (K : CK ci C T N ty) (F : fx p m c cc nL s args own D) (h : hw D L0 ad (obP D ad β ci sh o f0) H) (hl : Cond.fieldLink own index (T k).1 (T k).2.1 (T k).2.2.1 ∈ T0) (hk : k < N) {w : Nat × Nat} (hs : sh[k]? = some w) (hw2 : 2 ≤ w.1 ∧ w.1 < 5) (hdg : decode cc pc = .ok (.getfield index, 3))
    (kk : W p l e R s m args below meth c H locs cells slots Q (F0 m (pc + 3) ls (.ref (ad (β + 1 + k)) :: rest))) : W p l e R s m args below meth c H locs cells slots Q (F0 m pc ls (.ref (ad β) :: rest)) := by
  have e1 : obV ad β o k w = .ref (ad (β + 1 + k)) := by
    obtain ⟨a, b⟩ := w
    have h2 : 2 ≤ a ∧ a < 5 := hw2
    rcases (show a = 2 ∨ a = 3 ∨ a = 4 by omega) with rfl | rfl | rfl <;> rfl
  exact hw_gf F h K.2.1 K.1 hl rfl hk obP_o ((obO_get hs).trans (by rw [e1])) hdg kk
theorem gX (K : CK ci C T N ty) (F : fx p m c cc nL s args own D) (h : hw D L0 ad (obP D ad β ci sh o f0) H) (hl : Cond.fieldLink own index (T k).1 (T k).2.1 (T k).2.2.1 ∈ T0) (hk : k < N) (hs : sh[k]? = some (5, z)) (hdg : decode cc pc = .ok (.getfield index, 3))
    (kk : W p l e R s m args below meth c H locs cells slots Q (F0 m (pc + 3) ls (.ref (ad z) :: rest))) : W p l e R s m args below meth c H locs cells slots Q (F0 m pc ls (.ref (ad β) :: rest)) :=
  hw_gf F h K.2.1 K.1 hl rfl hk obP_o (obO_get hs) hdg kk
theorem gIN (K : CK ci C T N ty) (F : fx p m c cc nL s args own D) (h : hw D L0 ad (obP D ad β ci sh o f0) H) (hl : Cond.fieldLinkNest own index (T k).1 (T k).2.1 (T k).2.2.1 host ∈ nestW) (hk : k < N) (hs : sh[k]? = some (0, z)) (hdg : decode cc pc = .ok (.getfield index, 3))
    (kk : W p l e R s m args below meth c H locs cells slots Q (F0 m (pc + 3) ls (.int (oI o k) :: rest))) : W p l e R s m args below meth c H locs cells slots Q (F0 m pc ls (.ref (ad β) :: rest)) :=
  hw_gfN F h K.2.1 K.1 hl rfl hk obP_o (obO_get hs) hdg kk
theorem gJN (K : CK ci C T N ty) (F : fx p m c cc nL s args own D) (h : hw D L0 ad (obP D ad β ci sh o f0) H) (hl : Cond.fieldLinkNest own index (T k).1 (T k).2.1 (T k).2.2.1 host ∈ nestW) (hk : k < N) (hs : sh[k]? = some (1, z)) (hdg : decode cc pc = .ok (.getfield index, 3))
    (kk : W p l e R s m args below meth c H locs cells slots Q (F0 m (pc + 3) ls (.long (oJ o k) :: rest))) : W p l e R s m args below meth c H locs cells slots Q (F0 m pc ls (.ref (ad β) :: rest)) :=
  hw_gfN F h K.2.1 K.1 hl rfl hk obP_o (obO_get hs) hdg kk
theorem gRN (K : CK ci C T N ty) (F : fx p m c cc nL s args own D) (h : hw D L0 ad (obP D ad β ci sh o f0) H) (hl : Cond.fieldLinkNest own index (T k).1 (T k).2.1 (T k).2.2.1 host ∈ nestW) (hk : k < N) {w : Nat × Nat} (hs : sh[k]? = some w) (hw2 : 2 ≤ w.1 ∧ w.1 < 5) (hdg : decode cc pc = .ok (.getfield index, 3))
    (kk : W p l e R s m args below meth c H locs cells slots Q (F0 m (pc + 3) ls (.ref (ad (β + 1 + k)) :: rest))) : W p l e R s m args below meth c H locs cells slots Q (F0 m pc ls (.ref (ad β) :: rest)) := by
  have e1 : obV ad β o k w = .ref (ad (β + 1 + k)) := by
    obtain ⟨a, b⟩ := w
    have h2 : 2 ≤ a ∧ a < 5 := hw2
    rcases (show a = 2 ∨ a = 3 ∨ a = 4 by omega) with rfl | rfl | rfl <;> rfl
  exact hw_gfN F h K.2.1 K.1 hl rfl hk obP_o ((obO_get hs).trans (by rw [e1])) hdg kk
theorem pI (K : CK ci C T N ty) (F : fx p m c cc nL s args own D) (h : hw D L0 ad (obP D ad β ci sh o f0) H) (hS : va_S (fun q => L0 ≤ q) H0 H locs) (hl : Cond.fieldLink own index (T k).1 (T k).2.1 (T k).2.2.1 ∈ T0) (hk : k < N) (hs : sh[k]? = some (0, z)) (hfin : (T k).2.2.2 = false) (hty : ty k = .int) {v : Int32} (hdg : decode cc pc = .ok (.putfield index, 3))
    (kk : ∀ (H1 : Heap) (locs1 : List Loc), hw D L0 ad (obP D ad β ci sh (sI o k v) f0) H1 → va_S (fun q => L0 ≤ q) H0 H1 locs1 → W p l e R s m args below meth c H1 locs1 cells slots Q (F0 m (pc + 3) ls rest)) : W p l e R s m args below meth c H locs cells slots Q (F0 m pc ls (.int v :: .ref (ad β) :: rest)) :=
  hw_pf F h hS K.2.1 ty K.2.2.1 K.2.2.2 K.1 hl rfl hk hfin obP_o (by rw [hty]; rfl) (by rw [hty]; rfl) (by rw [obO_len]; exact (List.getElem?_eq_some_iff.mp hs).1) hdg (fun H1 locs1 h1 h2 => kk H1 locs1 (h1.to (obP_setI hs rfl)) h2)
theorem pJ (K : CK ci C T N ty) (F : fx p m c cc nL s args own D) (h : hw D L0 ad (obP D ad β ci sh o f0) H) (hS : va_S (fun q => L0 ≤ q) H0 H locs) (hl : Cond.fieldLink own index (T k).1 (T k).2.1 (T k).2.2.1 ∈ T0) (hk : k < N) (hs : sh[k]? = some (1, z)) (hfin : (T k).2.2.2 = false) (hty : ty k = .long) {v : Int64} (hdg : decode cc pc = .ok (.putfield index, 3))
    (kk : ∀ (H1 : Heap) (locs1 : List Loc), hw D L0 ad (obP D ad β ci sh (sJ o k v) f0) H1 → va_S (fun q => L0 ≤ q) H0 H1 locs1 → W p l e R s m args below meth c H1 locs1 cells slots Q (F0 m (pc + 3) ls rest)) : W p l e R s m args below meth c H locs cells slots Q (F0 m pc ls (.long v :: .ref (ad β) :: rest)) :=
  hw_pf F h hS K.2.1 ty K.2.2.1 K.2.2.2 K.1 hl rfl hk hfin obP_o (by rw [hty]; rfl) (by rw [hty]; rfl) (by rw [obO_len]; exact (List.getElem?_eq_some_iff.mp hs).1) hdg (fun H1 locs1 h1 h2 => kk H1 locs1 (h1.to (obP_setJ hs rfl)) h2)
theorem pIN (K : CK ci C T N ty) (F : fx p m c cc nL s args own D) (h : hw D L0 ad (obP D ad β ci sh o f0) H) (hS : va_S (fun q => L0 ≤ q) H0 H locs) (hl : Cond.fieldLinkNest own index (T k).1 (T k).2.1 (T k).2.2.1 host ∈ nestW) (hk : k < N) (hs : sh[k]? = some (0, z)) (hfin : (T k).2.2.2 = false) (hty : ty k = .int) {v : Int32} (hdg : decode cc pc = .ok (.putfield index, 3))
    (kk : ∀ (H1 : Heap) (locs1 : List Loc), hw D L0 ad (obP D ad β ci sh (sI o k v) f0) H1 → va_S (fun q => L0 ≤ q) H0 H1 locs1 → W p l e R s m args below meth c H1 locs1 cells slots Q (F0 m (pc + 3) ls rest)) : W p l e R s m args below meth c H locs cells slots Q (F0 m pc ls (.int v :: .ref (ad β) :: rest)) :=
  hw_pfN F h hS K.2.1 ty K.2.2.1 K.2.2.2 K.1 hl rfl hk hfin obP_o (by rw [hty]; rfl) (by rw [hty]; rfl) (by rw [obO_len]; exact (List.getElem?_eq_some_iff.mp hs).1) hdg (fun H1 locs1 h1 h2 => kk H1 locs1 (h1.to (obP_setI hs rfl)) h2)
-- arrays of an object
theorem lA (F : fx p m c cc nL s args own D) (h : hw D L0 ad (obP D ad β ci sh o f0) H) (hs : sh[k]? = some (2, z)) {i : Int32} (hin : vp_in i z) (hdg : decode cc pc = .ok (.iaload, 1))
    (kk : W p l e R s m args below meth c H locs cells slots Q (F0 m (pc + 1) ls (.int (oA o k i.toNatClampNeg) :: rest))) : W p l e R s m args below meth c H locs cells slots Q (F0 m pc ls (.int i :: .ref (ad (β + 1 + k)) :: rest)) := hw_iald F h (obP_A hs) hin hdg kk
theorem lB (F : fx p m c cc nL s args own D) (h : hw D L0 ad (obP D ad β ci sh o f0) H) (hs : sh[k]? = some (3, z)) {i : Int32} (hin : vp_in i z) (hdg : decode cc pc = .ok (.laload, 1))
    (kk : W p l e R s m args below meth c H locs cells slots Q (F0 m (pc + 1) ls (.long (oB o k i.toNatClampNeg) :: rest))) : W p l e R s m args below meth c H locs cells slots Q (F0 m pc ls (.int i :: .ref (ad (β + 1 + k)) :: rest)) := hw_lald F h (obP_B hs) hin hdg kk
theorem lZ (F : fx p m c cc nL s args own D) (h : hw D L0 ad (obP D ad β ci sh o f0) H) (hs : sh[k]? = some (4, z)) {i : Int32} (hin : vp_in i z) (hdg : decode cc pc = .ok (.baload, 1))
    (kk : W p l e R s m args below meth c H locs cells slots Q (F0 m (pc + 1) ls (.int (oA o k i.toNatClampNeg) :: rest))) : W p l e R s m args below meth c H locs cells slots Q (F0 m pc ls (.int i :: .ref (ad (β + 1 + k)) :: rest)) := hw_zald F h (obP_Z hs) hin hdg kk
theorem tA (F : fx p m c cc nL s args own D) (h : hw D L0 ad (obP D ad β ci sh o f0) H) (hS : va_S (fun q => L0 ≤ q) H0 H locs) (hs : sh[k]? = some (2, z)) {i x : Int32} (hin : vp_in i z) (hdg : decode cc pc = .ok (.iastore, 1))
    (kk : ∀ (H1 : Heap) (locs1 : List Loc), hw D L0 ad (obP D ad β ci sh (sA o k (upd (oA o k) i.toNatClampNeg x)) f0) H1 → va_S (fun q => L0 ≤ q) H0 H1 locs1 → W p l e R s m args below meth c H1 locs1 cells slots Q (F0 m (pc + 1) ls rest)) : W p l e R s m args below meth c H locs cells slots Q (F0 m pc ls (.int x :: .int i :: .ref (ad (β + 1 + k)) :: rest)) :=
  hw_iast F h hS (obP_A hs) hin hdg (fun H1 locs1 h1 h2 => kk H1 locs1 (h1.to (obP_setA hs rfl)) h2)
theorem tB (F : fx p m c cc nL s args own D) (h : hw D L0 ad (obP D ad β ci sh o f0) H) (hS : va_S (fun q => L0 ≤ q) H0 H locs) (hs : sh[k]? = some (3, z)) {i : Int32} {x : Int64} (hin : vp_in i z) (hdg : decode cc pc = .ok (.lastore, 1))
    (kk : ∀ (H1 : Heap) (locs1 : List Loc), hw D L0 ad (obP D ad β ci sh (sB o k (vp_updL (oB o k) i.toNatClampNeg x)) f0) H1 → va_S (fun q => L0 ≤ q) H0 H1 locs1 → W p l e R s m args below meth c H1 locs1 cells slots Q (F0 m (pc + 1) ls rest)) : W p l e R s m args below meth c H locs cells slots Q (F0 m pc ls (.long x :: .int i :: .ref (ad (β + 1 + k)) :: rest)) :=
  hw_last F h hS (obP_B hs) hin hdg (fun H1 locs1 h1 h2 => kk H1 locs1 (h1.to (obP_setB hs rfl)) h2)
theorem tZ (F : fx p m c cc nL s args own D) (h : hw D L0 ad (obP D ad β ci sh o f0) H) (hS : va_S (fun q => L0 ≤ q) H0 H locs) (hs : sh[k]? = some (4, z)) {i x : Int32} (hin : vp_in i z) (hdg : decode cc pc = .ok (.bastore, 1))
    (kk : ∀ (H1 : Heap) (locs1 : List Loc), hw D L0 ad (obP D ad β ci sh (sA o k (upd (oA o k) i.toNatClampNeg (vp_nar .boolean x))) f0) H1 → va_S (fun q => L0 ≤ q) H0 H1 locs1 → W p l e R s m args below meth c H1 locs1 cells slots Q (F0 m (pc + 1) ls rest)) : W p l e R s m args below meth c H locs cells slots Q (F0 m pc ls (.int x :: .int i :: .ref (ad (β + 1 + k)) :: rest)) :=
  hw_zast F h hS (obP_Z hs) hin hdg (fun H1 locs1 h1 h2 => kk H1 locs1 (h1.to (obP_setZ hs rfl)) h2)
end OR
theorem T0_good {w : Cond} (h : w ∈ T0) : goodWord w = true := (List.mem_filter.mp h).2
theorem gd_V {own C : String} {idx n : Nat} {y : MethodName} {b : ByteArray} {ret : Option FieldType} (h1 : Cond.methodLink own idx y ∈ T0) (h2 : Cond.instanceMethod y ∈ T0) (h3 : Cond.selects C y y ∈ T0) (h4 : Cond.initialized C ∈ T0) (h5 : Cond.code y b n ret ∈ T0) : GoodIn T0 (wsV own idx C y (wd y b n ret)) := by
  intro w hw
  have hm : w ∈ T0 := by
    simp only [wsV, wd, List.mem_append, List.mem_cons, List.not_mem_nil, or_false] at hw
    rcases hw with (rfl | rfl | rfl | rfl) | rfl | hw <;> assumption
  exact ⟨hm, good_of_word (T0_good hm)⟩
theorem gd_S {own : String} {idx n : Nat} {y : MethodName} {b : ByteArray} {ret : Option FieldType} (h1 : Cond.methodLink own idx y ∈ T0) (h2 : Cond.static y ∈ T0) (h4 : Cond.initialized own ∈ T0) (h5 : Cond.code y b n ret ∈ T0) : GoodIn T0 (wsS own idx y (wd y b n ret)) := by
  intro w hw
  have hm : w ∈ T0 := by
    simp only [wsS, wd, List.mem_append, List.mem_cons, List.not_mem_nil, or_false] at hw
    rcases hw with (rfl | rfl | rfl) | rfl | hw <;> assumption
  exact ⟨hm, good_of_word (T0_good hm)⟩
theorem gd_W {n : Nat} {y : MethodName} {b : ByteArray} {ret : Option FieldType} (h5 : Cond.code y b n ret ∈ T0) : GoodIn T0 (wd y b n ret) := by
  intro w hw
  have hm : w ∈ T0 := by
    rcases List.mem_cons.mp hw with rfl | hw <;> assumption
  exact ⟨hm, good_of_word (T0_good hm)⟩
theorem ii1 (i : Nat) : nI i + Int32.ofInt 1 = nI (i + 1) := nI_1 i
theorem iim1 (i : Nat) : nI (i + 1) + Int32.ofInt (-1) = nI i := pk_m1 i
