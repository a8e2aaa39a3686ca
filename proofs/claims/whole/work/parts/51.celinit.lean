/-! CellSettling(columns, side); written by wip/gen/gen51.py -/
def kO : Ob := sI (sI zO 3 500) 4 1000
def bdP (D : va_G) (ad : Nat → Nat) (C k j st : Nat) (fs : List Value) (f0 : Nat → Option va_E) : Nat → Option va_E := fun r =>
  if r = 0 then some (.inr (5, fs))
  else if r = 2 then (if 1 ≤ st then some (aO D 0 C (rfA ad 64 k)) else none)
  else if r = 3 then (if 2 ≤ st then some (aO D 1 4 (rfA ad 32 j)) else none)
  else if r = 5 then (if 4 ≤ st then some (aO D 2 4 (fun _ => none)) else none)
  else if r = 6 then (if 5 ≤ st then some (aO D 3 4 (fun _ => none)) else none)
  else if r < 16 then none
  else if r < 32 then (if 3 ≤ st then obP D ad 16 4 shTol zO nov r else none)
  else if r < 64 then (if (r - 32) / 8 < j then obP D ad (32 + 8 * ((r - 32) / 8)) 1 shKin kO nov r else none)
  else if r < 128 then (if (r - 64) / 8 < k then obP D ad (64 + 8 * ((r - 64) / 8)) 0 shCol zO nov r else none)
  else if r < 192 then none else f0 r
section BD
variable {D : va_G} {ad ad' : Nat → Nat} {C k j st : Nat} {fs fs' : List Value} {f0 : Nat → Option va_E}
theorem bregs (r : Nat) : r = 0 ∨ r = 2 ∨ r = 3 ∨ r = 5 ∨ r = 6 ∨ (r < 16 ∧ r ≠ 0 ∧ r ≠ 2 ∧ r ≠ 3 ∧ r ≠ 5 ∧ r ≠ 6) ∨ (16 ≤ r ∧ r < 32) ∨ (32 ≤ r ∧ r < 64) ∨ (64 ≤ r ∧ r < 128) ∨ (128 ≤ r ∧ r < 192) ∨ 192 ≤ r := by omega
theorem br5 {r : Nat} (h : r < 16 ∧ r ≠ 0 ∧ r ≠ 2 ∧ r ≠ 3 ∧ r ≠ 5 ∧ r ≠ 6) : bdP D ad C k j st fs f0 r = none := by
  unfold bdP; rw [if_neg h.2.1, if_neg h.2.2.1, if_neg h.2.2.2.1, if_neg h.2.2.2.2.1, if_neg h.2.2.2.2.2, if_pos h.1]
theorem br6 {r : Nat} (h : 16 ≤ r ∧ r < 32) : bdP D ad C k j st fs f0 r = (if 3 ≤ st then obP D ad 16 4 shTol zO nov r else none) := by
  unfold bdP; rw [if_neg (by omega), if_neg (by omega), if_neg (by omega), if_neg (by omega), if_neg (by omega), if_neg (by omega), if_pos h.2]
theorem br7 {r : Nat} (h : 32 ≤ r ∧ r < 64) : bdP D ad C k j st fs f0 r = (if (r - 32) / 8 < j then obP D ad (32 + 8 * ((r - 32) / 8)) 1 shKin kO nov r else none) := by
  unfold bdP; rw [if_neg (by omega), if_neg (by omega), if_neg (by omega), if_neg (by omega), if_neg (by omega), if_neg (by omega), if_neg (by omega), if_pos h.2]
theorem br8 {r : Nat} (h : 64 ≤ r ∧ r < 128) : bdP D ad C k j st fs f0 r = (if (r - 64) / 8 < k then obP D ad (64 + 8 * ((r - 64) / 8)) 0 shCol zO nov r else none) := by
  unfold bdP; rw [if_neg (by omega), if_neg (by omega), if_neg (by omega), if_neg (by omega), if_neg (by omega), if_neg (by omega), if_neg (by omega), if_neg (by omega), if_pos h.2]
theorem br9 {r : Nat} (h : 128 ≤ r ∧ r < 192) : bdP D ad C k j st fs f0 r = none := by
  unfold bdP; rw [if_neg (by omega), if_neg (by omega), if_neg (by omega), if_neg (by omega), if_neg (by omega), if_neg (by omega), if_neg (by omega), if_neg (by omega), if_neg (by omega), if_pos h.2]
theorem br10 {r : Nat} (h : 192 ≤ r) : bdP D ad C k j st fs f0 r = f0 r := by
  unfold bdP; rw [if_neg (by omega), if_neg (by omega), if_neg (by omega), if_neg (by omega), if_neg (by omega), if_neg (by omega), if_neg (by omega), if_neg (by omega), if_neg (by omega), if_neg (by omega)]
theorem shN5 : (∀ s ∈ shTol, s.1 = 5 → ad' s.2 = ad s.2) ∧ (∀ s ∈ shKin, s.1 = 5 → ad' s.2 = ad s.2) ∧ (∀ s ∈ shCol, s.1 = 5 → ad' s.2 = ad s.2) := by
  refine ⟨fun s hs => ?_, fun s hs => ?_, fun s hs => ?_⟩ <;> simp only [List.mem_cons, List.not_mem_nil, or_false] at hs
  · rcases hs with rfl | rfl | rfl | rfl | rfl | rfl <;> intro q <;> exact absurd q (by decide)
  · rcases hs with rfl | rfl | rfl | rfl | rfl <;> intro q <;> exact absurd q (by decide)
  · rcases hs with rfl | rfl | rfl | rfl | rfl | rfl <;> intro q <;> exact absurd q (by decide)
theorem bd_ad (h : ∀ x, ((64 ≤ x ∧ x < 64 + 8 * k) ∨ (32 ≤ x ∧ x < 32 + 8 * j) ∨ (16 ≤ x ∧ x < 32 ∧ 3 ≤ st)) → ad' x = ad x) : bdP D ad C k j st fs f0 = bdP D ad' C k j st fs f0 := by
  funext r
  rcases bregs r with h1 | h1 | h1 | h1 | h1 | h1 | h1 | h1 | h1 | h1 | h1
  · subst h1; rfl
  · subst h1; show (if 1 ≤ st then some (aO D 0 C (rfA ad 64 k)) else none) = (if 1 ≤ st then some (aO D 0 C (rfA ad' 64 k)) else none); rw [rfA_ad (ad' := ad') (fun i hi => h _ (by omega))]
  · subst h1; show (if 2 ≤ st then some (aO D 1 4 (rfA ad 32 j)) else none) = (if 2 ≤ st then some (aO D 1 4 (rfA ad' 32 j)) else none); rw [rfA_ad (ad' := ad') (fun i hi => h _ (by omega))]
  · subst h1; rfl
  · subst h1; rfl
  · rw [br5 h1, br5 h1]
  · rw [br6 h1, br6 h1]
    by_cases h2 : 3 ≤ st
    · rw [if_pos h2, if_pos h2, obP_ad (ad' := ad') (fun k hk => h _ (by have : k < 6 := hk; omega)) shN5.1]
    · rw [if_neg h2, if_neg h2]
  · rw [br7 h1, br7 h1]
    by_cases h2 : (r - 32) / 8 < j
    · rw [if_pos h2, if_pos h2, obP_ad (ad' := ad') (fun k hk => h _ (by have : k < 5 := hk; omega)) shN5.2.1]
    · rw [if_neg h2, if_neg h2]
  · rw [br8 h1, br8 h1]
    by_cases h2 : (r - 64) / 8 < k
    · rw [if_pos h2, if_pos h2, obP_ad (ad' := ad') (fun k hk => h _ (by have : k < 6 := hk; omega)) shN5.2.2]
    · rw [if_neg h2, if_neg h2]
  · rw [br9 h1, br9 h1]
  · rw [br10 h1, br10 h1]
theorem bd_o : va_up (bdP D ad C k j st fs f0) 0 (some (.inr (5, fs'))) = bdP D ad C k j st fs' f0 := by
  funext r
  by_cases hr : r = 0
  · subst hr; rw [va_up_self]; rfl
  · rw [va_up_ne _ _ hr]
    unfold bdP
    rw [if_neg hr, if_neg hr]
theorem rfA_0 {b : Nat} : rfA ad b 0 = fun _ => none := by
  funext i; exact if_neg (by omega)
theorem bd_2 : va_up (bdP D ad C 0 0 0 fs f0) 2 (some (aO D 0 C (fun _ => none))) = bdP D ad C 0 0 1 fs f0 := by
  funext r
  rcases bregs r with h1 | h1 | h1 | h1 | h1 | h1 | h1 | h1 | h1 | h1 | h1
  · subst h1; rfl
  · subst h1; rw [va_up_self, ← rfA_0 (ad := ad) (b := 64)]; rfl
  · subst h1; rfl
  · subst h1; rfl
  · subst h1; rfl
  · rw [va_up_ne _ _ (by omega), br5 h1, br5 h1]
  · rw [va_up_ne _ _ (by omega), br6 h1, br6 h1, if_neg (by omega), if_neg (by omega)]
  · rw [va_up_ne _ _ (by omega), br7 h1, br7 h1]
  · rw [va_up_ne _ _ (by omega), br8 h1, br8 h1]
  · rw [va_up_ne _ _ (by omega), br9 h1, br9 h1]
  · rw [va_up_ne _ _ (by omega), br10 h1, br10 h1]
theorem bd_3 : va_up (bdP D ad C k 0 1 fs f0) 3 (some (aO D 1 4 (fun _ => none))) = bdP D ad C k 0 2 fs f0 := by
  funext r
  rcases bregs r with h1 | h1 | h1 | h1 | h1 | h1 | h1 | h1 | h1 | h1 | h1
  · subst h1; rfl
  · subst h1; rfl
  · subst h1; rw [va_up_self, ← rfA_0 (ad := ad) (b := 32)]; rfl
  · subst h1; rfl
  · subst h1; rfl
  · rw [va_up_ne _ _ (by omega), br5 h1, br5 h1]
  · rw [va_up_ne _ _ (by omega), br6 h1, br6 h1, if_neg (by omega), if_neg (by omega)]
  · rw [va_up_ne _ _ (by omega), br7 h1, br7 h1]
  · rw [va_up_ne _ _ (by omega), br8 h1, br8 h1]
  · rw [va_up_ne _ _ (by omega), br9 h1, br9 h1]
  · rw [va_up_ne _ _ (by omega), br10 h1, br10 h1]
theorem bd_5 : va_up (bdP D ad C k j 3 fs f0) 5 (some (aO D 2 4 (fun _ => none))) = bdP D ad C k j 4 fs f0 := by
  funext r
  rcases bregs r with h1 | h1 | h1 | h1 | h1 | h1 | h1 | h1 | h1 | h1 | h1
  · subst h1; rfl
  · subst h1; rfl
  · subst h1; rfl
  · subst h1; rfl
  · subst h1; rfl
  · rw [va_up_ne _ _ (by omega), br5 h1, br5 h1]
  · rw [va_up_ne _ _ (by omega), br6 h1, br6 h1, if_pos (by omega), if_pos (by omega)]
  · rw [va_up_ne _ _ (by omega), br7 h1, br7 h1]
  · rw [va_up_ne _ _ (by omega), br8 h1, br8 h1]
  · rw [va_up_ne _ _ (by omega), br9 h1, br9 h1]
  · rw [va_up_ne _ _ (by omega), br10 h1, br10 h1]
theorem bd_6 : va_up (bdP D ad C k j 4 fs f0) 6 (some (aO D 3 4 (fun _ => none))) = bdP D ad C k j 5 fs f0 := by
  funext r
  rcases bregs r with h1 | h1 | h1 | h1 | h1 | h1 | h1 | h1 | h1 | h1 | h1
  · subst h1; rfl
  · subst h1; rfl
  · subst h1; rfl
  · subst h1; rfl
  · subst h1; rfl
  · rw [va_up_ne _ _ (by omega), br5 h1, br5 h1]
  · rw [va_up_ne _ _ (by omega), br6 h1, br6 h1, if_pos (by omega), if_pos (by omega)]
  · rw [va_up_ne _ _ (by omega), br7 h1, br7 h1]
  · rw [va_up_ne _ _ (by omega), br8 h1, br8 h1]
  · rw [va_up_ne _ _ (by omega), br9 h1, br9 h1]
  · rw [va_up_ne _ _ (by omega), br10 h1, br10 h1]
theorem bd_t : obP D ad 16 4 shTol zO (bdP D ad C k j 2 fs f0) = bdP D ad C k j 3 fs f0 := by
  funext r
  rcases bregs r with h1 | h1 | h1 | h1 | h1 | h1 | h1 | h1 | h1 | h1 | h1
  · subst h1; rfl
  · subst h1; rfl
  · subst h1; rfl
  · subst h1; rfl
  · subst h1; rfl
  · rw [obP_out (Or.inl (by omega)), br5 h1, br5 h1]
  · rw [obP_pt (g := nov) (by rw [br6 h1, if_neg (by omega)]; rfl), br6 h1, if_pos (by omega)]
  · rw [obP_out (Or.inr (by show 16 + 6 < r; omega)), br7 h1, br7 h1]
  · rw [obP_out (Or.inr (by show 16 + 6 < r; omega)), br8 h1, br8 h1]
  · rw [obP_out (Or.inr (by show 16 + 6 < r; omega)), br9 h1, br9 h1]
  · rw [obP_out (Or.inr (by show 16 + 6 < r; omega)), br10 h1, br10 h1]
theorem bd_L (hk : k < 8) : va_up (obP D ad (64 + 8 * k) 0 shCol zO (bdP D ad C k j 1 fs f0)) 2 (some (aO D 0 C (va_up (rfA ad 64 k) k (some (ad (64 + 8 * k)))))) = bdP D ad C (k + 1) j 1 fs f0 := by
  funext r
  by_cases hr : r = 2
  · subst hr; rw [va_up_self, rfA_up]; rfl
  rw [va_up_ne _ _ hr]
  by_cases hb : 64 + 8 * k ≤ r ∧ r < 72 + 8 * k
  · have hq : (r - 64) / 8 = k := by omega
    rw [obP_pt (g := nov) (by rw [br8 (by omega), hq, if_neg (by omega)]; rfl), br8 (by omega), hq, if_pos (by omega)]
  · rw [obP_out (by show r < 64 + 8 * k ∨ 64 + 8 * k + 6 < r; omega)]
    rcases bregs r with h1 | h1 | h1 | h1 | h1 | h1 | h1 | h1 | h1 | h1 | h1
    · subst h1; rfl
    · exact absurd h1 hr
    · subst h1; rfl
    · subst h1; rfl
    · subst h1; rfl
    · rw [br5 h1, br5 h1]
    · rw [br6 h1, br6 h1]
    · rw [br7 h1, br7 h1]
    · rw [br8 h1, br8 h1]
      by_cases h2 : (r - 64) / 8 < k
      · rw [if_pos h2, if_pos (by omega)]
      · rw [if_neg h2, if_neg (by omega)]
    · rw [br9 h1, br9 h1]
    · rw [br10 h1, br10 h1]
theorem bd_K (hj : j < 4) : va_up (obP D ad (32 + 8 * j) 1 shKin kO (bdP D ad C k j 2 fs f0)) 3 (some (aO D 1 4 (va_up (rfA ad 32 j) j (some (ad (32 + 8 * j)))))) = bdP D ad C k (j + 1) 2 fs f0 := by
  funext r
  by_cases hr : r = 3
  · subst hr; rw [va_up_self, rfA_up]; rfl
  rw [va_up_ne _ _ hr]
  by_cases hb : 32 + 8 * j ≤ r ∧ r < 40 + 8 * j
  · have hq : (r - 32) / 8 = j := by omega
    rw [obP_pt (g := nov) (by rw [br7 (by omega), hq, if_neg (by omega)]; rfl), br7 (by omega), hq, if_pos (by omega)]
  · rw [obP_out (by show r < 32 + 8 * j ∨ 32 + 8 * j + 5 < r; omega)]
    rcases bregs r with h1 | h1 | h1 | h1 | h1 | h1 | h1 | h1 | h1 | h1 | h1
    · subst h1; rfl
    · subst h1; rfl
    · exact absurd h1 hr
    · subst h1; rfl
    · subst h1; rfl
    · rw [br5 h1, br5 h1]
    · rw [br6 h1, br6 h1]
    · rw [br7 h1, br7 h1]
      by_cases h2 : (r - 32) / 8 < j
      · rw [if_pos h2, if_pos (by omega)]
      · rw [if_neg h2, if_neg (by omega)]
    · rw [br8 h1, br8 h1]
    · rw [br9 h1, br9 h1]
    · rw [br10 h1, br10 h1]
def x0 (C : Nat) (sd : Int32) : Xs := ((C, 0, 0), sI zO 0 sd, zO, fun _ => kO, fun _ => zO, fun _ => zO, fun _ => zO)
theorem bd_end {sd : Int32} (hf : fs = obO ad 0 shCel (sI zO 0 sd)) : bdP D ad C C 4 5 fs f0 = celP D ad (x0 C sd) f0 := by
  subst hf
  funext r
  rcases bregs r with h1 | h1 | h1 | h1 | h1 | h1 | h1 | h1 | h1 | h1 | h1
  · subst h1; rfl
  · subst h1; rfl
  · subst h1; rfl
  · subst h1; show some (aO D 2 4 (fun _ => none)) = some (aO D 2 4 (rfA ad 128 0)); rw [rfA_0]
  · subst h1; show some (aO D 3 4 (fun _ => none)) = some (aO D 3 4 (rfA ad 160 0)); rw [rfA_0]
  · rw [br5 h1, cr0 _ h1.1, if_neg h1.2.2.1, if_neg h1.2.2.2.1, if_neg h1.2.2.2.2.1, if_neg h1.2.2.2.2.2]
    rcases (show r = 1 ∨ r = 4 ∨ r = 7 ∨ r = 8 ∨ r = 9 ∨ r = 10 ∨ r = 11 ∨ r = 12 ∨ r = 13 ∨ r = 14 ∨ r = 15 by omega) with rfl | rfl | rfl | rfl | rfl | rfl | rfl | rfl | rfl | rfl | rfl <;> rfl
  · rw [br6 h1, cr1 _ h1.1 h1.2, if_pos (by omega)]; rfl
  · rw [br7 h1, cr2 _ h1.1 h1.2, if_pos (by omega)]; rfl
  · rw [br8 h1, cr3 _ h1.1 h1.2]; rfl
  · rw [br9 h1]
    by_cases h2 : r < 160
    · rw [cr4 _ h1.1 h2]; exact (if_neg (Nat.not_lt_zero _)).symm
    · rw [cr5 _ (by omega) h1.2]; exact (if_neg (Nat.not_lt_zero _)).symm
  · rw [br10 h1, cr6 _ h1]
end BD
section GA
variable {p : Program} {l : Launch} {e : Env} {R : Room} {s : State} {m : MethodId} {args : Array Value} {below : List Frame} {meth : Method} {c : Code} {H : Heap} {locs : List Loc} {cells slots : Nat} {Q : State → Prop}
variable {cc : ByteArray} {pc nL : Nat} {ls : Array Slot} {rest : List Value} {D : va_G} {L0 : Nat} {ad : Nat → Nat} {own : String} {f : Nat → Option va_E}
theorem gAt {r ci k N index a : Nat} {fs : List Value} {C : String} {T : u_T} {ty : Nat → FieldType} (ha : ad r = a) (K : CK ci C T N ty) (F : fx p m c cc nL s args own D) (h : hw D L0 ad f H) (hl : Cond.fieldLink own index (T k).1 (T k).2.1 (T k).2.2.1 ∈ T0) (hk : k < N) (he : f r = some (.inr (ci, fs))) {v : Value} (hv : fs[k]? = some v) (hdg : decode cc pc = .ok (.getfield index, 3))
    (kk : W p l e R s m args below meth c H locs cells slots Q (F0 m (pc + 3) ls (v :: rest))) : W p l e R s m args below meth c H locs cells slots Q (F0 m pc ls (.ref a :: rest)) := by
  subst ha
  exact hw_gf F h K.2.1 K.1 hl rfl hk he hv hdg kk
end GA
def cdF (sd : Int32) : Int32 := if wi sd.toInt64 1 100 = 0 then 1 else sd
def ccI (cn : Int32) : Int32 := if wi cn.toInt64 1 8 = 0 then 1 else cn
def ccF (cn : Int32) : Nat := (ccI cn).toNatClampNeg
theorem cc_ok (cn : Int32) : ccI cn = nI (ccF cn) ∧ 1 ≤ ccF cn ∧ ccF cn ≤ 8 := by
  unfold ccF ccI
  by_cases h : wi cn.toInt64 1 8 = 0
  · rw [if_pos h]; decide
  · rw [if_neg h]
    rw [wi_1, Int64_le, Int64_le, i2l_toInt] at h
    have h1 : 1 ≤ cn.toInt := by have := h.1; simpa using this
    have h2 : cn.toInt ≤ 8 := by have := h.2; simpa using this
    obtain ⟨j, hj, e⟩ := vp_in_of (x := cn) (n := 9) (vp_in_iff.mpr ⟨by omega, by omega⟩) (by omega)
    rw [e, nI_toInt (by omega)] at h1
    rw [e, nI_clamp (by omega)]
    exact ⟨rfl, by omega, by omega⟩
set_option maxHeartbeats 4000000 in
theorem c_Cel_init (l : Launch) (D : va_G) (L0 : Nat) (ad : Nat → Nat) (f0 : Nat → Option va_E) (cn sd : Int32) : Met l y_Cel_init (wd y_Cel_init b_Cel_init 4 none) { frames := 2, cells := 62, slots := 1446, locals := 64 } (va_Pc [Value.ref (ad 0), .int cn, .int sd] (cp D L0 ad (bdP D ad (ccF cn) 0 0 0 [.int 0, .null, .null, .null, .null, .null, .int 0, .int 0, .int 0, .int 0, .long 0] f0))) (da D L0 none (fun ad' f' => (∀ x, x = 0 ∨ 192 ≤ x → ad' x = ad x) ∧ f' = celP D ad' (x0 (ccF cn) (cdF sd)) f0)) 62 1446 (fun q => L0 ≤ q) := by
  refine hw_met (by decide) (Nat.le_of_ble_eq_true rfl) ?_
  intro p e s m below meth c ls F hr hlocks hnm hL hH hS hl
  obtain ⟨hcI, hc1, hc8⟩ := cc_ok cn
  have K113 : ∀ (ad3 : Nat → Nat) (H : Heap) (locs : List Loc) (ls : Array Slot) (x : Int32), (∀ x, x = 0 ∨ 192 ≤ x → ad3 x = ad x) → hw D L0 ad3 (bdP D ad3 (ccF cn) (ccF cn) 4 2 [.int (cdF sd), .ref (ad3 2), .ref (ad3 3), .null, .null, .null, .int 0, .int 0, .int 0, .int 0, .long 0] f0) H → va_S (fun q => L0 ≤ q) s.heap H locs → lv_has ls 4 [(3, .int x), (0, .ref (ad 0)), (1, .int cn), (2, .int sd)] → W p l e { frames := 2, cells := 62, slots := 1446, locals := 64 } s m [Value.ref (ad 0), .int cn, .int sd].toArray below meth c H locs 54 432 (MQ below (da D L0 none (fun ad' f' => (∀ x, x = 0 ∨ 192 ≤ x → ad' x = ad x) ∧ f' = celP D ad' (x0 (ccF cn) (cdF sd)) f0)) [Value.ref (ad 0), .int cn, .int sd].toArray s 62 1446 (fun q => L0 ≤ q)) (F0 m 113 ls []) := by
    intro ad3 H locs ls x hx3 hH hS hl
    refine lv_aload_n F.1.1 F.1.2.1 d_Cel_init_113 rfl (lv_at hl 1 rfl) ?_
    refine hw_obj (C := R_Tol) (T := T_Tol) (N := 6) (ci := 4) F hH hS hL ck_Tol.2.1 v_Tol ck_Tol.2.2.1 rfl q_kl_Cel_35 q_mk_Tol q_in_Tol 16 rfl (fs := [.null, .null, .null, .null, .null, .int 0]) (fun j hj => by rcases (show j = 0 ∨ j = 1 ∨ j = 2 ∨ j = 3 ∨ j = 4 ∨ j = 5 by omega) with rfl | rfl | rfl | rfl | rfl | rfl <;> rfl) (Nat.le_of_ble_eq_true rfl) (Nat.le_of_ble_eq_true rfl) d_Cel_init_114 (fun ad4 H hx4 hH hS => ?_)
    replace hH := hH.to (obT_0 (D := D) (ad := ad4) (sh := shTol))
    refine lv_dup F.1.1 F.1.2.1 d_Cel_init_117 rfl ?_
    refine hw_callA (hw_runIN (n := 0) F hL hS hH hl (c_Tol_init l D L0 ad4 16 _ (fun k hk => by rw [br6 (by omega)]; rfl)) q_mn_Cel_37 q_im_Tol_init q_in_Tol q_co_Tol_init rfl rfl ⟨rfl, rfl, by decide +kernel, ⟨Nat.le_of_ble_eq_true rfl, Nat.le_of_ble_eq_true rfl⟩, Nat.le_of_ble_eq_true rfl⟩ rfl d_Cel_init_118 ⟨Nat.le_of_ble_eq_true rfl, Nat.le_of_ble_eq_true rfl⟩) hS (fun ad5 f5 H locs hB hH hS => ?_)
    obtain ⟨hx5, rfl⟩ := hB
    have hx : ∀ x, ¬ (16 ≤ x ∧ x < 32) → ad5 x = ad3 x := fun x hx => (hx5 x (by omega)).trans (hx4 x (by omega))
    replace hH := hH.to (by rw [bd_ad (ad' := ad5) (fun x hh => hx x (by omega)), bd_t])
    refine hw_pfFa (r := 0) ck_Cel F hH hS q_fl_Cel_38 (k := 3) (by decide) rfl hnm rfl ((hx 0 (by omega)).trans (hx3 0 (Or.inl rfl))) rfl (v := .ref (ad4 16)) rfl rfl (Nat.le_of_ble_eq_true rfl) d_Cel_init_121 (fun H locs hH hS => ?_)
    replace hH := hH.to bd_o
    refine lv_aload_n F.1.1 F.1.2.1 d_Cel_init_124 rfl (lv_at hl 1 rfl) ?_
    refine lv_iconst (v := 4) F.1.1 F.1.2.1 d_Cel_init_125 (by decide) ?_
    refine hw_newq (j := 2) (N' := 4) F hH hS hL q_kl_Cel_42 rfl 5 rfl (by decide) (by decide) (by omega) (Nat.le_of_ble_eq_true rfl) (Nat.le_of_ble_eq_true rfl) d_Cel_init_126 (fun ad6 H hx6 hH hS => ?_)
    replace hH := hH.to (by rw [bd_5, bd_ad (ad' := ad6) (fun x hh => hx6 x (by omega))])
    refine hw_pfFa (r := 0) ck_Cel F hH hS q_fl_Cel_44 (k := 4) (by decide) rfl hnm rfl ((hx6 0 (by omega)).trans ((hx 0 (by omega)).trans (hx3 0 (Or.inl rfl)))) rfl (v := .ref (ad6 5)) rfl rfl (Nat.le_of_ble_eq_true rfl) d_Cel_init_129 (fun H locs hH hS => ?_)
    replace hH := hH.to bd_o
    refine lv_aload_n F.1.1 F.1.2.1 d_Cel_init_132 rfl (lv_at hl 1 rfl) ?_
    refine lv_iconst (v := 4) F.1.1 F.1.2.1 d_Cel_init_133 (by decide) ?_
    refine hw_newq (j := 3) (N' := 4) F hH hS hL q_kl_Cel_48 rfl 6 rfl (by decide) (by decide) (by omega) (Nat.le_of_ble_eq_true rfl) (Nat.le_of_ble_eq_true rfl) d_Cel_init_134 (fun ad7 H hx7 hH hS => ?_)
    replace hH := hH.to (by rw [bd_6, bd_ad (ad' := ad7) (fun x hh => hx7 x (by omega))])
    refine hw_pfFa (r := 0) ck_Cel F hH hS q_fl_Cel_50 (k := 5) (by decide) rfl hnm rfl ((hx7 0 (by omega)).trans ((hx6 0 (by omega)).trans ((hx 0 (by omega)).trans (hx3 0 (Or.inl rfl))))) rfl (v := .ref (ad7 6)) rfl rfl (Nat.le_of_ble_eq_true rfl) d_Cel_init_137 (fun H locs hH hS => ?_)
    replace hH := hH.to bd_o
    have h72 : ad7 2 = ad3 2 := (hx7 2 (by omega)).trans ((hx6 2 (by omega)).trans (hx 2 (by omega)))
    have h73 : ad7 3 = ad3 3 := (hx7 3 (by omega)).trans ((hx6 3 (by omega)).trans (hx 3 (by omega)))
    have h716 : ad7 16 = ad4 16 := (hx7 16 (by omega)).trans ((hx6 16 (by omega)).trans (hx5 16 (by omega)))
    have h75 : ad7 5 = ad6 5 := hx7 5 (by omega)
    replace hH := hH.to (bd_end (sd := cdF sd) (by rw [← h72, ← h73, ← h716, ← h75]; rfl))
    exact hw_vretA F hr hlocks hH hS d_Cel_init_140 ⟨fun x hh => (hx7 x (by omega)).trans ((hx6 x (by omega)).trans ((hx x (by omega)).trans (hx3 x hh))), rfl⟩
  have K89 : ∀ (u j : Nat) (ad3 : Nat → Nat) (H : Heap) (locs : List Loc) (ls : Array Slot), j ≤ 4 → 4 - j < u → (∀ x, x = 0 ∨ 192 ≤ x → ad3 x = ad x) → hw D L0 ad3 (bdP D ad3 (ccF cn) (ccF cn) j 2 [.int (cdF sd), .ref (ad3 2), .ref (ad3 3), .null, .null, .null, .int 0, .int 0, .int 0, .int 0, .long 0] f0) H → va_S (fun q => L0 ≤ q) s.heap H locs → lv_has ls 4 [(3, .int (nI j)), (0, .ref (ad 0)), (1, .int cn), (2, .int sd)] → W p l e { frames := 2, cells := 62, slots := 1446, locals := 64 } s m [Value.ref (ad 0), .int cn, .int sd].toArray below meth c H locs (42 + 3 * j) (380 + 13 * j) (MQ below (da D L0 none (fun ad' f' => (∀ x, x = 0 ∨ 192 ≤ x → ad' x = ad x) ∧ f' = celP D ad' (x0 (ccF cn) (cdF sd)) f0)) [Value.ref (ad 0), .int cn, .int sd].toArray s 62 1446 (fun q => L0 ≤ q)) (F0 m 89 ls []) := by
    intro u
    induction u with
    | zero => intros; exact absurd ‹(_ : Nat) < 0› (Nat.not_lt_zero _)
    | succ u ih =>
      intro j ad3 H locs ls hj hu hx3 hH hS hl
      refine lv_iload_n F.1.1 F.1.2.1 d_Cel_init_89 rfl (lv_at hl 0 rfl) ?_
      refine lv_iconst (v := 4) F.1.1 F.1.2.1 d_Cel_init_90 (by decide) ?_
      refine lv_icmp_ge (tgt := 113) F.1.1 F.1.2.1 d_Cel_init_91 (by decide) (fun c91 => ?_) (fun c91 => ?_)
      · have h4 : j = 4 := by have := (nI_leI (by omega) (by omega)).mp (show nI 4 ≤ nI j from c91); omega
        subst h4
        exact K113 ad3 H locs ls _ hx3 hH hS hl
      · have h4 : j < 4 := by
          rcases Nat.lt_or_ge j 4 with q | q
          · exact q
          · exact absurd (show nI 4 ≤ nI j from nI_le q (by omega)) c91
        have hbn : ∀ k, k < 8 → bdP D ad3 (ccF cn) (ccF cn) j 2 [.int (cdF sd), .ref (ad3 2), .ref (ad3 3), .null, .null, .null, .int 0, .int 0, .int 0, .int 0, .long 0] f0 (32 + 8 * j + k) = none := fun k hk => by rw [br7 (by omega), show (32 + 8 * j + k - 32) / 8 = j by omega, if_neg (by omega)]
        refine lv_aload_n F.1.1 F.1.2.1 d_Cel_init_94 rfl (lv_at hl 1 rfl) ?_
        refine gAt (r := 0) (k := 2) (hx3 0 (Or.inl rfl)) ck_Cel F hH q_fl_Cel_30 (by decide) rfl (v := .ref (ad3 3)) rfl d_Cel_init_95 ?_
        refine lv_iload_n F.1.1 F.1.2.1 d_Cel_init_98 rfl (lv_at hl 0 rfl) ?_
        refine hw_obj (C := R_Kin) (T := T_Kin) (N := 5) (ci := 1) F hH hS hL ck_Kin.2.1 v_Kin ck_Kin.2.2.1 rfl q_kl_Cel_28 q_mk_Kin q_in_Kin (32 + 8 * j) (hbn 0 (by omega)) (fs := [.null, .null, .int 0, .int 0, .int 0]) (fun j hj => by rcases (show j = 0 ∨ j = 1 ∨ j = 2 ∨ j = 3 ∨ j = 4 by omega) with rfl | rfl | rfl | rfl | rfl <;> rfl) (by show _ ≤ 62; omega) (by show _ ≤ 1446; omega) d_Cel_init_99 (fun ad4 H hx4 hH hS => ?_)
        replace hH := hH.to (obT_0 (D := D) (ad := ad4) (sh := shKin))
        refine lv_dup F.1.1 F.1.2.1 d_Cel_init_102 rfl ?_
        refine hw_callA (hw_runIN (n := 0) F hL hS hH hl (c_Kin_init l D L0 ad4 (32 + 8 * j) _ (fun k hk => by rw [Nat.add_assoc]; exact hbn (1 + k) (by omega))) q_mn_Cel_34 q_im_Kin_init q_in_Kin q_co_Kin_init rfl rfl ⟨rfl, rfl, by decide +kernel, ⟨Nat.le_of_ble_eq_true rfl, Nat.le_of_ble_eq_true rfl⟩, Nat.le_of_ble_eq_true rfl⟩ rfl d_Cel_init_103 ⟨by show _ ≤ 62; omega, by show _ ≤ 1446; omega⟩) hS (fun ad5 f5 H locs hB hH hS => ?_)
        obtain ⟨hx5, rfl⟩ := hB
        have hx : ∀ x, ¬ (32 + 8 * j ≤ x ∧ x < 40 + 8 * j) → ad5 x = ad3 x := fun x hx => (hx5 x (by omega)).trans (hx4 x (by omega))
        refine hw_aastA (r := 3) (r2 := 32 + 8 * j) F hH hS (hx 3 (by omega)) (hx5 _ (by omega)) (obP_out (Or.inl (by omega))) obP_o (j := 1) rfl rfl (vp_in_nI h4 (by omega)) d_Cel_init_106 (fun H locs hH hS => ?_)
        replace hH := hH.to (by rw [show sI (sI zO 3 500) 4 1000 = kO from rfl, nI_clamp (by omega), rfA_ad (ad' := ad5) (fun i hi => hx _ (by omega)), bd_ad (ad' := ad5) (fun x hh => hx x (by omega)), bd_K h4])
        refine lv_iinc F.1.1 F.1.2.1 d_Cel_init_107 hl (k := 0) rfl rfl (by decide) rfl (fun ls hl => ?_)
        refine lv_goto (tgt := 89) F.1.1 F.1.2.1 d_Cel_init_110 (by decide) ?_
        refine W.widen (k := 42 + 3 * (j + 1)) (n := 380 + 13 * (j + 1)) (by omega) (by omega) ?_
        refine ih (j + 1) ad5 H locs ls (by omega) (by omega) (fun x hh => (hx x (by omega)).trans (hx3 x hh)) (hH.to (by rw [← hx 2 (by omega), ← hx 3 (by omega)])) hS (lv_sub hl [0, 1, 2, 3] ?_)
        show [_, _, _, _] = [_, _, _, _]
        rw [ii1]
        first | done | rfl
  have K51 : ∀ (u k : Nat) (ad3 : Nat → Nat) (H : Heap) (locs : List Loc) (ls : Array Slot), k ≤ ccF cn → ccF cn - k < u → (∀ x, x = 0 ∨ 192 ≤ x → ad3 x = ad x) → hw D L0 ad3 (bdP D ad3 (ccF cn) k 0 1 [.int (cdF sd), .ref (ad3 2), .null, .null, .null, .null, .int 0, .int 0, .int 0, .int 0, .long 0] f0) H → va_S (fun q => L0 ≤ q) s.heap H locs → lv_has ls 4 [(3, .int (nI k)), (0, .ref (ad 0)), (1, .int cn), (2, .int sd)] → W p l e { frames := 2, cells := 62, slots := 1446, locals := 64 } s m [Value.ref (ad 0), .int cn, .int sd].toArray below meth c H locs (1 + 5 * k) (8 + 46 * k) (MQ below (da D L0 none (fun ad' f' => (∀ x, x = 0 ∨ 192 ≤ x → ad' x = ad x) ∧ f' = celP D ad' (x0 (ccF cn) (cdF sd)) f0)) [Value.ref (ad 0), .int cn, .int sd].toArray s 62 1446 (fun q => L0 ≤ q)) (F0 m 51 ls []) := by
    intro u
    induction u with
    | zero => intros; exact absurd ‹(_ : Nat) < 0› (Nat.not_lt_zero _)
    | succ u ih =>
      intro k ad3 H locs ls hk hu hx3 hH hS hl
      refine lv_iload_n F.1.1 F.1.2.1 d_Cel_init_51 rfl (lv_at hl 0 rfl) ?_
      refine lv_aload_n F.1.1 F.1.2.1 d_Cel_init_52 rfl (lv_at hl 1 rfl) ?_
      refine gAt (r := 0) (k := 1) (hx3 0 (Or.inl rfl)) ck_Cel F hH q_fl_Cel_23 (by decide) rfl (v := .ref (ad3 2)) rfl d_Cel_init_53 ?_
      refine hw_alen F hH (tysOf_obj D (j := 0) rfl) (r := 2) rfl (v := nI (ccF cn)) rfl d_Cel_init_56 ?_
      refine lv_icmp_ge (tgt := 79) F.1.1 F.1.2.1 d_Cel_init_57 (by decide) (fun c57 => ?_) (fun c57 => ?_)
      · have h4 : k = ccF cn := by have := (nI_leI (by omega) (by omega)).mp c57; omega
        subst h4
        refine lv_aload_n F.1.1 F.1.2.1 d_Cel_init_79 rfl (lv_at hl 1 rfl) ?_
        refine lv_iconst (v := 4) F.1.1 F.1.2.1 d_Cel_init_80 (by decide) ?_
        refine hw_newq (j := 1) (N' := 4) F hH hS hL q_kl_Cel_28 rfl 3 rfl (by decide) (by decide) (by omega) (by show _ ≤ 62; omega) (by show _ ≤ 1446; omega) d_Cel_init_81 (fun ad6 H hx6 hH hS => ?_)
        replace hH := hH.to (by rw [bd_3, bd_ad (ad' := ad6) (fun x hh => hx6 x (by omega))])
        refine hw_pfFa (r := 0) ck_Cel F hH hS q_fl_Cel_30 (k := 2) (by decide) rfl hnm rfl ((hx6 0 (by omega)).trans (hx3 0 (Or.inl rfl))) rfl (v := .ref (ad6 3)) rfl rfl (Nat.le_of_ble_eq_true rfl) d_Cel_init_84 (fun H locs hH hS => ?_)
        replace hH := hH.to bd_o
        refine lv_iconst (v := 0) F.1.1 F.1.2.1 d_Cel_init_87 (by decide) ?_
        refine lv_istore_n F.1.1 F.1.2.1 d_Cel_init_88 rfl hl (by decide) rfl (fun ls hl => ?_)
        refine W.widen (k := 42 + 3 * 0) (n := 380 + 13 * 0) (by omega) (by omega) ?_
        exact K89 5 0 ad6 H locs ls (by omega) (by omega) (fun x hh => (hx6 x (by omega)).trans (hx3 x hh)) (hH.to (by rw [← hx6 2 (by omega)]; rfl)) hS (lv_sub hl [0, 1, 2, 3] rfl)
      · have h4 : k < ccF cn := by
          rcases Nat.lt_or_ge k (ccF cn) with q | q
          · exact q
          · exact absurd (nI_le q (by omega)) c57
        have hbn : ∀ i, i < 8 → bdP D ad3 (ccF cn) k 0 1 [.int (cdF sd), .ref (ad3 2), .null, .null, .null, .null, .int 0, .int 0, .int 0, .int 0, .long 0] f0 (64 + 8 * k + i) = none := fun i hi => by rw [br8 (by omega), show (64 + 8 * k + i - 64) / 8 = k by omega, if_neg (by omega)]
        refine lv_aload_n F.1.1 F.1.2.1 d_Cel_init_60 rfl (lv_at hl 1 rfl) ?_
        refine gAt (r := 0) (k := 1) (hx3 0 (Or.inl rfl)) ck_Cel F hH q_fl_Cel_23 (by decide) rfl (v := .ref (ad3 2)) rfl d_Cel_init_61 ?_
        refine lv_iload_n F.1.1 F.1.2.1 d_Cel_init_64 rfl (lv_at hl 0 rfl) ?_
        refine hw_obj (C := R_Col) (T := T_Col) (N := 6) (ci := 0) F hH hS hL ck_Col.2.1 v_Col ck_Col.2.2.1 rfl q_kl_Cel_21 q_mk_Col q_in_Col (64 + 8 * k) (hbn 0 (by omega)) (fs := [.null, .null, .null, .null, .int 0, .int 0]) (fun j hj => by rcases (show j = 0 ∨ j = 1 ∨ j = 2 ∨ j = 3 ∨ j = 4 ∨ j = 5 by omega) with rfl | rfl | rfl | rfl | rfl | rfl <;> rfl) (by show _ ≤ 62; omega) (by show _ ≤ 1446; omega) d_Cel_init_65 (fun ad4 H hx4 hH hS => ?_)
        replace hH := hH.to (obT_0 (D := D) (ad := ad4) (sh := shCol))
        refine lv_dup F.1.1 F.1.2.1 d_Cel_init_68 rfl ?_
        refine hw_callA (hw_runIN (n := 0) F hL hS hH hl (c_Col_init l D L0 ad4 (64 + 8 * k) _ (fun i hi => by rw [Nat.add_assoc]; exact hbn (1 + i) (by omega))) q_mn_Cel_27 q_im_Col_init q_in_Col q_co_Col_init rfl rfl ⟨rfl, rfl, by decide +kernel, ⟨Nat.le_of_ble_eq_true rfl, Nat.le_of_ble_eq_true rfl⟩, Nat.le_of_ble_eq_true rfl⟩ rfl d_Cel_init_69 ⟨by show _ ≤ 62; omega, by show _ ≤ 1446; omega⟩) hS (fun ad5 f5 H locs hB hH hS => ?_)
        obtain ⟨hx5, rfl⟩ := hB
        have hx : ∀ x, ¬ (64 + 8 * k ≤ x ∧ x < 72 + 8 * k) → ad5 x = ad3 x := fun x hx => (hx5 x (by omega)).trans (hx4 x (by omega))
        refine hw_aastA (r := 2) (r2 := 64 + 8 * k) F hH hS (hx 2 (by omega)) (hx5 _ (by omega)) (obP_out (Or.inl (by omega))) obP_o (j := 0) rfl rfl (vp_in_nI h4 (by omega)) d_Cel_init_72 (fun H locs hH hS => ?_)
        replace hH := hH.to (by rw [nI_clamp (by omega), rfA_ad (ad' := ad5) (fun i hi => hx _ (by omega)), bd_ad (ad' := ad5) (fun x hh => hx x (by omega)), bd_L (by omega)])
        refine lv_iinc F.1.1 F.1.2.1 d_Cel_init_73 hl (k := 0) rfl rfl (by decide) rfl (fun ls hl => ?_)
        refine lv_goto (tgt := 51) F.1.1 F.1.2.1 d_Cel_init_76 (by decide) ?_
        refine W.widen (k := 1 + 5 * (k + 1)) (n := 8 + 46 * (k + 1)) (by omega) (by omega) ?_
        refine ih (k + 1) ad5 H locs ls (by omega) (by omega) (fun x hh => (hx x (by omega)).trans (hx3 x hh)) (hH.to (by rw [← hx 2 (by omega)])) hS (lv_sub hl [0, 1, 2, 3] ?_)
        show [_, _, _, _] = [_, _, _, _]
        rw [ii1]
        first | done | rfl
  have K43 : ∀ (H : Heap) (locs : List Loc) (ls : Array Slot), hw D L0 ad (bdP D ad (ccF cn) 0 0 0 [.int (cdF sd), .null, .null, .null, .null, .null, .int 0, .int 0, .int 0, .int 0, .long 0] f0) H → va_S (fun q => L0 ≤ q) s.heap H locs → lv_has ls 4 [(0, .ref (ad 0)), (1, .int cn), (2, .int sd)] → W p l e { frames := 2, cells := 62, slots := 1446, locals := 64 } s m [Value.ref (ad 0), .int cn, .int sd].toArray below meth c H locs 0 0 (MQ below (da D L0 none (fun ad' f' => (∀ x, x = 0 ∨ 192 ≤ x → ad' x = ad x) ∧ f' = celP D ad' (x0 (ccF cn) (cdF sd)) f0)) [Value.ref (ad 0), .int cn, .int sd].toArray s 62 1446 (fun q => L0 ≤ q)) (F0 m 43 ls [.int (ccI cn), .ref (ad 0)]) := by
    intro H locs ls hH hS hl
    rw [hcI]
    refine hw_newq (j := 0) (N' := ccF cn) F hH hS hL q_kl_Cel_21 rfl 2 rfl (nI_pos (by omega)) (nI_clamp (by omega)) (by omega) (Nat.le_of_ble_eq_true rfl) (by show _ ≤ 1446; omega) d_Cel_init_43 (fun ad6 H hx6 hH hS => ?_)
    replace hH := hH.to (by rw [bd_2, bd_ad (ad' := ad6) (fun x hh => absurd hh (by omega))])
    refine hw_pfFa (r := 0) ck_Cel F hH hS q_fl_Cel_23 (k := 1) (by decide) rfl hnm rfl (hx6 0 (by omega)) rfl (v := .ref (ad6 2)) rfl rfl (Nat.le_of_ble_eq_true rfl) d_Cel_init_46 (fun H locs hH hS => ?_)
    replace hH := hH.to bd_o
    refine lv_iconst (v := 0) F.1.1 F.1.2.1 d_Cel_init_49 (by decide) ?_
    refine lv_istore_n F.1.1 F.1.2.1 d_Cel_init_50 rfl hl (by decide) rfl (fun ls hl => ?_)
    refine W.widen (k := 1 + 5 * 0) (n := 8 + 46 * 0) (by omega) (by omega) ?_
    exact K51 (ccF cn - 0 + 1) 0 ad6 H locs ls (by omega) (by omega) (fun x hh => hx6 x (by omega)) hH hS (lv_sub hl [0, 1, 2, 3] rfl)
  have K22 : ∀ (H : Heap) (locs : List Loc) (ls : Array Slot), hw D L0 ad (bdP D ad (ccF cn) 0 0 0 [.int 0, .null, .null, .null, .null, .null, .int 0, .int 0, .int 0, .int 0, .long 0] f0) H → va_S (fun q => L0 ≤ q) s.heap H locs → lv_has ls 4 [(0, .ref (ad 0)), (1, .int cn), (2, .int sd)] → W p l e { frames := 2, cells := 62, slots := 1446, locals := 64 } s m [Value.ref (ad 0), .int cn, .int sd].toArray below meth c H locs 0 0 (MQ below (da D L0 none (fun ad' f' => (∀ x, x = 0 ∨ 192 ≤ x → ad' x = ad x) ∧ f' = celP D ad' (x0 (ccF cn) (cdF sd)) f0)) [Value.ref (ad 0), .int cn, .int sd].toArray s 62 1446 (fun q => L0 ≤ q)) (F0 m 22 ls [.int (cdF sd), .ref (ad 0)]) := by
    intro H locs ls hH hS hl
    refine hw_pfFa (r := 0) ck_Cel F hH hS q_fl_Cel_15 (k := 0) (by decide) rfl hnm rfl rfl rfl rfl rfl (Nat.le_of_ble_eq_true rfl) d_Cel_init_22 (fun H locs hH hS => ?_)
    replace hH := hH.to bd_o
    refine lv_aload_n F.1.1 F.1.2.1 d_Cel_init_25 rfl (lv_at hl 0 rfl) ?_
    refine lv_iload_n F.1.1 F.1.2.1 d_Cel_init_26 rfl (lv_at hl 1 rfl) ?_
    refine lv_i2l F.1.1 F.1.2.1 d_Cel_init_27 rfl ?_
    refine lv_lconst (v := 1) F.1.1 F.1.2.1 d_Cel_init_28 (by decide) ?_
    refine lv_ldc2 F.1.1 F.1.2.1 F.1.2.2.2.1 (F.1.2.2.2.2 _ q_cl_Cel_19) d_Cel_init_29 ?_
    refine hw_call1 (hw_runS F hL hS hH hl (c_Cel_isWithin l D L0 ad _ _ _ _) q_ml_Cel_11 q_st_Cel_isWithin q_in_Cel q_co_Cel_isWithin rfl (k := 3) ⟨rfl, rfl, by decide +kernel, ⟨Nat.le_of_ble_eq_true rfl, Nat.le_of_ble_eq_true rfl⟩, Nat.le_of_ble_eq_true rfl⟩ rfl d_Cel_init_32 ⟨Nat.le_of_ble_eq_true rfl, Nat.le_of_ble_eq_true rfl⟩) hS (fun H locs hH hS => ?_)
    refine lv_if_eq (tgt := 42) F.1.1 F.1.2.1 d_Cel_init_35 (by decide) (fun c35 => ?_) (fun c35 => ?_)
    · refine lv_iconst (v := 1) F.1.1 F.1.2.1 d_Cel_init_42 (by decide) ?_
      exact W_top (v' := .int (ccI cn)) (by unfold ccI; rw [if_pos c35]) (K43 H locs ls hH hS hl)
    · refine lv_iload_n F.1.1 F.1.2.1 d_Cel_init_38 rfl (lv_at hl 1 rfl) ?_
      refine lv_goto (tgt := 43) F.1.1 F.1.2.1 d_Cel_init_39 (by decide) ?_
      exact W_top (v' := .int (ccI cn)) (by unfold ccI; rw [if_neg c35]) (K43 H locs ls hH hS hl)
  refine lv_aload_n F.1.1 F.1.2.1 d_Cel_init_0 rfl (lv_at hl 0 rfl) ?_
  refine oInit F hl q_ml_Cel_1 q_im_Object q_co_Object d_Cel_init_1 (Nat.le_of_ble_eq_true rfl) (Nat.le_of_ble_eq_true rfl) ?_
  refine lv_aload_n F.1.1 F.1.2.1 d_Cel_init_4 rfl (lv_at hl 0 rfl) ?_
  refine lv_iload_n F.1.1 F.1.2.1 d_Cel_init_5 rfl (lv_at hl 2 rfl) ?_
  refine lv_i2l F.1.1 F.1.2.1 d_Cel_init_6 rfl ?_
  refine lv_lconst (v := 1) F.1.1 F.1.2.1 d_Cel_init_7 (by decide) ?_
  refine lv_ldc2 F.1.1 F.1.2.1 F.1.2.2.2.1 (F.1.2.2.2.2 _ q_cl_Cel_9) d_Cel_init_8 ?_
  refine hw_call1 (hw_runS F hL hS hH hl (c_Cel_isWithin l D L0 ad _ _ _ _) q_ml_Cel_11 q_st_Cel_isWithin q_in_Cel q_co_Cel_isWithin rfl (k := 3) ⟨rfl, rfl, by decide +kernel, ⟨Nat.le_of_ble_eq_true rfl, Nat.le_of_ble_eq_true rfl⟩, Nat.le_of_ble_eq_true rfl⟩ rfl d_Cel_init_11 ⟨Nat.le_of_ble_eq_true rfl, Nat.le_of_ble_eq_true rfl⟩) hS (fun H locs hH hS => ?_)
  refine lv_if_eq (tgt := 21) F.1.1 F.1.2.1 d_Cel_init_14 (by decide) (fun c14 => ?_) (fun c14 => ?_)
  · refine lv_iconst (v := 1) F.1.1 F.1.2.1 d_Cel_init_21 (by decide) ?_
    exact W_top (v' := .int (cdF sd)) (by unfold cdF; rw [if_pos c14]) (K22 H locs ls hH hS hl)
  · refine lv_iload_n F.1.1 F.1.2.1 d_Cel_init_17 rfl (lv_at hl 2 rfl) ?_
    refine lv_goto (tgt := 22) F.1.1 F.1.2.1 d_Cel_init_18 (by decide) ?_
    exact W_top (v' := .int (cdF sd)) (by unfold cdF; rw [if_neg c14]) (K22 H locs ls hH hS hl)
