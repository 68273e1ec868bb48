/-! the law: rows -/
section LR
variable {p : Program} {l : Launch} {e : Env} {R : Room} {s : State} {m : MethodId} {args : Array Value} {below : List Frame} {meth : Method} {c : Code} {H : Heap} {locs : List Loc} {cells slots : Nat} {Q : State → Prop}
variable {cc : ByteArray} {pc : Nat} {ls : Array Slot} {rest st0 : List Value} {A : Nat → Prop} {H0 : Heap}
theorem xr_sld (hexec : p.tables.exec = Jvm.exec) (hb : c.code = cc) {b L : Nat} {xs : Nat → Int32} (hX : va_X b L xs s H0) (hbl : b < H0.size) (hbA : ¬ A b) (hS : va_S A H0 H locs) (hL : L < 2147483648) {z v : Int} (h0 : 0 ≤ z) (h1 : z < L) (ev : xs z.toNat = iI v) (hdg : decode cc pc = .ok (.iaload, 1))
    (kk : W p l e R s m args below meth c H locs cells slots Q (F0 m (pc + 1) ls (.int (iI v) :: rest))) : W p l e R s m args below meth c H locs cells slots Q (F0 m pc ls (.int (iI z) :: .ref b :: rest)) := by
  refine va_sld hexec hb hX hbl hbA hS (iI_in h0 h1 hL) hdg ?_
  rw [iI_cl h0 (by omega), ev]
  exact kk
theorem xr_lcmp0 (hexec : p.tables.exec = Jvm.exec) (hb : c.code = cc) {x : Int64} (hdg : decode cc pc = .ok (.lcmp, 1)) (k : W p l e R s m args below meth c H locs cells slots Q (F0 m (pc + 1) ls (.int (iI 0) :: rest))) : W p l e R s m args below meth c H locs cells slots Q (F0 m pc ls (.long x :: .long x :: rest)) := by
  intro T hT X
  obtain ⟨t, a, b⟩ := k T hT X
  refine ⟨t, ?_, b⟩
  have h1 : ¬ x > x := Int64.lt_irrefl
  jvm_step X.here [X.here.top, hexec, hb, hdg]

  exact a
/-- what isn't a method's own stays -/
theorem kpP {D : va_G} {B A1 : Nat → Prop} {ws : va_W} {H1 : Heap} (hP : va_P D vwC ws H) (hin : ∀ (k : Nat) (q : Nat × va_E), ws[k]? = some q → B q.1) (hno : ∀ q, B q → q < H.size → ¬ A1 q) (hk : ∀ q : Nat, q < H.size → ¬ A1 q → H1[q]? = H[q]?) : va_P D vwC ws H1 := hP.kept (fun k x hx => hk x.1 ((hP k x hx).lt) (hno _ (hin k x hx) ((hP k x hx).lt)))
theorem one_in {o : Nat} {E : va_E} : ∀ (k : Nat) (q : Nat × va_E), ([(o, E)] : va_W)[k]? = some q → q.1 = o := fun k q h => by
  have h1 : k < 1 := (List.getElem?_eq_some_iff.mp h).1
  rw [show k = 0 by omega] at h
  cases h
  rfl
theorem lq0_call {D : va_G} {a : Nat → Nat} {k : Nat → ClassId} {I : Nat → Int} {F : Nat → Int → Int} {o : Nat} {ko : ClassId} {v : Int} {av : Array Value} (hr : va_Run p l e R s m args below meth c H locs cells slots 0 0 (F0 m pc ls st0) rest (lq0 D a k I F o ko v av) (lA a o)) (hS : va_S A H0 H locs) (hA : ∀ q, lA a o q → A q)
    (kk : ∀ (fo : Nat → Int64) (H1 : Heap) (locs1 : List Loc), fo 0 = (iI v).toInt64 → va_P D vwC (lW a k I F o ko fo) H1 → H.size ≤ H1.size → (∀ q : Nat, q < H.size → ¬ lA a o q → H1[q]? = H[q]?) → va_S A H0 H1 locs1 → W p l e R s m args below meth c H1 locs1 cells slots Q (F0 m (pc + 3) ls (.int (iI 0) :: rest))) : W p l e R s m args below meth c H locs cells slots Q (F0 m pc ls st0) := by
  intro T hT X
  obtain ⟨v, st₀, t, T', L, h0, X', hL, e1, e2, ⟨hv, ⟨fo, hf, hb⟩, hz, hk⟩, st⟩ := hr T hT X
  cases hv
  rw [h0] at hz hk
  rw [← e1] at hz hk hb
  obtain ⟨t2, a1, b1⟩ := kk fo T'.heap (locs ++ L) hf hb hz hk (g_nS hS hA hz hk hL) T' rfl X'
  exact ⟨t2, st t2 a1, b1⟩
theorem lq1_call {av : Array Value} (hr : va_Run p l e R s m args below meth c H locs cells slots 1 6 (F0 m pc ls st0) rest (lq1 av) (fun _ => False)) (hS : va_S A H0 H locs)
    (kk : ∀ H1 : Heap, H.size ≤ H1.size → (∀ q : Nat, q < H.size → ¬ False → H1[q]? = H[q]?) → va_S A H0 H1 locs → W p l e R s m args below meth c H1 locs (cells + 1) (slots + 6) Q (F0 m (pc + 3) ls (.int (iI 1) :: rest))) : W p l e R s m args below meth c H locs cells slots Q (F0 m pc ls st0) := by
  intro T hT X
  obtain ⟨v, st₀, t, T', L, h0, X', hL, e1, e2, ⟨hv, hz, hk⟩, st⟩ := hr T hT X
  cases hv
  have hL' : L = [] := by
    cases L with
    | nil => rfl
    | cons q L => exact absurd (hL q List.mem_cons_self) id
  subst hL'
  rw [List.append_nil] at X'
  rw [h0] at hz hk
  rw [← e1] at hz hk
  obtain ⟨t2, a1, b1⟩ := kk T'.heap hz hk ⟨Nat.le_trans hS.1 hz, fun q h1 h2 => by rw [hk q (Nat.lt_of_lt_of_le h1 hS.1) id]; exact hS.2.1 q h1 h2, hS.2.2⟩ T' rfl X'
  exact ⟨t2, st t2 a1, b1⟩
end LR
theorem and31 (x : Int32) : ∃ n : Int, (0 ≤ n ∧ n ≤ 31) ∧ (x &&& iI 31) = iI n := by
  have h : nt (x &&& iI 31) = nt x &&& 31 := by rw [nt_and, show nt (iI 31) = 31 by decide +kernel]
  have h2 : nt x &&& 31 ≤ 31 := Nat.and_le_right
  exact ⟨((nt x &&& 31 : Nat) : Int), by omega, nt_iI h (by omega)⟩
/-- what stands over the whole run -/
def lC (l : Launch) (p : Program) (s : State) (m : MethodId) (c : Code) (b L : Nat) (xs : Nat → Int32) (D : va_G) (a : Nat → Nat) (k : Nat → ClassId) (a' : Nat → Nat) (k' : Nat → ClassId) (o : Nat) (ko : ClassId) : Prop :=
  l.flags = flags0 ∧ p.tables.exec = Jvm.exec ∧ c.code = cL_law ∧ c.maxLocals = 7 ∧ s.vm.findClass RL = some m.cls ∧ gG s ∧ tA s ∧ va_X b L xs s s.heap ∧ b < s.heap.size ∧ L ≤ 2048 ∧ va_K D vwC (xT k) s ∧ va_K D vwC (mT k') s ∧ va_K D vwC [(ko, .long)] s ∧ dis 24 a ∧ dis 21 a' ∧ (∀ q, adr 24 a q → ¬ adr 21 a' q) ∧ ¬ adr 24 a o ∧ ¬ adr 21 a' o ∧ (∀ q, adr 24 a q → s.heap.size ≤ q) ∧ (∀ q, adr 21 a' q → s.heap.size ≤ q) ∧ s.heap.size ≤ o
/-- what stands between two calls -/
def lH (s : State) (D : va_G) (a : Nat → Nat) (k : Nat → ClassId) (a' : Nat → Nat) (k' : Nat → ClassId) (o : Nat) (ko : ClassId) (I : Nat → Int) (F : Nat → Int → Int) (J : Nat → Int) (G : Nat → Int → Int) (H : Heap) (locs : List Loc) : Prop :=
  RR I F J G ∧ va_P D vwC (xW a k I F) H ∧ va_P D vwC (mW a' k' J G) H ∧ (∃ fo : Nat → Int64, va_P D vwC [(o, .inl (ko, 1, .inr (.inl fo)))] H) ∧ va_S (fun q => s.heap.size ≤ q) s.heap H locs
