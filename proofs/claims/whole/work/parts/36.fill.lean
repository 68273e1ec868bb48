theorem za_int (n : Nat) (cA : ClassId) : vp_cell cA (n, .inl (fun q : Nat => iI ((fun _ : Int => 0) q))) = arrV cA n (fun _ => defaultValue .int) := rfl
theorem za_boolean (n : Nat) (cA : ClassId) : vp_cell cA (n, .inl (fun q : Nat => iI ((fun _ : Int => 0) q))) = arrV cA n (fun _ => defaultValue .boolean) := rfl
theorem za_byte (n : Nat) (cA : ClassId) : vp_cell cA (n, .inl (fun q : Nat => b8 ((fun _ : Int => 0) q))) = arrV cA n (fun _ => defaultValue .byte) := rfl
def rmI (d mc ms : Nat) : Room := { frames := d, cells := mc, slots := ms, locals := 40 * d }
theorem i_J7f : True := trivial
set_option maxHeartbeats 4000000 in
set_option maxRecDepth 100000 in
/-- Arrays.fill of ints -/
theorem c_J7_fill (l : Launch) (D : va_G) (r : Nat) (kr : ClassId) (n : Nat) (f : Int → Int) (v : Int) (hn : n < 1000) : Met l yJ7_fill_53178 [.code yJ7_fill_53178 cJ7_fill_53178 4 none] (rmd 0) (pB D [(kr, .int)] [(r, .inl (kr, n, .inl (fun q : Nat => iI (f q))))] [.ref r, .int (iI v)]) (mv_Q (S := Int → Int) (fun g => [(r, .inl (kr, n, .inl (fun q : Nat => iI (g q))))]) D (fun g => ∀ q : Int, 0 ≤ q → q < (n : Int) → g q = v) (fun q => q = r)) 0 0 (fun q => q = r) := by
  refine me_start (by decide) (Nat.le_of_ble_eq_true rfl) rfl ?_
  intro p e s m below meth c hx hb hml hr hown hlocks hnm hG hK hP ls hl
  have hl : lv_has ls 4 [(0, .ref r), (1, .int (iI v))] := hl
  have hS : va_S (fun q => q = r) s.heap s.heap [] := va_S.rf
  refine xr_iconst hx hb dJ7_fill_53178_0 ?_
  refine lv_istore_n (lv' := [(2, .int (iI 0)), (0, .ref r), (1, .int (iI v))]) hx hb dJ7_fill_53178_1 rfl hl (by decide) rfl (fun ls hl => ?_)
  refine lv_aload_n hx hb dJ7_fill_53178_2 rfl (lv_at hl 1 rfl) ?_
  refine va_alen hx hb hK hP 0 0 rfl rfl (v := iI n) (iI_n n) dJ7_fill_53178_3 ?_
  refine lv_istore_n (lv' := [(3, .int (iI n)), (2, .int (iI 0)), (0, .ref r), (1, .int (iI v))]) hx hb dJ7_fill_53178_4 rfl hl (by decide) rfl (fun ls hl => ?_)
  have lp : ∀ (nz : Nat) (i : Int) (g : Int → Int) (H : Heap) (locs : List Loc), ((n : Int) - i).toNat < nz → (0 ≤ i ∧ i ≤ n) → (∀ q : Int, 0 ≤ q → q < i → g q = v) → va_P D vwC [(r, .inl (kr, n, .inl (fun q : Nat => iI (g q))))] H → va_S (fun q => q = r) s.heap H locs → ∀ ls : Array Slot, lv_has ls 4 [(2, .int (iI i)), (3, .int (iI n)), (0, .ref r), (1, .int (iI v))] → W p l e (rmd 0) s m ([.ref r, .int (iI v)] : List Value).toArray below meth c H locs 0 0 (MQ below (mv_Q (S := Int → Int) (fun g => [(r, .inl (kr, n, .inl (fun q : Nat => iI (g q))))]) D (fun g => ∀ q : Int, 0 ≤ q → q < (n : Int) → g q = v) (fun q => q = r)) ([.ref r, .int (iI v)] : List Value).toArray s 0 0 (fun q => q = r)) (F0 m 5 ls []) := by
    intro nz
    induction nz with
    | zero => intro i g H locs h; exact absurd h (Nat.not_lt_zero _)
    | succ nz ih =>
      intro i g H locs hm hi hg hP hS ls hl
      refine lv_iload_n hx hb dJ7_fill_53178_5 rfl (lv_at hl 0 rfl) ?_
      refine lv_iload_n hx hb dJ7_fill_53178_6 rfl (lv_at hl 1 rfl) ?_
      refine xr_icmp_ge (a := i) (b := n) (tgt := 20) hx hb dJ7_fill_53178_7 (by decide) (fun c1 => ?_) (fun c1 => ?_) (by omega) (by omega)
      · exact W.vret hx hb hr (fun t ht9 hW => ⟨g, rfl, fun q h0 h1 => hg q h0 (by omega), by rw [ht9]; exact hP, hS.F ht9⟩) hS.2.2 dJ7_fill_53178_20
      · refine lv_aload_n hx hb dJ7_fill_53178_10 rfl (lv_at hl 2 rfl) ?_
        refine lv_iload_n hx hb dJ7_fill_53178_11 rfl (lv_at hl 0 rfl) ?_
        refine lv_iload_n hx hb dJ7_fill_53178_12 rfl (lv_at hl 3 rfl) ?_
        refine xr_iast (f := g) (z := i) (v := v) hx hb hK hP ⟨fun a b x y hx hy _ => by have h1 : a < 1 := (List.getElem?_eq_some_iff.mp hx).1; have h2 : b < 1 := (List.getElem?_eq_some_iff.mp hy).1; omega, fun a x hx => by have h1 : a < 1 := (List.getElem?_eq_some_iff.mp hx).1; rw [show a = 0 by omega] at hx; cases hx; rfl⟩ hS 0 0 rfl rfl (by omega) (by omega) (by omega) dJ7_fill_53178_13 (fun H locs hP hS => ?_)
        have hP : va_P D vwC [(r, .inl (kr, n, .inl (fun q : Nat => iI (uA g i v q))))] H := hP
        refine xr_iinc (z := i) (lv' := [(2, .int (iI (i + 1))), (3, .int (iI n)), (0, .ref r), (1, .int (iI v))]) hx hb dJ7_fill_53178_14 hl (k := 0) rfl (by decide) rfl (fun ls hl => ?_)
        refine lv_goto (tgt := 5) hx hb dJ7_fill_53178_17 (by decide) ?_
        exact ih (i + 1) (uA g i v) _ _ (by omega) (by omega) (fun q h0 h1 => by by_cases h : q = i; (rw [h, uA_s]); rw [uA_n h]; exact hg q h0 (by omega)) hP hS ls hl
  exact lp _ 0 f _ _ (Nat.lt_succ_self _) (by omega) (fun q h0 h1 => by omega) hP hS ls (lv_sub hl [1, 0, 2, 3] rfl)
/-- behind a call that wrote one cell alone -/
theorem fl_join {A0 : Nat → Prop} {D : va_G} {H H1 : Heap} {ws wr : va_W} {i : Nat} {isR : List Nat} {c0 c1 : Nat × va_E} (hP : va_P D vwC ws H) (hD : va_D A0 ws) (hi : ws[i]? = some c0) (hR : isR.map (fun j => ws[j]?) = wr.map some) (hn : va_nd isR = true) (hdis : i ∉ isR) (he : c1.1 = c0.1) (hk : ∀ q : Nat, q < H.size → ¬ q = c0.1 → H1[q]? = H[q]?) (hP1 : va_P D vwC [c1] H1) : va_P D vwC (wr ++ [c1]) H1 := by
  refine va_P.app (fun j x hj => ?_) hP1
  have h1 : (isR.map (fun j => ws[j]?))[j]? = some (some x) := by rw [hR, List.getElem?_map, hj]; rfl
  rw [List.getElem?_map] at h1
  cases hq : isR[j]? with
  | none => rw [hq] at h1; cases h1
  | some u =>
    rw [hq] at h1
    have hu : ws[u]? = some x := Option.some.inj h1
    refine (hP u x hu).kept (hk x.1 (hP u x hu).lt (fun h => ?_))
    have := hD.1 u i x c0 hu hi h
    subst this
    exact hdis (List.mem_of_getElem? hq)
theorem fl_D {A0 : Nat → Prop} {wr : va_W} {c0 c1 : Nat × va_E} (h : va_D A0 (wr ++ [c0])) (he : c1.1 = c0.1) : va_D A0 (wr ++ [c1]) := by
  have key : ∀ (k : Nat) (q : Nat × va_E), (wr ++ [c1])[k]? = some q → ∃ q', (wr ++ [c0])[k]? = some q' ∧ q'.1 = q.1 := by
    intro k q hq
    by_cases hl : k < wr.length
    · rw [List.getElem?_append_left hl] at hq
      exact ⟨q, by rw [List.getElem?_append_left hl]; exact hq, rfl⟩
    · rw [List.getElem?_append_right (by omega)] at hq
      have hz : k - wr.length < 1 := (List.getElem?_eq_some_iff.mp hq).1
      rw [show k - wr.length = 0 by omega] at hq
      cases hq
      exact ⟨c0, by rw [List.getElem?_append_right (by omega), show k - wr.length = 0 by omega]; rfl, he.symm⟩
  refine ⟨fun i j x y hx hy e => ?_, fun k q hq => ?_⟩
  · obtain ⟨x', hx', ex⟩ := key i x hx
    obtain ⟨y', hy', ey⟩ := key j y hy
    exact h.1 i j x' y' hx' hy' (by rw [ex, ey, e])
  · obtain ⟨q', hq', eq⟩ := key k q hq
    rw [← eq]
    exact h.2 k q' hq'
/-- a constructor's start and end: one object's cell; more cells behind it -/
def ci_P (D : va_G) (w0 : va_W) (sz : Nat) : State → Prop := fun U => U.heap.size = sz ∧ gG U ∧ va_K D vwC [] U ∧ va_P D vwC w0 U.heap ∧ va_D (fun _ => True) w0
def ci_Q {S : Type} (D : va_G) (w0 : va_W) (sz : Nat) (wf : S → va_W) (tf : S → List (ClassId × FieldType)) (post : S → Prop) : Array Value → State → Outcome → State → Prop := va_Qv post (fun u t => va_P D vwC (wf u) t.heap ∧ va_K D vwC (tf u) t ∧ va_D (va_A w0 sz) (wf u)) (va_A w0 sz)
theorem ci_blind {D : va_G} {w0 : va_W} {sz : Nat} {av : List Value} : FrameBlind (va_Pc av (ci_P D w0 sz)) := fun a9 U g mk q => by
  obtain ⟨q0, q1, q2, q3, q4, q5⟩ := q
  exact ⟨q0, q1, q2.warm (U := U.calling g mk a9) (State.WarmedH.refl U), va_K.moved (u := U) (U := U.calling g mk a9) (Vm.Alike.refl U.vm) q3, q4, q5⟩
theorem ci_start {l : Launch} {y : MethodName} {cy : ByteArray} {nL : Nat} {rm : Room} {D : va_G} {h0 sz : Nat} {w0 : va_W} {Qc : Array Value → State → Outcome → State → Prop} {mc ms : Nat} {free : Addr → Prop} (hy : plainName y.cls = true) (hn : 1 ≤ nL)
    (body : ∀ (p : Program) (e : Env) (s : State) (m : MethodId) (below : List Frame) (meth : Method) (c : Code) (A : Nat → Prop), p.tables.exec = Jvm.exec → c.code = cy → c.maxLocals = nL → meth.sig.returnType = none → s.vm.findClass y.cls = some m.cls → meth.locks = false → meth.name = y.name → gG s → va_K D vwC [] s → va_P D vwC w0 s.heap → s.heap.size = sz → va_A w0 sz = A → va_D A w0 → (∀ q : Nat, s.heap.size ≤ q → A q) → ∀ ls : Array Slot, lv_has ls nL [(0, .ref h0)] →
      W p l e rm s m ([.ref h0] : List Value).toArray below meth c s.heap [] 0 0 (MQ below Qc ([.ref h0] : List Value).toArray s mc ms free) (F0 m 0 ls [])) :
    Met l y [.code y cy nL none] rm (va_Pc [.ref h0] (ci_P D w0 sz)) Qc mc ms free := by
  refine Met.ofW (cc := cy) (maxL := nL) (ret := none) hy rfl ?_
  intro p e s m args below meth c s₁ B hml hv
  obtain ⟨rfl, hsz, hG, hK, hP, hD0⟩ := hv
  have hl := lv_entry [Value.ref h0] (n := nL) hn
  rw [lg_entry_eq]
  exact body p e s m below meth c _ B.exec B.bytes hml B.returns (findClass_of_methodNamed B.named) B.notSynchronized (name_of_methodNamed B.named B.method).1 hG hK hP hsz rfl hD0.self (fun q h => Or.inr (by omega)) _ hl
