/-! THROWS: what the tables and the heap say of the exception's class, and that it stays -/
def exN : List String := ["java/lang/IndexOutOfBoundsException", "java/lang/RuntimeException", "java/lang/Exception"]
abbrev exA : List Cond := Jvm.Bundle.ownAtoms "FormatRows" 113 "java/lang/ArrayIndexOutOfBoundsException" exN
def tk : Cond → Bool
  | .declares _ => true
  | .castable .. => true
  | .laysStatic .. => true
  | .isRef (.static ..) => true
  | w => goodWord w
theorem tk_all : ∀ w ∈ exA, tk w = true := by decide +kernel
theorem tk_in : ∀ w ∈ exA, w ∈ tables_1 ∨ w = .isRef (.static Jvm.Bundle.tN "UNASSIGNED_STACK" Jvm.Bundle.steD) ∨ w = .isRef (.static Jvm.Bundle.tN "SUPPRESSED_SENTINEL" Jvm.Bundle.listD) := by decide +kernel
theorem tk_static {A A' : Array Value} {s U : State} {O n d : String} (hW : s.WarmedH U.vm) (hh : ∀ q, q < s.heap.size → U.heap[q]? = s.heap[q]?) (hb : (Cond.isRef (.static O n d)).before A s = true) : (Cond.isRef (.static O n d)).before A' U = true := by
  cases hv : (Term.static O n d).eval A s none [] s with
  | none => simp [Cond.before, Cond.holds, Cond.value, hv] at hb
  | some w =>
    cases hi : s.fieldFound? O n d with
    | none => simp [Term.eval, State.fieldNamed?, hi] at hv
    | some z =>
      obtain ⟨c, k, i, f⟩ := z
      obtain ⟨hst, a, cell, ha, hcell, -, hslot⟩ := Term.static_spec hi hv
      have hs : cell.vm.isStatics = true := by
        simp only [Term.eval, State.fieldNamed?, hi, Option.bind_eq_bind, Option.bind_some, hst, beq_self_eq_true, if_true, Option.pure_def, ha, hcell] at hv
        by_cases h' : cell.vm.isStatics = true
        · exact h'
        · simp [h'] at hv
      obtain ⟨k', hi', hek⟩ := State.fieldFound?_setVm hW.alike hi
      have hv' : (Term.static O n d).eval A' U none [] U = some w := Term.static_eval (s := U) hi' hst (by rw [hek]; exact ha) (by rw [hh a (Array.getElem?_eq_some_iff.mp hcell).1]; exact hcell) hs hslot
      simp only [Cond.before, Cond.holds, Cond.value, hv] at hb
      simp only [Cond.before, Cond.holds, Cond.value, hv']
      exact hb
theorem tk_lays {A A' : Array Value} {s U : State} {O n d : String} (hW : s.WarmedH U.vm) (hh : ∀ q, q < s.heap.size → U.heap[q]? = s.heap[q]?) (hb : (Cond.laysStatic O n d).before A s = true) : (Cond.laysStatic O n d).before A' U = true := by
  obtain ⟨c, k, i, f, a, cell, hc, hi, hst, ha, hcell, hs, hcls, hlt, hty⟩ := Cond.laysStatic_spec hb
  obtain ⟨k', hi', hek⟩ := State.fieldFound?_setVm hW.alike hi
  exact Cond.laysStatic_of (s := U) (by rw [hW.alike.findClass]; exact hc) hi' hst (by rw [hek]; exact ha) (by rw [hh a (Array.getElem?_eq_some_iff.mp hcell).1]; exact hcell) hs hcls hlt (by rw [hek]; exact hty)
theorem tk_at {A A' : Array Value} {s U : State} (w : Cond) (hk : tk w = true) (hW : s.WarmedH U.vm) (hh : ∀ q, q < s.heap.size → U.heap[q]? = s.heap[q]?) (hb : w.before A s = true) : w.before A' U = true := by
  unfold tk at hk
  split at hk
  · exact va_Nw.use rfl (va_Nw.warmD hW (va_Nw.of rfl hb))
  · exact va_Nw.use rfl (va_Nw.warmC hW (va_Nw.of rfl hb))
  · exact tk_lays hW hh hb
  · exact tk_static hW hh hb
  · exact word_at hW (good_of_word hk) hb
/-- all that a throw asks of a state: the words, and the two texts -/
def tA (U : State) : Prop := (∀ w ∈ exA, w.before #[] U = true) ∧ (∃ q, vk_R "FormatRows" 111 "no such format was found" q U) ∧ (∃ q, vk_R "FormatRows" 149 "no such place in the pattern" q U)
theorem tA.moved {s U : State} (h : tA s) (hW : s.WarmedH U.vm) (hh : ∀ q, q < s.heap.size → U.heap[q]? = s.heap[q]?) : tA U := by
  obtain ⟨h1, ⟨q1, h2⟩, ⟨q2, h3⟩⟩ := h
  exact ⟨fun w hw => tk_at w (tk_all w hw) hW hh (h1 w hw), ⟨q1, vk_R.warm hW h2⟩, ⟨q2, vk_R.warm hW h3⟩⟩
theorem tA.use {s : State} (h : tA s) {args : Array Value} : ∀ w ∈ exA, w.before args s = true := fun w hw => tk_at w (tk_all w hw) (State.WarmedH.refl s) (fun _ _ => rfl) (h.1 w hw)
/-- a walk's end by a throw -/
def tQ (below : List Frame) (s : State) (cells slots : Nat) : State → Prop := fun t => ∃ x : Addr, t.status = .running ∧ Ended t below (.threw x) ∧ s.WarmedH t.vm ∧ s.sameButNew ({ t with vm := s.vm } : State) [] cells slots ∧ ∃ ce : Cell, t.heap[x]? = some ce ∧ s.vm.findClass RJx00060 = some ce.cls ∧ ce.vm = .none ∧ s.vm.assignable ce.cls ce.cls = true
section TH
variable {p : Program} {l : Launch} {e : Env} {R : Room} {s : State} {m : MethodId} {args : Array Value} {below : List Frame} {meth : Method} {c : Code} {H : Heap} {cells slots : Nat}
variable {cc : ByteArray} {pc : Nat} {ls : Array Slot}
theorem W_ctor (hexec : p.tables.exec = Jvm.exec) (hb : c.code = cc) (hfl : l.flags = flags0) (hown : s.vm.findClass RX5 = some m.cls) (hA : tA s) (hlocks : meth.locks = false) (hex : c.exceptionTable.isEmpty = true) (hml : c.maxLocals = ls.size) {a q : Nat} {cX : ClassId} {kX : Class} (hfx : s.vm.findClass RJx00060 = some cX) (hkX : s.vm.classes[cX]? = some kX) (hcell : H[a]? = some (blank cX kX)) (hnew : s.heap.size ≤ a)
    (hd6 : decode cc pc = .ok (.invokespecial 113, 3)) (hd9 : decode cc (pc + 3) = .ok (.athrow, 1)) (hR : 7 ≤ R.frames ∧ 200 ≤ R.locals) : W p l e R s m args below meth c H [] cells slots (tQ below s cells slots) (F0 m pc ls [.ref q, .ref a, .ref a]) := by
  intro T hT X
  subst hT
  subst hb
  obtain ⟨U, h1, h2, h3, h4, h5, ce, h6, h7⟩ := X.ctorThrowS hexec (Launch.traces_off hfl X.admits) (own := "FormatRows") (cls := "java/lang/ArrayIndexOutOfBoundsException") (names := exN) (ic := 113) hown (by decide +kernel) (by decide +kernel) (hA.use)
    (fun x hx => by cases hx) hfx hkX hcell hnew (msg := .ref q) rfl (g := F0 m pc ls [.ref q, .ref a, .ref a]) rfl hml.symm rfl rfl (rest := []) rfl hd6 hd9
    (fun x hx => by rw [Array.isEmpty_iff] at hex; rw [hex] at hx; cases hx) (by show 3 + 3 < R.frames; omega) (by show 0 + (1 + 0) + (13 * (3 + 1) + 42) ≤ R.locals; omega) hlocks
  exact ⟨U, h1, a, h2, h3, h4, h5, ce, h6, h7.cls, h7.vm, h7.self⟩
/-- new, dup, ldc, the constructor, athrow -/
theorem W_throw (hexec : p.tables.exec = Jvm.exec) (hb : c.code = cc) (hfl : l.flags = flags0) (hown : s.vm.findClass RX5 = some m.cls) (hG : gG s) (hA : tA s) (hlocks : meth.locks = false) (hex : c.exceptionTable.isEmpty = true) (hml : c.maxLocals = ls.size) (k : Nat) {tx : String} (hk : ∃ q, vk_R "FormatRows" k tx q s)
    (d0 : decode cc pc = .ok (.new 109, 3)) (d3 : decode cc (pc + 3) = .ok (.dup, 1)) (d4 : decode cc (pc + 3 + 1) = .ok (.ldc k, 2)) (d6 : decode cc (pc + 3 + 1 + 2) = .ok (.invokespecial 113, 3)) (d9 : decode cc (pc + 3 + 1 + 2 + 3) = .ok (.athrow, 1)) (hR : 7 ≤ R.frames ∧ 200 ≤ R.locals) (hC : 1 ≤ R.cells ∧ 6 ≤ R.slots) :
    W p l e R s m args below meth c s.heap [] 0 0 (tQ below s 1 6) (F0 m pc ls []) := by
  obtain ⟨q, hq⟩ := hk
  obtain ⟨cC, hcC⟩ := classAt_of (hG.use (args := args) _ in_Jx00060)
  refine W.newcK hexec hb (own := RX5) (C := RJx00060) (n := 6) hown (hG.use _ lc_X5_109) (hG.use _ in_Jx00060) (hG.use _ ini_Jx00060) rfl d0 (by omega) (by omega) hcC.1 rfl (fun H' kC h1 h2 h3 h4 => ?_)
  refine lv_dup hexec hb d3 rfl ?_
  refine va_ldcS hexec hb (own := RX5) hown hq d4 ?_
  exact W_ctor hexec hb hfl hown hA hlocks hex hml hcC.1 h1 h2 (Nat.le_refl _) d6 d9 hR
end TH
/-- a contract of a method that throws -/
def tm_Q (mc ms : Nat) : Array Value → State → Outcome → State → Prop := fun _ st o t => ∃ x : Addr, o = .threw x ∧ st.WarmedH t.vm ∧ st.sameButNew ({ t with vm := st.vm } : State) [] mc ms ∧ ∃ ce : Cell, t.heap[x]? = some ce ∧ st.vm.findClass RJx00060 = some ce.cls ∧ ce.vm = .none ∧ st.vm.assignable ce.cls ce.cls = true
def rmt : Room := { frames := 8, cells := 1, slots := 6, locals := 320 }
def pT (D : va_G) (tys : List (ClassId × FieldType)) (ws : va_W) (av : List Value) : Array Value → State → Prop := va_Pc av (fun U => gG U ∧ va_K D vwC tys U ∧ va_P D vwC ws U.heap ∧ tA U)
abbrev tm_M (l : Launch) (y : MethodName) (cy : ByteArray) (nL : Nat) (ret : Option FieldType) (av : List Value) (D : va_G) (tys : List (ClassId × FieldType)) (ws : va_W) : Prop := MetFree l y (headSpec [.code y cy nL ret] rmt) (pT D tys ws av) (fun _ _ _ _ _ => True) (tm_Q 1 6)
theorem me_startT {l : Launch} {y : MethodName} {cy : ByteArray} {nL : Nat} {ret : Option FieldType} {av : List Value} {D : va_G} {tys : List (ClassId × FieldType)} {ws : va_W} {lv : List (Nat × Value)}
    (hy : plainName y.cls = true) (hn : (lg_sl av).length ≤ nL) (hlv : lv_args 0 av = lv)
    (body : ∀ (p : Program) (e : Env) (s : State) (m : MethodId) (below : List Frame) (meth : Method) (c : Code), p.tables.exec = Jvm.exec → c.code = cy → c.maxLocals = nL → s.vm.findClass y.cls = some m.cls → meth.locks = false → c.exceptionTable.isEmpty = true → gG s → va_K D vwC tys s → va_P D vwC ws s.heap → tA s → ∀ ls : Array Slot, lv_has ls nL lv →
      W p l e rmt s m av.toArray below meth c s.heap [] 0 0 (tQ below s 1 6) (F0 m 0 ls [])) :
    tm_M l y cy nL ret av D tys ws := by
  refine MetFree.of_bodyS (code := cy) (maxLocals := nL) (ret := ret) hy ?_ ?_
  · intro args s m h hn
    obtain ⟨meth, c, h1, h2, h3, h4, h5, h6, -, -⟩ := Cond.code_spec hn (atoms_spec (ws := [.code y cy nL ret]) h _ List.mem_cons_self)
    exact ⟨meth, c, h1, h2, h3, h4, h5, h6⟩
  · intro p e s m args below meth c s₁ B hml hP _
    obtain ⟨rfl, hG, hK, hPw, hA⟩ := hP
    have hh0 : s₁.heap = s.heap := by rw [B.state]; rfl
    have hl := lv_entry av (n := nL) hn
    have key := body p e s m below meth c B.exec B.bytes hml (findClass_of_methodNamed B.named) B.notSynchronized (B.noHandlers (atoms_spec (ws := [.code y cy nL ret]) B.pre _ List.mem_cons_self)) hG hK hPw hA _ (hlv ▸ hl)
    rw [← lg_entry_eq] at key
    obtain ⟨t, a1, x, b1, b2, b3, b4, b5⟩ := key s₁ hh0 (Stand.of_body B)
    exact ⟨t, .threw x, a1, b1, b2, x, rfl, b3, b4, b5⟩
