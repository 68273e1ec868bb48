theorem lw_cwF : Cond.codeWith yL_found cL_found 4 (some .int) [(0, 9, 12, 13)] ∈ g_tbl := g_inT 390 (by decide +kernel) rfl
theorem lw_stF : Cond.static yL_found ∈ g_tbl := g_inT 389 (by decide +kernel) rfl
theorem lw_cwP : Cond.codeWith yL_pattern cL_pattern 5 (some .int) [(0, 10, 13, 13)] ∈ g_tbl := g_inT 469 (by decide +kernel) rfl
theorem lw_stP : Cond.static yL_pattern ∈ g_tbl := g_inT 468 (by decide +kernel) rfl
theorem me_startW {l : Launch} {y : MethodName} {cy : ByteArray} {nL : Nat} {ret : Option FieldType} {x9 : Nat × Nat × Nat × Nat} {rm : Room} {B9 : State → Prop} {av : List Value} {lv : List (Nat × Value)} {Qc : Array Value → State → Outcome → State → Prop} {mc ms : Nat} {free : Addr → Prop}
    (hy : plainName y.cls = true) (hn : (lg_sl av).length ≤ nL) (hlv : lv_args 0 av = lv)
    (body : ∀ (p : Program) (e : Env) (s : State) (m : MethodId) (below : List Frame) (meth : Method) (c : Code), p.tables.exec = Jvm.exec → c.code = cy → c.maxLocals = nL → meth.sig.returnType = ret → s.vm.findClass y.cls = some m.cls → meth.locks = false → (∃ x : ExceptionTableEntry, c.exceptionTable.toList = [x] ∧ (x.startPc, x.endPc, x.handlerPc, x.catchType) = x9) → B9 s → ∀ ls : Array Slot, lv_has ls nL lv →
      W p l e rm s m av.toArray below meth c s.heap [] 0 0 (MQ below Qc av.toArray s mc ms free) (F0 m 0 ls [])) :
    Met l y [.codeWith y cy nL ret [x9]] rm (va_Pc av B9) Qc mc ms free := by
  refine va_MetW (cc := cy) (maxL := nL) (ret := ret) (hh := [x9]) hy rfl ?_
  intro p e s m args below meth c s₁ B hml hP
  obtain ⟨rfl, hB9⟩ := hP
  obtain ⟨m9, meth9, c9, hn9, hm9, hc9, hb9, hl9, hex, -⟩ := Cond.codeWith_spec (atoms_spec (ws := [.codeWith y cy nL ret [x9]]) B.pre _ List.mem_cons_self)
  cases B.named.symm.trans hn9
  cases B.method.symm.trans hm9
  cases (Stand.of_body B).code.symm.trans hc9
  have hx : ∃ x : ExceptionTableEntry, c.exceptionTable.toList = [x] ∧ (x.startPc, x.endPc, x.handlerPc, x.catchType) = x9 := by
    cases hq : c.exceptionTable.toList with
    | nil => rw [hq] at hex; cases hex
    | cons x t =>
      rw [hq] at hex
      cases t with
      | nil => exact ⟨x, rfl, (List.cons.inj hex).1⟩
      | cons z t => cases (List.cons.inj hex).2
  have hl := lv_entry av (n := nL) hn
  rw [lg_entry_eq]
  exact body p e s m below meth c B.exec B.bytes hml B.returns (findClass_of_methodNamed B.named) B.notSynchronized hx hB9 _ (hlv ▸ hl)
section GW
variable {p : Program} {l : Launch} {e : Env} {R : Room} {s : State} {m : MethodId} {args : Array Value} {below : List Frame} {meth : Method} {c : Code} {H : Heap} {locs : List Loc} {cells slots : Nat} {Q : State → Prop}
variable {cc : ByteArray} {pc nL : Nat} {ls : Array Slot} {rest st0 As : List Value} {own : String} {index n mc ms : Nat} {y : MethodName} {cy : ByteArray} {nY : Nat} {ret : Option FieldType} {hh : List (Nat × Nat × Nat × Nat)} {rm : Room} {Pc : Array Value → State → Prop} {Qc : Array Value → State → Outcome → State → Prop} {free : Addr → Prop}
/-- a call of a static method with a handler -/
theorem g_runSW (hx : p.tables.exec = Jvm.exec) (hb : c.code = cc) (hml : c.maxLocals = nL) (hown : s.vm.findClass own = some m.cls) (hG : gG s) (hcw : Cond.codeWith y cy nY ret hh ∈ g_tbl) (hst9 : Cond.static y ∈ g_tbl) (hini : Cond.initialized y.cls ∈ g_tbl) (hy : y.cls ≠ "java/lang/invoke/MethodHandle" ∧ y.cls ≠ "java/lang/invoke/VarHandle") (hM : Met l y [.codeWith y cy nY ret hh] rm Pc Qc mc ms free) (hbl : FrameBlind Pc) (hpre : ∀ U : State, U.heap = H → s.WarmedH U.vm → Pc As.toArray U) (hl : Cond.methodLink own index y ∈ g_tbl)
    (hrc : rm.cells = mc) (hrs : rm.slots = ms) (hn : (parseMethodDescriptor y.desc).map (fun d => d.parameters.length) = some As.length) (hsz : ls.size = nL) (hst : st0 = As.reverse ++ rest) (hW : (rest.map fun v => v.category).sum ≤ 8) (hR : rm.frames + 1 ≤ R.frames ∧ 8 + (nY + 11) + rm.locals ≤ R.locals) (hf : cells + mc ≤ R.cells ∧ slots + ms ≤ R.slots) (hdg : decode cc pc = .ok (.invokestatic index, 3)) :
    va_Run p l e R s m args below meth c H locs cells slots mc ms (F0 m pc ls st0) rest (Qc As.toArray) free := by
  have hK : Back l R p e below s args y 3 8 (PreOf R mc ms Pc) (PostOf Qc mc ms free) := va_backW (hh := hh) (bytes := cy) (maxL := nY) (ret := ret) hM hbl hrc hrs hR.1 hR.2 (fun w hw a' U hW => by rw [List.mem_singleton.mp hw]; exact (hG.warm hW).use _ hcw) List.mem_cons_self (fun a' U hW => (hG.warm hW).use _ hini)
  intro T hT X
  obtain ⟨mk, methM, cM, hnamed, hmethM, hcM, hbM, hlM, -, hrM, hlkM, hsigM⟩ := Cond.codeWith_spec (hG.use (args := args) _ hcw)
  have hstatic : methM.isStatic = true := Cond.static_spec hnamed hmethM (hG.use (args := args) _ hst9)
  obtain ⟨kP, hkP, -⟩ := className_of_methodNamed hnamed
  have hinitP : kP.init = .initialized := Cond.initialized_spec (findClass_of_methodNamed hnamed) hkP (hG.use (args := args) _ hini)
  obtain ⟨vm₁, X₁, hstep₁⟩ := X.invokestatic hx hown (hG.use (args := args) _ hl) hnamed hmethM hstatic hkP hinitP hy (g := F0 m pc ls st0) rfl (argsL := As) (rest := rest) (g_len hn _ hsigM) hst (by rw [hb]; exact hdg)
  obtain ⟨v, ⟨U', l2, c2, s2⟩, X', ⟨g', mk', t, L, e1, e2, hq, h1, hL, h2, h3⟩, hsteps⟩ := hK m meth c ⟨T.setVm vm₁, locs, cells, slots⟩ (F0 m pc ls rest) (.invokestatic index) mk As.toArray X₁ rfl (hsz.trans hml.symm) (by rw [hb]; exact hdg) (lv_room hW) (X₁.named hnamed) ⟨hf.1, hf.2, hpre (T.setVm vm₁) hT X₁.warmed⟩
  dsimp only [Pt.U, Pt.locs, Pt.cells, Pt.slots] at X' e1 e2 h1 h2 h3 hsteps
  subst h1; subst h2; subst h3
  exact ⟨v, (T.setVm vm₁).calling g' mk' As.toArray, t, U', L, hT, X', hL, e1, e2, hq, fun target h => hstep₁ _ fun acts => by rw [doInvoke_state]; exact hsteps.trans h⟩
end GW
abbrev lW (a : Nat → Nat) (k : Nat → ClassId) (I : Nat → Int) (F : Nat → Int → Int) (o : Nat) (ko : ClassId) (fo : Nat → Int64) : va_W := xW a k I F ++ [(o, .inl (ko, 1, .inr (.inl fo)))]
abbrev lT (k : Nat → ClassId) (ko : ClassId) : List (ClassId × FieldType) := xT k ++ [(ko, .long)]
/-- the law's private methods: what they ask -/
def pL (D : va_G) (a : Nat → Nat) (k : Nat → ClassId) (I : Nat → Int) (F : Nat → Int → Int) (o : Nat) (ko : ClassId) (fo : Nat → Int64) : State → Prop := fun U => gG U ∧ va_K D vwC (lT k ko) U ∧ va_P D vwC (lW a k I F o ko fo) U.heap ∧ tA U
theorem pL_blind {D : va_G} {a : Nat → Nat} {k : Nat → ClassId} {I : Nat → Int} {F : Nat → Int → Int} {o : Nat} {ko : ClassId} {fo : Nat → Int64} {av : List Value} : FrameBlind (va_Pc av (pL D a k I F o ko fo)) := fun a9 U g mk q => by
  obtain ⟨q0, q1, q2, q3, q4⟩ := q
  exact ⟨q0, q1.warm (U := U.calling g mk a9) (State.WarmedH.refl U), va_K.moved (u := U) (U := U.calling g mk a9) (Vm.Alike.refl U.vm) q2, q3, q4.moved (U := U.calling g mk a9) (State.WarmedH.refl U) (fun _ _ => rfl)⟩
def lA (a : Nat → Nat) (o : Nat) : Nat → Prop := fun q => adr 24 a q ∨ q = o
theorem lD {a : Nat → Nat} (h : dis 24 a) {o : Nat} (ho : ¬ adr 24 a o) {k : Nat → ClassId} {I : Nat → Int} {F : Nat → Int → Int} {ko : ClassId} {fo : Nat → Int64} : va_D (lA a o) (lW a k I F o ko fo) := by
  refine va_D.app ((xD h).weaken (fun _ _ _ q => Or.inl q)) ⟨fun i j x y hx hy _ => ?_, fun i x hx => ?_⟩ (fun i j x y hx hy e => ?_)
  · have h1 : i < 1 := (List.getElem?_eq_some_iff.mp hx).1
    have h2 : j < 1 := (List.getElem?_eq_some_iff.mp hy).1
    omega
  · have h1 : i < 1 := (List.getElem?_eq_some_iff.mp hx).1
    rw [show i = 0 by omega] at hx
    cases hx
    exact Or.inr rfl
  · have h1 : j < 1 := (List.getElem?_eq_some_iff.mp hy).1
    rw [show j = 0 by omega] at hy
    cases hy
    have e' : x.1 = o := e
    exact ho (by rw [← e']; exact (xD h (k := k) (I := I) (F := F)).2 i x hx)
/-- it answers 0, and the answer lies in 'out' -/
def lq0 (D : va_G) (a : Nat → Nat) (k : Nat → ClassId) (I : Nat → Int) (F : Nat → Int → Int) (o : Nat) (ko : ClassId) (v : Int) : Array Value → State → Outcome → State → Prop := fun _ st oc t => oc = .returned (some (.int (iI 0))) ∧ (∃ fo : Nat → Int64, fo 0 = (iI v).toInt64 ∧ va_P D vwC (lW a k I F o ko fo) t.heap) ∧ va_F (lA a o) st t
/-- it answers 1; a cell has come -/
def lq1 : Array Value → State → Outcome → State → Prop := fun _ st oc t => oc = .returned (some (.int (iI 1))) ∧ va_F (fun _ => False) st t
def rmL : Room := { frames := 10, cells := 1, slots := 6, locals := 400 }
