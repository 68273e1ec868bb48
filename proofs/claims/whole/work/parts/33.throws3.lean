section CT2
variable {p : Program} {l : Launch} {e : Env} {R : Room} {s : State} {m : MethodId} {args : Array Value} {below : List Frame} {meth : Method} {c : Code} {H : Heap} {locs : List Loc} {cells slots : Nat} {Q : State → Prop}
variable {cc : ByteArray} {pc nL : Nat} {ls : Array Slot} {rest st0 As : List Value} {own : String} {index n b : Nat} {y : MethodName} {cy : ByteArray} {nY : Nat} {ret : Option FieldType} {D : va_G} {tys : List (ClassId × FieldType)} {ws : va_W}
set_option maxHeartbeats 1000000 in
/-- a call of an instance's method that throws: on at the caller's one handler -/
theorem W_callT (hx : p.tables.exec = Jvm.exec) (hb : c.code = cc) (hml : c.maxLocals = nL) (hown : s.vm.findClass own = some m.cls) (hG : gG s) (hK : va_K D vwC tys s) (hP : va_P D vwC ws H) (hA : tA s) (hHs : ∀ q, q < s.heap.size → H[q]? = s.heap[q]?) (hV : mV y cy nY ret n) (hM : tm_M l y cy nY ret (.ref b :: As) D tys ws) (hl : Cond.methodLink own index y ∈ g_tbl)
    (hrc : ∃ cell : Cell, H[b]? = some cell ∧ cell.vm.isStatics = false ∧ s.vm.findClass y.cls = some cell.cls) (hn : As.length = n) (hsz : ls.size = nL) (hst : st0 = As.reverse ++ .ref b :: rest) (hW : (rest.map fun v => v.category).sum ≤ 8) (hR : 9 ≤ R.frames ∧ 8 + (nY + 11) + 320 ≤ R.locals) (hf : cells + 1 ≤ R.cells ∧ slots + 6 ≤ R.slots) (hdg : decode cc pc = .ok (.invokevirtual index, 3))
    {x : ExceptionTableEntry} (hone : c.exceptionTable.toList = [x]) (hcov : covers x pc = true) (h0 : x.catchType ≠ 0) (hcl : Cond.classLink own x.catchType RJx00060 ∈ g_tbl)
    (kk : ∀ (xa : Nat) (H1 : Heap), H.size ≤ H1.size → (∀ q, q < H.size → H1[q]? = H[q]?) → W p l e R s m args below meth c H1 locs (cells + 1) (slots + 6) Q (F0 m x.handlerPc ls [.ref xa])) : W p l e R s m args below meth c H locs cells slots Q (F0 m pc ls st0) := by
  obtain ⟨k1, k2, k3, k4, k5, k6⟩ := hV
  intro T hT X
  obtain ⟨cellB, hcB, hoB, hclB⟩ := hrc
  obtain ⟨mk, methM, hnamed, hmethM, hstM, habM⟩ := Cond.instanceMethod_spec (hG.use (args := args) _ k3)
  obtain ⟨methM', cM, hmethM', hcM, -, hlM, -, -, -, hsigM⟩ := Cond.code_spec hnamed (hG.use (args := args) _ k1)
  cases hmethM.symm.trans hmethM'
  obtain ⟨c2, r2, m2, q1, q2, q3, q4, kP, hkP, hkPi⟩ := Cond.selects_spec (hG.use (args := args) _ k4)
  cases hclB.symm.trans q1
  cases (State.methodFound?_of_named hnamed k5).symm.trans q2
  cases hnamed.symm.trans q3
  have hselP : selectMethod e.platform s.vm cellB.cls mk = .method mk := by rw [Launch.admits_selectMethod X.admits]; exact q4
  obtain ⟨vm₁, X₁, hstep₁⟩ := X.invokevirtual hx hown (hG.use (args := args) _ hl) hnamed hmethM hstM hkP hkPi k5 (a := b) (cell := cellB) (by rw [hT]; exact hcB)
    (fun z h => by rw [h] at hoB; cases hoB) hselP hmethM habM hkP hkPi (g := F0 m pc ls st0) rfl (argsL := As) (rest := rest) (hn.trans (g_len k6 _ hsigM)) hst (by rw [hb]; exact hdg)
  have hdg' : decode c.code pc = .ok (.invokevirtual index, 3) := by rw [hb]; exact hdg
  have hn1 := X₁.named hnamed
  obtain ⟨meth1, c1, hm1, hc1, -, hl1, -⟩ := Cond.code_spec hn1 ((hG.warm X₁.warmed).use (args := #[]) _ k1)
  obtain ⟨kY, hkY, -⟩ := className_of_methodNamed hn1
  have hinitY : kY.init = .initialized := Cond.initialized_spec (findClass_of_methodNamed hn1) hkY ((hG.warm X₁.warmed).use (args := #[]) _ k2)
  have hAt : At (T.setVm vm₁) m c below := X₁.here
  have hHU : ∀ q, q < s.heap.size → (T.setVm vm₁).heap[q]? = s.heap[q]? := fun q hq => by show T.heap[q]? = _; rw [hT]; exact hHs q hq
  have happ : (headSpec [Cond.code y cy nY ret] rmt).appliesLoose y e.platform ((T.setVm vm₁).calling (F0 m pc ls rest) mk (Value.ref b :: As).toArray) = true :=
    Spec.appliesLoose_calling (g := F0 m pc ls rest) hAt hdg' hn1 hkY hinitY
      (X₁.room_calling (g := F0 m pc ls rest) (R' := rmt) (hsz.trans hml.symm) hm1 hc1 (by show 8 + 1 ≤ R.frames; exact hR.1) (by rw [hl1]; show _ + _ + 320 ≤ R.locals; have := lv_room (m := m) (pc := pc) (ls := ls) (rest := rest) hW; simp only [rmt] at *; omega) (by exact hf.1) (by exact hf.2))
      (atoms_intro fun w hw => by rw [List.mem_singleton.mp hw]; exact (hG.warm X₁.warmed).use _ k1)
  obtain ⟨mid, hmid⟩ := hAt.above
  have hfr : ((T.setVm vm₁).setTop (F0 m pc ls rest)).frames = (.java (F0 m pc ls rest) :: mid) ++ below := by rw [State.frames_setTop' _ hAt.top, hmid]; rfl
  have hPT : pT D tys ws (.ref b :: As) (Value.ref b :: As).toArray ((T.setVm vm₁).calling (F0 m pc ls rest) mk (Value.ref b :: As).toArray) := by
    refine ⟨rfl, (hG.warm X₁.warmed).warm (State.WarmedH.refl (T.setVm vm₁)), va_K.moved X₁.warmed.alike hK, by show va_P D vwC ws T.heap; rw [hT]; exact hP, (hA.moved X₁.warmed hHU).moved (State.WarmedH.refl (T.setVm vm₁)) (fun _ _ => rfl)⟩
  obtain ⟨o, s₂, hsteps, -, hend, hq⟩ := Steps.callFree hM p X₁.admits X₁.cas X₁.clock (acts := []) hfr happ hPT trivial
  obtain ⟨xa, rfl, hW2, hsame, ce, hce, hcls, hvm, hself⟩ := hq
  rw [State.frames_setTop' _ hAt.top, X₁.tail] at hend
  obtain ⟨T', X', hWT, hsT, hs2⟩ := X₁.outOfThrown (g := F0 m pc ls rest) rfl hend hW2 hsame
  have hWs : s.WarmedH T'.vm := X'.warmed
  have hh2 : T'.heap = s₂.heap := by rw [hs2]; exact (throwing_heap T' _ _).symm
  have hal := X₁.warmed.alike
  obtain ⟨vm', X'', hct⟩ := ct_caught X' hown xa (g := F0 m pc ls rest) rfl hone hcov h0 (hG.use (args := args) _ hcl) (cell := ce) (by have h : (T.setVm vm₁).vm.findClass RJx00060 = some ce.cls := hcls; rw [hal.findClass] at h; exact h) (by rw [hh2]; exact hce) hvm (by have h : (T.setVm vm₁).vm.assignable ce.cls ce.cls = true := hself; rw [hal.assignable] at h; exact h)
  rw [List.append_nil] at X''
  have hold := sb_eq hsT
  obtain ⟨t, a1, b1⟩ := kk xa T'.heap (by rw [← hT]; exact hsT.2.1) (fun q hq => by rw [← hT]; exact hold q (by rw [← hT] at hq; exact hq)) (T'.setVm vm') rfl X''
  refine ⟨t, hstep₁ _ fun acts => ?_, b1⟩
  rw [doInvoke_state]
  refine hsteps.trans ?_
  rw [hs2]
  exact hct t a1
end CT2
