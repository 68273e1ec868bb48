def R_law : String := "FormatRowsLaw"
def lw_P (b : Addr) (xs : List Int32) (args : Array Value) (s : State) : Prop := args = #[.ref b] ∧ s.IntsAt b xs ∧ xs.length ≤ 2048 ∧ (Jvm.Cond.and given_1 narrow_1).before args s = true
def lw_Q (_ : Array Value) (s : State) (o : Outcome) (t : State) : Prop := o = .returned (some (.int 1)) ∧ Framed s o t [] 601024 7293034
def lw_Z (below : List Frame) (a : Array Value) (s : State) : State → Prop := fun t => ∃ o, t.status = .running ∧ Ended t below o ∧ lw_Q a s o t
/-- the law's own end, with 1 on the stack, nothing written that was there before, its room as the claim has it -/
theorem lw_ret {p : Program} {l : Launch} {e : Env} {s : State} {m : MethodId} {below : List Frame} {meth : Method} {c : Code} {b : Nat} (hx : p.tables.exec = Jvm.exec) (hb : c.code = code) (hr : meth.sig.returnType = ret) (hlocks : meth.locks = false) {pc : Nat} {H : Heap} {ls : Array Slot} (hdg : decode code pc = .ok (.ireturn, 1)) : W p l e room_1 s m #[Value.ref b] below meth c H [] 601024 7293034 (lw_Z below #[Value.ref b] s) (F0 m pc ls [.int 1]) := by
  intro T hT X
  obtain ⟨fs, hret, hrun, hended, hW, hframe⟩ := X.leave (v := some (.int 1)) (hlocks := hlocks) (fun h => by rw [hr] at h; cases h)
  have hmeth' : T.vm.method? m = some meth := X.method'
  refine ⟨T.setFrames fs, ?_, .returned (some (.int 1)), hrun, hended, rfl, ⟨_, rfl⟩, hW, hframe⟩
  jvm_step X.here [X.here.top, hx, hb, hdg, hmeth', hr, ret, narrow_b1]
  (try refine ⟨rfl, ?_⟩); (try refine ⟨rfl, ?_⟩)
  first | (intro acts; rw [hret _ acts rfl rfl rfl]) | rw [hret _ _ rfl rfl rfl]
  exact Steps.refl _
/-- what holds at the law's entry: the machine, the code, the tables' words (any of lw_tbl by 'hts w (by decide +kernel)'), the script of L ints xs at the cell b, what the Statement gives of the start (any of its parts by flat_of_before) -/
def lw_At (p : Program) (s : State) (m : MethodId) (meth : Method) (c : Code) (b L : Nat) (xs : Nat → Int32) : Prop :=
  p.tables.exec = Jvm.exec ∧ c.code = code ∧ meth.sig.returnType = ret ∧ c.maxLocals = 7 ∧ s.vm.findClass R_law = some m.cls ∧ (∀ w ∈ lw_tbl, w.before #[Value.ref b] s = true) ∧ va_X b L xs s s.heap ∧ b < s.heap.size ∧ meth.locks = false ∧ (Jvm.Cond.and given_1 narrow_1).before #[Value.ref b] s = true
set_option maxHeartbeats 4000000 in
set_option maxRecDepth 100000 in
theorem lw_loop {l : Launch} {p : Program} {e : Env} {s : State} {m : MethodId} {below : List Frame} {meth : Method} {c : Code} {b L : Nat} {xs : Nat → Int32} {D : va_G} {a : Nat → Nat} {k : Nat → ClassId} {a' : Nat → Nat} {k' : Nat → ClassId} {o : Nat} {ko : ClassId}
    (C : lC l p s m c b L xs D a k a' k' o ko) (hr : meth.sig.returnType = ret) (hlk : meth.locks = false) :
    ∀ (nz kk : Nat) (i : Int) (I : Nat → Int) (F : Nat → Int → Int) (J : Nat → Int) (G : Nat → Int → Int) (H : Heap) (locs : List Loc) (ls : Array Slot), 513 - kk < nz → i = 4 * kk → i ≤ L → lH s D a k a' k' o ko I F J G H locs → lv_has ls 7 [(4, .int (iI i)), (0, .ref b), (1, .ref (a 0)), (2, .ref (a' 0)), (3, .ref o)] → W p l e room_1 s m #[Value.ref b] below meth c H locs (46 + kk) (7991 + 6 * kk) (lw_Z below #[Value.ref b] s) (F0 m 23 ls []) := by
  have C0 := C
  obtain ⟨hfl, hx, hb, hml, hown, hG, hTA, hX, hbl, hL, hKx, hKm, hKo, hda, hdm, hap, hox, hom, hax, ham, hao⟩ := C
  intro nz
  induction nz with
  | zero => intro kk i I F J G H locs ls h; exact absurd h (Nat.not_lt_zero _)
  | succ nz ih =>
    intro kk i I F J G H locs ls hm hi hiL h hl
    have hS := h.2.2.2.2
    have bA : ¬ s.heap.size ≤ b := by omega
    refine lv_iload hx hb dL_law_23 (lv_at hl 0 rfl) ?_
    refine lv_aload_n hx hb dL_law_25 rfl (lv_at hl 1 rfl) ?_
    refine va_slen hx hb hX hbl bA hS dL_law_26 ?_
    rw [show Int32.ofNat L = iI L from iI_n L]
    refine xr_iconst hx hb dL_law_27 ?_
    refine xr_isub (a := L) (b := 4) hx hb dL_law_28 ?_
    refine xr_icmp_gt (a := i) (b := L - 4) (tgt := 699) hx hb dL_law_29 (by decide) (fun c1 => ?_) (fun c1 => ?_) (by omega) (by omega)
    · refine xr_iconst hx hb dL_law_699 ?_
      rw [show iI 1 = (1 : Int32) by decide +kernel]
      refine W.widen (k := 601024) (n := 7293034) (by omega) (by omega) ?_
      refine va_forget hS.2.2 ?_
      exact lw_ret hx hb hr hlk dL_law_700
    · have hi4 : i + 4 ≤ L := by omega
      obtain ⟨p0, b0, e0⟩ := iI_of (xs i.toNat)
      refine lv_aload_n hx hb dL_law_32 rfl (lv_at hl 1 rfl) ?_
      refine lv_iload hx hb dL_law_33 (lv_at hl 0 rfl) ?_
      refine xr_sld hx hb hX hbl bA hS (by omega) (z := i) (v := p0) (by omega) (by omega) e0 dL_law_35 ?_
      refine xr_bipush hx hb dL_law_36 (by decide +kernel) ?_
      refine lv_iand hx hb dL_law_38 ?_
      obtain ⟨n, hn, en⟩ := and31 (iI p0)
      rw [en]
      have nx : ∀ (I : Nat → Int) (F : Nat → Int → Int) (J : Nat → Int) (G : Nat → Int → Int) (H : Heap) (locs : List Loc) (ls : Array Slot), lH s D a k a' k' o ko I F J G H locs → lv_has ls 7 [(4, .int (iI i)), (0, .ref b), (1, .ref (a 0)), (2, .ref (a' 0)), (3, .ref o)] → W p l e room_1 s m #[Value.ref b] below meth c H locs (46 + (kk + 1)) (7991 + 6 * (kk + 1)) (lw_Z below #[Value.ref b] s) (F0 m 693 ls []) := by
        intro I F J G H locs ls h hl
        refine xr_iinc (z := i) (lv' := [(4, .int (iI (i + 4))), (0, .ref b), (1, .ref (a 0)), (2, .ref (a' 0)), (3, .ref o)]) hx hb dL_law_693 hl (k := 0) rfl (by decide) rfl (fun ls hl => ?_)
        refine lv_goto (tgt := 23) hx hb dL_law_696 (by decide) ?_
        exact ih (kk + 1) (i + 4) I F J G H locs ls (by omega) (by omega) (by omega) h hl
      by_cases h16 : 16 < n
      · refine lv_tableOut (tgt := 693) hx hb dL_law_39 (Or.inr (by rw [iI_toInt (by omega)]; omega)) (by decide) ?_
        refine W.widen (k := 46 + (kk + 1)) (n := 7991 + 6 * (kk + 1)) (by omega) (by omega) ?_
        exact nx I F J G H locs ls h hl
      · have hc : n = 0 ∨ n = 1 ∨ n = 2 ∨ n = 3 ∨ n = 4 ∨ n = 5 ∨ n = 6 ∨ n = 7 ∨ n = 8 ∨ n = 9 ∨ n = 10 ∨ n = 11 ∨ n = 12 ∨ n = 13 ∨ n = 14 ∨ n = 15 ∨ n = 16 := by omega
        rcases hc with rfl | rfl | rfl | rfl | rfl | rfl | rfl | rfl | rfl | rfl | rfl | rfl | rfl | rfl | rfl | rfl | rfl
        · exact lv_tableIn (off := 81) (tgt := 120) hx hb dL_law_39 (by decide +kernel) (by decide +kernel) (by decide +kernel) (by decide) (lw_sign C0 h hi hi4 hl nx)
        · exact lv_tableIn (off := 104) (tgt := 143) hx hb dL_law_39 (by decide +kernel) (by decide +kernel) (by decide +kernel) (by decide) (lw_row C0 h hi hi4 hl nx)
        · exact lv_tableIn (off := 117) (tgt := 156) hx hb dL_law_39 (by decide +kernel) (by decide +kernel) (by decide +kernel) (by decide) (lw_octet C0 h hi hi4 hl nx)
        · exact lv_tableIn (off := 154) (tgt := 193) hx hb dL_law_39 (by decide +kernel) (by decide +kernel) (by decide +kernel) (by decide) (lw_file C0 h hi hi4 hl nx)
        · exact lv_tableIn (off := 167) (tgt := 206) hx hb dL_law_39 (by decide +kernel) (by decide +kernel) (by decide +kernel) (by decide) (lw_member C0 h hi hi4 hl nx)
        · exact lv_tableIn (off := 204) (tgt := 243) hx hb dL_law_39 (by decide +kernel) (by decide +kernel) (by decide +kernel) (by decide) (lw_identify C0 h hi hi4 hl nx)
        · exact lv_tableIn (off := 229) (tgt := 268) hx hb dL_law_39 (by decide +kernel) (by decide +kernel) (by decide +kernel) (by decide) (lw_found C0 h hi hi4 hl nx)
        · exact lv_tableIn (off := 285) (tgt := 324) hx hb dL_law_39 (by decide +kernel) (by decide +kernel) (by decide +kernel) (by decide) (lw_meets C0 h hi hi4 hl nx)
        · exact lv_tableIn (off := 322) (tgt := 361) hx hb dL_law_39 (by decide +kernel) (by decide +kernel) (by decide +kernel) (by decide) (lw_container C0 h hi hi4 hl nx)
        · exact lv_tableIn (off := 371) (tgt := 410) hx hb dL_law_39 (by decide +kernel) (by decide +kernel) (by decide +kernel) (by decide) (lw_deep C0 h hi hi4 hl nx)
        · exact lv_tableIn (off := 396) (tgt := 435) hx hb dL_law_39 (by decide +kernel) (by decide +kernel) (by decide +kernel) (by decide) (lw_obsolete C0 h hi hi4 hl nx)
        · exact lv_tableIn (off := 449) (tgt := 488) hx hb dL_law_39 (by decide +kernel) (by decide +kernel) (by decide +kernel) (by decide) (lw_migration C0 h hi hi4 hl nx)
        · exact lv_tableIn (off := 486) (tgt := 525) hx hb dL_law_39 (by decide +kernel) (by decide +kernel) (by decide +kernel) (by decide) (lw_becomes C0 h hi hi4 hl nx)
        · exact lv_tableIn (off := 511) (tgt := 550) hx hb dL_law_39 (by decide +kernel) (by decide +kernel) (by decide +kernel) (by decide) (lw_keep C0 h hi hi4 hl nx)
        · exact lv_tableIn (off := 524) (tgt := 563) hx hb dL_law_39 (by decide +kernel) (by decide +kernel) (by decide +kernel) (by decide) (lw_changed C0 h hi hi4 hl nx)
        · exact lv_tableIn (off := 549) (tgt := 588) hx hb dL_law_39 (by decide +kernel) (by decide +kernel) (by decide +kernel) (by decide) (lw_count C0 h hi hi4 hl nx)
        · exact lv_tableIn (off := 586) (tgt := 625) hx hb dL_law_39 (by decide +kernel) (by decide +kernel) (by decide +kernel) (by decide) (lw_pattern C0 h hi hi4 hl nx)
