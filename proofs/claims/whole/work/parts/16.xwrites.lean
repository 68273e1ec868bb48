set_option maxHeartbeats 4000000 in
set_option maxRecDepth 100000 in
theorem c_X3_add (l : Launch) (D : va_G) (a : Nat → Nat) (k : Nat → ClassId) (I : Nat → Int) (F : Nat → Int → Int) (hdis : dis 24 a) (p0 : Int) (h1 : 0 ≤ I 1 ∧ I 1 ≤ 60) : mv_M (S := (Nat → Int) × (Nat → Int → Int)) l yX3_add cX3_add 2 (none : Option Jvm.ClassFile.FieldType) 0 [.ref (a 1), .int (iI p0)] D (xT k) (xW a k I F) (fun u => xW a k u.1 u.2) (fun u => (60 ≤ I 1 ∧ u = (I, F)) ∨ (I 1 < 60 ∧ u = (uI I 1 (I 1 + 1), uF F 7 (uA (F 7) (I 1) p0)))) (adr 24 a) := by
  refine me_start (by decide) (Nat.le_of_ble_eq_true rfl) rfl ?_
  intro p e s m below meth c hx hb hml hr hown hlocks hnm hG hK hP ls hl
  have hown : s.vm.findClass RX3 = some m.cls := hown
  have hl : lv_has ls 2 [(0, .ref (a 1)), (1, .int (iI p0))] := hl
  have hS : va_S (adr 24 a) s.heap s.heap [] := va_S.rf
  refine lv_aload_n hx hb dX3_add_0 rfl (lv_at hl 0 rfl) ?_
  refine va_get (D := D) (cl := vwC) (ci := 4) (v := .int (iI (I 1))) (C := RX3) (T := TX3) (N := 9) hx hb hG.use i_X3 hown hK hP 1 rfl rfl 1 (by decide) (hG.use _ lf_X3_15) (fun _ h9 => h9) rfl dX3_add_1 ?_
  refine xr_bipush hx hb dX3_add_4 (by decide +kernel) ?_
  refine xr_icmp_ge (a := I 1) (b := 60) (tgt := 29) hx hb dX3_add_6 (by decide) (fun c_1 => ?_) (fun c_1 => ?_) (by omega) (by omega)
  · skip
    -- 6 t
    exact W.vret hx hb hr (fun t ht9 hW => ⟨(I, F), rfl, (by first | exact Or.inl ⟨by omega, rfl⟩ | exact Or.inr ⟨by omega, rfl⟩), by rw [ht9]; exact hP, hS.F ht9⟩) hS.2.2 dX3_add_29
  · skip
    -- 6 f
    refine lv_aload_n hx hb dX3_add_9 rfl (lv_at hl 0 rfl) ?_
    refine va_get (D := D) (cl := vwC) (ci := 4) (v := .ref (a 7)) (C := RX3) (T := TX3) (N := 9) hx hb hG.use i_X3 hown hK hP 1 rfl rfl 0 (by decide) (hG.use _ lf_X3_9) (fun _ h9 => h9) rfl dX3_add_10 ?_
    refine lv_aload_n hx hb dX3_add_13 rfl (lv_at hl 0 rfl) ?_
    refine va_get (D := D) (cl := vwC) (ci := 4) (v := .int (iI (I 1))) (C := RX3) (T := TX3) (N := 9) hx hb hG.use i_X3 hown hK hP 1 rfl rfl 1 (by decide) (hG.use _ lf_X3_15) (fun _ h9 => h9) rfl dX3_add_14 ?_
    refine lv_iload_n hx hb dX3_add_17 rfl (lv_at hl 1 rfl) ?_
    refine xr_iast (f := F 7) (z := I 1) (v := p0) hx hb hK hP (xD hdis) hS 7 1 rfl rfl (by omega) (by omega) (by decide) dX3_add_18 (fun H locs hP hS => ?_)
    have hP : va_P D vwC (xW a k I (uF F 7 (uA (F 7) (I 1) p0))) H := hP
    refine lv_aload_n hx hb dX3_add_19 rfl (lv_at hl 0 rfl) ?_
    refine lv_dup hx hb dX3_add_20 rfl ?_
    refine va_get (D := D) (cl := vwC) (ci := 4) (v := .int (iI (I 1))) (C := RX3) (T := TX3) (N := 9) hx hb hG.use i_X3 hown hK hP 1 rfl rfl 1 (by decide) (hG.use _ lf_X3_15) (fun _ h9 => h9) rfl dX3_add_21 ?_
    refine xr_iconst hx hb dX3_add_24 ?_
    refine xr_iadd (a := I 1) (b := 1) hx hb dX3_add_25 ?_
    refine va_put (D := D) (cl := vwC) (ci := 4) (v := .int (iI ((I 1) + 1))) (ty := .int) (C := RX3) (T := TX3) (N := 9) hx hb hG.use i_X3 tyX3 tyX3_ok nmX3 hown hK hP (xD hdis) hS 1 rfl rfl 1 (by decide) (hG.use _ lf_X3_15) (fun _ h9 => h9) rfl (by decide +kernel) rfl rfl (Nat.le_of_ble_eq_true rfl) dX3_add_26 (fun H locs hP _ hS => ?_)
    have hP : va_P D vwC (xW a k (uI I 1 ((I 1) + 1)) (uF F 7 (uA (F 7) (I 1) p0))) H := hP
    exact W.vret hx hb hr (fun t ht9 hW => ⟨(uI I 1 ((I 1) + 1), uF F 7 (uA (F 7) (I 1) p0)), rfl, (by first | exact Or.inl ⟨by omega, rfl⟩ | exact Or.inr ⟨by omega, rfl⟩), by rw [ht9]; exact hP, hS.F ht9⟩) hS.2.2 dX3_add_29
set_option maxHeartbeats 4000000 in
set_option maxRecDepth 100000 in
theorem c_X3_forget (l : Launch) (D : va_G) (a : Nat → Nat) (k : Nat → ClassId) (I : Nat → Int) (F : Nat → Int → Int) (hdis : dis 24 a)   : mv_M (S := (Nat → Int) × (Nat → Int → Int)) l yX3_forget cX3_forget 1 (none : Option Jvm.ClassFile.FieldType) 0 [.ref (a 1)] D (xT k) (xW a k I F) (fun u => xW a k u.1 u.2) (fun u => u = (uI I 1 0, F)) (adr 24 a) := by
  refine me_start (by decide) (Nat.le_of_ble_eq_true rfl) rfl ?_
  intro p e s m below meth c hx hb hml hr hown hlocks hnm hG hK hP ls hl
  have hown : s.vm.findClass RX3 = some m.cls := hown
  have hl : lv_has ls 1 [(0, .ref (a 1))] := hl
  have hS : va_S (adr 24 a) s.heap s.heap [] := va_S.rf
  refine lv_aload_n hx hb dX3_forget_0 rfl (lv_at hl 0 rfl) ?_
  refine xr_iconst hx hb dX3_forget_1 ?_
  refine va_put (D := D) (cl := vwC) (ci := 4) (v := .int (iI 0)) (ty := .int) (C := RX3) (T := TX3) (N := 9) hx hb hG.use i_X3 tyX3 tyX3_ok nmX3 hown hK hP (xD hdis) hS 1 rfl rfl 1 (by decide) (hG.use _ lf_X3_15) (fun _ h9 => h9) rfl (by decide +kernel) rfl rfl (Nat.le_of_ble_eq_true rfl) dX3_forget_2 (fun H locs hP _ hS => ?_)
  have hP : va_P D vwC (xW a k (uI I 1 0) F) H := hP
  exact W.vret hx hb hr (fun t ht9 hW => ⟨(uI I 1 0, F), rfl, (by rfl), by rw [ht9]; exact hP, hS.F ht9⟩) hS.2.2 dX3_forget_5
set_option maxHeartbeats 4000000 in
set_option maxRecDepth 100000 in
theorem c_X1_add (l : Launch) (D : va_G) (a : Nat → Nat) (k : Nat → ClassId) (I : Nat → Int) (F : Nat → Int → Int) (hdis : dis 24 a)  (h9 : 0 ≤ I 9 ∧ I 9 ≤ 40) : mu_M (S := (Nat → Int) × (Nat → Int → Int)) l yX1_add cX1_add 1 (some .int) 0 [.ref (a 3)] D (xT k) (xW a k I F) (fun u => xW a k u.1 u.2) (fun r u => (40 ≤ I 9 ∧ r = -4 ∧ u = (I, F)) ∨ (I 9 < 40 ∧ r = I 9 ∧ u = (uI I 9 (I 9 + 1), uF F 18 (uA (F 18) (I 9) (-1))))) (adr 24 a) := by
  refine me_start (by decide) (Nat.le_of_ble_eq_true rfl) rfl ?_
  intro p e s m below meth c hx hb hml hr hown hlocks hnm hG hK hP ls hl
  have hown : s.vm.findClass RX1 = some m.cls := hown
  have hl : lv_has ls 1 [(0, .ref (a 3))] := hl
  have hS : va_S (adr 24 a) s.heap s.heap [] := va_S.rf
  refine lv_aload_n hx hb dX1_add_0 rfl (lv_at hl 0 rfl) ?_
  refine va_get (D := D) (cl := vwC) (ci := 2) (v := .int (iI (I 9))) (C := RX1) (T := TX1) (N := 5) hx hb hG.use i_X1 hown hK hP 3 rfl rfl 0 (by decide) (hG.use _ lf_X1_9) (fun _ h9 => h9) rfl dX1_add_1 ?_
  refine xr_bipush hx hb dX1_add_4 (by decide +kernel) ?_
  refine xr_icmp_lt (a := I 9) (b := 40) (tgt := 12) hx hb dX1_add_6 (by decide) (fun c_1 => ?_) (fun c_1 => ?_) (by omega) (by omega)
  · skip
    -- 6 t
    refine lv_aload_n hx hb dX1_add_12 rfl (lv_at hl 0 rfl) ?_
    refine va_get (D := D) (cl := vwC) (ci := 2) (v := .ref (a 18)) (C := RX1) (T := TX1) (N := 5) hx hb hG.use i_X1 hown hK hP 3 rfl rfl 4 (by decide) (hG.use _ lf_X1_25) (fun _ h9 => h9) rfl dX1_add_13 ?_
    refine lv_aload_n hx hb dX1_add_16 rfl (lv_at hl 0 rfl) ?_
    refine va_get (D := D) (cl := vwC) (ci := 2) (v := .int (iI (I 9))) (C := RX1) (T := TX1) (N := 5) hx hb hG.use i_X1 hown hK hP 3 rfl rfl 0 (by decide) (hG.use _ lf_X1_9) (fun _ h9 => h9) rfl dX1_add_17 ?_
    refine xr_iconst hx hb dX1_add_20 ?_
    refine xr_iast (f := F 18) (z := I 9) (v := (-1)) hx hb hK hP (xD hdis) hS 18 12 rfl rfl (by omega) (by omega) (by decide) dX1_add_21 (fun H locs hP hS => ?_)
    have hP : va_P D vwC (xW a k I (uF F 18 (uA (F 18) (I 9) (-1)))) H := hP
    refine lv_aload_n hx hb dX1_add_22 rfl (lv_at hl 0 rfl) ?_
    refine lv_dup hx hb dX1_add_23 rfl ?_
    refine va_get (D := D) (cl := vwC) (ci := 2) (v := .int (iI (I 9))) (C := RX1) (T := TX1) (N := 5) hx hb hG.use i_X1 hown hK hP 3 rfl rfl 0 (by decide) (hG.use _ lf_X1_9) (fun _ h9 => h9) rfl dX1_add_24 ?_
    refine xr_iconst hx hb dX1_add_27 ?_
    refine xr_iadd (a := I 9) (b := 1) hx hb dX1_add_28 ?_
    refine va_put (D := D) (cl := vwC) (ci := 2) (v := .int (iI ((I 9) + 1))) (ty := .int) (C := RX1) (T := TX1) (N := 5) hx hb hG.use i_X1 tyX1 tyX1_ok nmX1 hown hK hP (xD hdis) hS 3 rfl rfl 0 (by decide) (hG.use _ lf_X1_9) (fun _ h9 => h9) rfl (by decide +kernel) rfl rfl (Nat.le_of_ble_eq_true rfl) dX1_add_29 (fun H locs hP _ hS => ?_)
    have hP : va_P D vwC (xW a k (uI I 9 ((I 9) + 1)) (uF F 18 (uA (F 18) (I 9) (-1)))) H := hP
    refine lv_aload_n hx hb dX1_add_32 rfl (lv_at hl 0 rfl) ?_
    refine va_get (D := D) (cl := vwC) (ci := 2) (v := .int (iI ((I 9) + 1))) (C := RX1) (T := TX1) (N := 5) hx hb hG.use i_X1 hown hK hP 3 rfl rfl 0 (by decide) (hG.use _ lf_X1_9) (fun _ h9 => h9) rfl dX1_add_33 ?_
    refine xr_iconst hx hb dX1_add_36 ?_
    refine xr_isub (a := (I 9) + 1) (b := 1) hx hb dX1_add_37 ?_
    exact W.iret (v := iI (((I 9) + 1) - 1)) hx hb hr (fun t ht9 hW => ⟨((I 9) + 1) - 1, (uI I 9 ((I 9) + 1), uF F 18 (uA (F 18) (I 9) (-1))), rfl, (by first | exact Or.inl ⟨by omega, by omega, rfl⟩ | exact Or.inr ⟨by omega, by omega, rfl⟩), by rw [ht9]; exact hP, hS.F ht9⟩) hS.2.2 dX1_add_38
  · skip
    -- 6 f
    refine xr_bipush hx hb dX1_add_9 (by decide +kernel) ?_
    exact W.iret (v := iI (-4)) hx hb hr (fun t ht9 hW => ⟨(-4), (I, F), rfl, (by first | exact Or.inl ⟨by omega, by omega, rfl⟩ | exact Or.inr ⟨by omega, by omega, rfl⟩), by rw [ht9]; exact hP, hS.F ht9⟩) hS.2.2 dX1_add_11
set_option maxHeartbeats 4000000 in
set_option maxRecDepth 100000 in
theorem c_X1_addByte (l : Launch) (D : va_G) (a : Nat → Nat) (k : Nat → ClassId) (I : Nat → Int) (F : Nat → Int → Int) (hdis : dis 24 a) (p0 p1 : Int) (h0 : 0 ≤ p0 ∧ p0 < 40) (h1 : 0 ≤ F 15 p0 ∧ F 15 p0 ≤ 60) : mu_M (S := (Nat → Int) × (Nat → Int → Int)) l yX1_addByte cX1_addByte 4 (some .int) 0 [.ref (a 3), .int (iI p0), .int (iI p1)] D (xT k) (xW a k I F) (fun u => xW a k u.1 u.2) (fun r u => (60 ≤ F 15 p0 ∧ r = -4 ∧ u = (I, F)) ∨ (F 15 p0 < 60 ∧ r = F 15 p0 + 1 ∧ u = (I, uF (uF F 16 (uA (F 16) (p0 * 60 + F 15 p0) p1)) 15 (uA (F 15) p0 (F 15 p0 + 1))))) (adr 24 a) := by
  refine me_start (by decide) (Nat.le_of_ble_eq_true rfl) rfl ?_
  intro p e s m below meth c hx hb hml hr hown hlocks hnm hG hK hP ls hl
  have hown : s.vm.findClass RX1 = some m.cls := hown
  have hl : lv_has ls 4 [(0, .ref (a 3)), (1, .int (iI p0)), (2, .int (iI p1))] := hl
  have hS : va_S (adr 24 a) s.heap s.heap [] := va_S.rf
  refine lv_aload_n hx hb dX1_addByte_0 rfl (lv_at hl 0 rfl) ?_
  refine va_get (D := D) (cl := vwC) (ci := 2) (v := .ref (a 15)) (C := RX1) (T := TX1) (N := 5) hx hb hG.use i_X1 hown hK hP 3 rfl rfl 1 (by decide) (hG.use _ lf_X1_15) (fun _ h9 => h9) rfl dX1_addByte_1 ?_
  refine lv_iload_n hx hb dX1_addByte_4 rfl (lv_at hl 1 rfl) ?_
  refine xr_iald (f := F 15) (z := p0) hx hb hK hP 15 9 rfl rfl (by omega) (by omega) (by decide) dX1_addByte_5 ?_
  refine lv_istore_n (lv' := [(3, .int (iI ((F 15) p0))), (0, .ref (a 3)), (1, .int (iI p0)), (2, .int (iI p1))]) hx hb dX1_addByte_6 rfl hl (by decide) rfl (fun ls hl => ?_)
  refine lv_iload_n hx hb dX1_addByte_7 rfl (lv_at hl 0 rfl) ?_
  refine xr_bipush hx hb dX1_addByte_8 (by decide +kernel) ?_
  refine xr_icmp_lt (a := (F 15) p0) (b := 60) (tgt := 16) hx hb dX1_addByte_10 (by decide) (fun c_1 => ?_) (fun c_1 => ?_) (by omega) (by omega)
  · skip
    -- 10 t
    refine lv_aload_n hx hb dX1_addByte_16 rfl (lv_at hl 1 rfl) ?_
    refine va_get (D := D) (cl := vwC) (ci := 2) (v := .ref (a 16)) (C := RX1) (T := TX1) (N := 5) hx hb hG.use i_X1 hown hK hP 3 rfl rfl 2 (by decide) (hG.use _ lf_X1_19) (fun _ h9 => h9) rfl dX1_addByte_17 ?_
    refine lv_iload_n hx hb dX1_addByte_20 rfl (lv_at hl 2 rfl) ?_
    refine xr_bipush hx hb dX1_addByte_21 (by decide +kernel) ?_
    refine xr_imul (a := p0) (b := 60) hx hb dX1_addByte_23 ?_
    refine lv_iload_n hx hb dX1_addByte_24 rfl (lv_at hl 0 rfl) ?_
    refine xr_iadd (a := p0 * 60) (b := (F 15) p0) hx hb dX1_addByte_25 ?_
    refine lv_iload_n hx hb dX1_addByte_26 rfl (lv_at hl 3 rfl) ?_
    refine xr_iast (f := F 16) (z := (p0 * 60) + ((F 15) p0)) (v := p1) hx hb hK hP (xD hdis) hS 16 10 rfl rfl (by omega) (by omega) (by decide) dX1_addByte_27 (fun H locs hP hS => ?_)
    have hP : va_P D vwC (xW a k I (uF F 16 (uA (F 16) ((p0 * 60) + ((F 15) p0)) p1))) H := hP
    refine lv_aload_n hx hb dX1_addByte_28 rfl (lv_at hl 1 rfl) ?_
    refine va_get (D := D) (cl := vwC) (ci := 2) (v := .ref (a 15)) (C := RX1) (T := TX1) (N := 5) hx hb hG.use i_X1 hown hK hP 3 rfl rfl 1 (by decide) (hG.use _ lf_X1_15) (fun _ h9 => h9) rfl dX1_addByte_29 ?_
    refine lv_iload_n hx hb dX1_addByte_32 rfl (lv_at hl 2 rfl) ?_
    refine lv_iload_n hx hb dX1_addByte_33 rfl (lv_at hl 0 rfl) ?_
    refine xr_iconst hx hb dX1_addByte_34 ?_
    refine xr_iadd (a := (F 15) p0) (b := 1) hx hb dX1_addByte_35 ?_
    refine xr_iast (f := F 15) (z := p0) (v := ((F 15) p0) + 1) hx hb hK hP (xD hdis) hS 15 9 rfl rfl (by omega) (by omega) (by decide) dX1_addByte_36 (fun H locs hP hS => ?_)
    have hP : va_P D vwC (xW a k I (uF (uF F 16 (uA (F 16) ((p0 * 60) + ((F 15) p0)) p1)) 15 (uA (F 15) p0 (((F 15) p0) + 1)))) H := hP
    refine lv_iload_n hx hb dX1_addByte_37 rfl (lv_at hl 0 rfl) ?_
    refine xr_iconst hx hb dX1_addByte_38 ?_
    refine xr_iadd (a := (F 15) p0) (b := 1) hx hb dX1_addByte_39 ?_
    exact W.iret (v := iI (((F 15) p0) + 1)) hx hb hr (fun t ht9 hW => ⟨((F 15) p0) + 1, (I, uF (uF F 16 (uA (F 16) ((p0 * 60) + ((F 15) p0)) p1)) 15 (uA (F 15) p0 (((F 15) p0) + 1))), rfl, (by first | exact Or.inl ⟨by omega, by omega, rfl⟩ | exact Or.inr ⟨by omega, by omega, rfl⟩), by rw [ht9]; exact hP, hS.F ht9⟩) hS.2.2 dX1_addByte_40
  · skip
    -- 10 f
    refine xr_bipush hx hb dX1_addByte_13 (by decide +kernel) ?_
    exact W.iret (v := iI (-4)) hx hb hr (fun t ht9 hW => ⟨(-4), (I, F), rfl, (by first | exact Or.inl ⟨by omega, by omega, rfl⟩ | exact Or.inr ⟨by omega, by omega, rfl⟩), by rw [ht9]; exact hP, hS.F ht9⟩) hS.2.2 dX1_addByte_15
set_option maxHeartbeats 4000000 in
set_option maxRecDepth 100000 in
theorem c_X1_addMember (l : Launch) (D : va_G) (a : Nat → Nat) (k : Nat → ClassId) (I : Nat → Int) (F : Nat → Int → Int) (hdis : dis 24 a) (p0 p1 : Int) (h0 : 0 ≤ p0 ∧ p0 < 40) (h1 : 0 ≤ p1 ∧ p1 < 40) (h2 : 0 ≤ F 17 p1 ∧ F 17 p1 ≤ 8) : mu_M (S := (Nat → Int) × (Nat → Int → Int)) l yX1_addMember cX1_addMember 3 (some .int) 0 [.ref (a 3), .int (iI p0), .int (iI p1)] D (xT k) (xW a k I F) (fun u => xW a k u.1 u.2) (fun r u => (8 ≤ F 17 p1 ∧ r = -4 ∧ u = (I, F)) ∨ (F 17 p1 < 8 ∧ r = F 17 p1 + 1 ∧ u = (I, uF (uF F 18 (uA (F 18) p0 p1)) 17 (uA (F 17) p1 (F 17 p1 + 1))))) (adr 24 a) := by
  refine me_start (by decide) (Nat.le_of_ble_eq_true rfl) rfl ?_
  intro p e s m below meth c hx hb hml hr hown hlocks hnm hG hK hP ls hl
  have hown : s.vm.findClass RX1 = some m.cls := hown
  have hl : lv_has ls 3 [(0, .ref (a 3)), (1, .int (iI p0)), (2, .int (iI p1))] := hl
  have hS : va_S (adr 24 a) s.heap s.heap [] := va_S.rf
  refine lv_aload_n hx hb dX1_addMember_0 rfl (lv_at hl 0 rfl) ?_
  refine va_get (D := D) (cl := vwC) (ci := 2) (v := .ref (a 17)) (C := RX1) (T := TX1) (N := 5) hx hb hG.use i_X1 hown hK hP 3 rfl rfl 3 (by decide) (hG.use _ lf_X1_22) (fun _ h9 => h9) rfl dX1_addMember_1 ?_
  refine lv_iload_n hx hb dX1_addMember_4 rfl (lv_at hl 2 rfl) ?_
  refine xr_iald (f := F 17) (z := p1) hx hb hK hP 17 11 rfl rfl (by omega) (by omega) (by decide) dX1_addMember_5 ?_
  refine xr_bipush hx hb dX1_addMember_6 (by decide +kernel) ?_
  refine xr_icmp_lt (a := (F 17) p1) (b := 8) (tgt := 14) hx hb dX1_addMember_8 (by decide) (fun c_1 => ?_) (fun c_1 => ?_) (by omega) (by omega)
  · skip
    -- 8 t
    refine lv_aload_n hx hb dX1_addMember_14 rfl (lv_at hl 0 rfl) ?_
    refine va_get (D := D) (cl := vwC) (ci := 2) (v := .ref (a 18)) (C := RX1) (T := TX1) (N := 5) hx hb hG.use i_X1 hown hK hP 3 rfl rfl 4 (by decide) (hG.use _ lf_X1_25) (fun _ h9 => h9) rfl dX1_addMember_15 ?_
    refine lv_iload_n hx hb dX1_addMember_18 rfl (lv_at hl 1 rfl) ?_
    refine lv_iload_n hx hb dX1_addMember_19 rfl (lv_at hl 2 rfl) ?_
    refine xr_iast (f := F 18) (z := p0) (v := p1) hx hb hK hP (xD hdis) hS 18 12 rfl rfl (by omega) (by omega) (by decide) dX1_addMember_20 (fun H locs hP hS => ?_)
    have hP : va_P D vwC (xW a k I (uF F 18 (uA (F 18) p0 p1))) H := hP
    refine lv_aload_n hx hb dX1_addMember_21 rfl (lv_at hl 0 rfl) ?_
    refine va_get (D := D) (cl := vwC) (ci := 2) (v := .ref (a 17)) (C := RX1) (T := TX1) (N := 5) hx hb hG.use i_X1 hown hK hP 3 rfl rfl 3 (by decide) (hG.use _ lf_X1_22) (fun _ h9 => h9) rfl dX1_addMember_22 ?_
    refine lv_iload_n hx hb dX1_addMember_25 rfl (lv_at hl 2 rfl) ?_
    refine lv_dup2_11 hx hb dX1_addMember_26 rfl rfl ?_
    refine xr_iald (f := F 17) (z := p1) hx hb hK hP 17 11 rfl rfl (by omega) (by omega) (by decide) dX1_addMember_27 ?_
    refine xr_iconst hx hb dX1_addMember_28 ?_
    refine xr_iadd (a := (F 17) p1) (b := 1) hx hb dX1_addMember_29 ?_
    refine xr_iast (f := F 17) (z := p1) (v := ((F 17) p1) + 1) hx hb hK hP (xD hdis) hS 17 11 rfl rfl (by omega) (by omega) (by decide) dX1_addMember_30 (fun H locs hP hS => ?_)
    have hP : va_P D vwC (xW a k I (uF (uF F 18 (uA (F 18) p0 p1)) 17 (uA (F 17) p1 (((F 17) p1) + 1)))) H := hP
    refine lv_aload_n hx hb dX1_addMember_31 rfl (lv_at hl 0 rfl) ?_
    refine va_get (D := D) (cl := vwC) (ci := 2) (v := .ref (a 17)) (C := RX1) (T := TX1) (N := 5) hx hb hG.use i_X1 hown hK hP 3 rfl rfl 3 (by decide) (hG.use _ lf_X1_22) (fun _ h9 => h9) rfl dX1_addMember_32 ?_
    refine lv_iload_n hx hb dX1_addMember_35 rfl (lv_at hl 2 rfl) ?_
    refine xr_iald (f := uA (F 17) p1 (((F 17) p1) + 1)) (z := p1) hx hb hK hP 17 11 rfl rfl (by omega) (by omega) (by decide) dX1_addMember_36 ?_
    exact W.iret (v := iI ((uA (F 17) p1 (((F 17) p1) + 1)) p1)) hx hb hr (fun t ht9 hW => ⟨(uA (F 17) p1 (((F 17) p1) + 1)) p1, (I, uF (uF F 18 (uA (F 18) p0 p1)) 17 (uA (F 17) p1 (((F 17) p1) + 1))), rfl, (by first | exact Or.inl ⟨by omega, by omega, rfl⟩ | exact Or.inr ⟨by omega, uA_s, rfl⟩), by rw [ht9]; exact hP, hS.F ht9⟩) hS.2.2 dX1_addMember_37
  · skip
    -- 8 f
    refine xr_bipush hx hb dX1_addMember_11 (by decide +kernel) ?_
    exact W.iret (v := iI (-4)) hx hb hr (fun t ht9 hW => ⟨(-4), (I, F), rfl, (by first | exact Or.inl ⟨by omega, by omega, rfl⟩ | exact Or.inr ⟨by omega, uA_s, rfl⟩), by rw [ht9]; exact hP, hS.F ht9⟩) hS.2.2 dX1_addMember_13
set_option maxHeartbeats 4000000 in
set_option maxRecDepth 100000 in
theorem c_X0_add (l : Launch) (D : va_G) (a : Nat → Nat) (k : Nat → ClassId) (I : Nat → Int) (F : Nat → Int → Int) (hdis : dis 24 a) (p0 p1 p2 : Int) (h10 : 0 ≤ I 10 ∧ I 10 ≤ 20) : mu_M (S := (Nat → Int) × (Nat → Int → Int)) l yX0_add cX0_add 4 (some .int) 0 [.ref (a 4), .int (iI p0), .int (iI p1), .int (iI p2)] D (xT k) (xW a k I F) (fun u => xW a k u.1 u.2) (fun r u => (20 ≤ I 10 ∧ r = -4 ∧ u = (I, F)) ∨ (I 10 < 20 ∧ r = I 10 ∧ u = (uI I 10 (I 10 + 1), uF (uF (uF F 19 (uA (F 19) (I 10) p0)) 20 (uA (F 20) (I 10) p1)) 21 (uA (F 21) (I 10) p2)))) (adr 24 a) := by
  refine me_start (by decide) (Nat.le_of_ble_eq_true rfl) rfl ?_
  intro p e s m below meth c hx hb hml hr hown hlocks hnm hG hK hP ls hl
  have hown : s.vm.findClass RX0 = some m.cls := hown
  have hl : lv_has ls 4 [(0, .ref (a 4)), (1, .int (iI p0)), (2, .int (iI p1)), (3, .int (iI p2))] := hl
  have hS : va_S (adr 24 a) s.heap s.heap [] := va_S.rf
  refine lv_aload_n hx hb dX0_add_0 rfl (lv_at hl 0 rfl) ?_
  refine va_get (D := D) (cl := vwC) (ci := 1) (v := .int (iI (I 10))) (C := RX0) (T := TX0) (N := 4) hx hb hG.use i_X0 hown hK hP 4 rfl rfl 0 (by decide) (hG.use _ lf_X0_9) (fun _ h9 => h9) rfl dX0_add_1 ?_
  refine xr_bipush hx hb dX0_add_4 (by decide +kernel) ?_
  refine xr_icmp_lt (a := I 10) (b := 20) (tgt := 12) hx hb dX0_add_6 (by decide) (fun c_1 => ?_) (fun c_1 => ?_) (by omega) (by omega)
  · skip
    -- 6 t
    refine lv_aload_n hx hb dX0_add_12 rfl (lv_at hl 0 rfl) ?_
    refine va_get (D := D) (cl := vwC) (ci := 1) (v := .ref (a 19)) (C := RX0) (T := TX0) (N := 4) hx hb hG.use i_X0 hown hK hP 4 rfl rfl 1 (by decide) (hG.use _ lf_X0_15) (fun _ h9 => h9) rfl dX0_add_13 ?_
    refine lv_aload_n hx hb dX0_add_16 rfl (lv_at hl 0 rfl) ?_
    refine va_get (D := D) (cl := vwC) (ci := 1) (v := .int (iI (I 10))) (C := RX0) (T := TX0) (N := 4) hx hb hG.use i_X0 hown hK hP 4 rfl rfl 0 (by decide) (hG.use _ lf_X0_9) (fun _ h9 => h9) rfl dX0_add_17 ?_
    refine lv_iload_n hx hb dX0_add_20 rfl (lv_at hl 1 rfl) ?_
    refine xr_iast (f := F 19) (z := I 10) (v := p0) hx hb hK hP (xD hdis) hS 19 13 rfl rfl (by omega) (by omega) (by decide) dX0_add_21 (fun H locs hP hS => ?_)
    have hP : va_P D vwC (xW a k I (uF F 19 (uA (F 19) (I 10) p0))) H := hP
    refine lv_aload_n hx hb dX0_add_22 rfl (lv_at hl 0 rfl) ?_
    refine va_get (D := D) (cl := vwC) (ci := 1) (v := .ref (a 20)) (C := RX0) (T := TX0) (N := 4) hx hb hG.use i_X0 hown hK hP 4 rfl rfl 2 (by decide) (hG.use _ lf_X0_19) (fun _ h9 => h9) rfl dX0_add_23 ?_
    refine lv_aload_n hx hb dX0_add_26 rfl (lv_at hl 0 rfl) ?_
    refine va_get (D := D) (cl := vwC) (ci := 1) (v := .int (iI (I 10))) (C := RX0) (T := TX0) (N := 4) hx hb hG.use i_X0 hown hK hP 4 rfl rfl 0 (by decide) (hG.use _ lf_X0_9) (fun _ h9 => h9) rfl dX0_add_27 ?_
    refine lv_iload_n hx hb dX0_add_30 rfl (lv_at hl 2 rfl) ?_
    refine xr_iast (f := F 20) (z := I 10) (v := p1) hx hb hK hP (xD hdis) hS 20 14 rfl rfl (by omega) (by omega) (by decide) dX0_add_31 (fun H locs hP hS => ?_)
    have hP : va_P D vwC (xW a k I (uF (uF F 19 (uA (F 19) (I 10) p0)) 20 (uA (F 20) (I 10) p1))) H := hP
    refine lv_aload_n hx hb dX0_add_32 rfl (lv_at hl 0 rfl) ?_
    refine va_get (D := D) (cl := vwC) (ci := 1) (v := .ref (a 21)) (C := RX0) (T := TX0) (N := 4) hx hb hG.use i_X0 hown hK hP 4 rfl rfl 3 (by decide) (hG.use _ lf_X0_22) (fun _ h9 => h9) rfl dX0_add_33 ?_
    refine lv_aload_n hx hb dX0_add_36 rfl (lv_at hl 0 rfl) ?_
    refine va_get (D := D) (cl := vwC) (ci := 1) (v := .int (iI (I 10))) (C := RX0) (T := TX0) (N := 4) hx hb hG.use i_X0 hown hK hP 4 rfl rfl 0 (by decide) (hG.use _ lf_X0_9) (fun _ h9 => h9) rfl dX0_add_37 ?_
    refine lv_iload_n hx hb dX0_add_40 rfl (lv_at hl 3 rfl) ?_
    refine xr_iast (f := F 21) (z := I 10) (v := p2) hx hb hK hP (xD hdis) hS 21 15 rfl rfl (by omega) (by omega) (by decide) dX0_add_41 (fun H locs hP hS => ?_)
    have hP : va_P D vwC (xW a k I (uF (uF (uF F 19 (uA (F 19) (I 10) p0)) 20 (uA (F 20) (I 10) p1)) 21 (uA (F 21) (I 10) p2))) H := hP
    refine lv_aload_n hx hb dX0_add_42 rfl (lv_at hl 0 rfl) ?_
    refine lv_dup hx hb dX0_add_43 rfl ?_
    refine va_get (D := D) (cl := vwC) (ci := 1) (v := .int (iI (I 10))) (C := RX0) (T := TX0) (N := 4) hx hb hG.use i_X0 hown hK hP 4 rfl rfl 0 (by decide) (hG.use _ lf_X0_9) (fun _ h9 => h9) rfl dX0_add_44 ?_
    refine xr_iconst hx hb dX0_add_47 ?_
    refine xr_iadd (a := I 10) (b := 1) hx hb dX0_add_48 ?_
    refine va_put (D := D) (cl := vwC) (ci := 1) (v := .int (iI ((I 10) + 1))) (ty := .int) (C := RX0) (T := TX0) (N := 4) hx hb hG.use i_X0 tyX0 tyX0_ok nmX0 hown hK hP (xD hdis) hS 4 rfl rfl 0 (by decide) (hG.use _ lf_X0_9) (fun _ h9 => h9) rfl (by decide +kernel) rfl rfl (Nat.le_of_ble_eq_true rfl) dX0_add_49 (fun H locs hP _ hS => ?_)
    have hP : va_P D vwC (xW a k (uI I 10 ((I 10) + 1)) (uF (uF (uF F 19 (uA (F 19) (I 10) p0)) 20 (uA (F 20) (I 10) p1)) 21 (uA (F 21) (I 10) p2))) H := hP
    refine lv_aload_n hx hb dX0_add_52 rfl (lv_at hl 0 rfl) ?_
    refine va_get (D := D) (cl := vwC) (ci := 1) (v := .int (iI ((I 10) + 1))) (C := RX0) (T := TX0) (N := 4) hx hb hG.use i_X0 hown hK hP 4 rfl rfl 0 (by decide) (hG.use _ lf_X0_9) (fun _ h9 => h9) rfl dX0_add_53 ?_
    refine xr_iconst hx hb dX0_add_56 ?_
    refine xr_isub (a := (I 10) + 1) (b := 1) hx hb dX0_add_57 ?_
    exact W.iret (v := iI (((I 10) + 1) - 1)) hx hb hr (fun t ht9 hW => ⟨((I 10) + 1) - 1, (uI I 10 ((I 10) + 1), uF (uF (uF F 19 (uA (F 19) (I 10) p0)) 20 (uA (F 20) (I 10) p1)) 21 (uA (F 21) (I 10) p2)), rfl, (by first | exact Or.inl ⟨by omega, by omega, rfl⟩ | exact Or.inr ⟨by omega, by omega, rfl⟩), by rw [ht9]; exact hP, hS.F ht9⟩) hS.2.2 dX0_add_58
  · skip
    -- 6 f
    refine xr_bipush hx hb dX0_add_9 (by decide +kernel) ?_
    exact W.iret (v := iI (-4)) hx hb hr (fun t ht9 hW => ⟨(-4), (I, F), rfl, (by first | exact Or.inl ⟨by omega, by omega, rfl⟩ | exact Or.inr ⟨by omega, by omega, rfl⟩), by rw [ht9]; exact hP, hS.F ht9⟩) hS.2.2 dX0_add_11
set_option maxHeartbeats 4000000 in
set_option maxRecDepth 100000 in
theorem c_X4_add (l : Launch) (D : va_G) (a : Nat → Nat) (k : Nat → ClassId) (I : Nat → Int) (F : Nat → Int → Int) (hdis : dis 24 a)  (h8 : 0 ≤ I 8 ∧ I 8 ≤ 60) (h7 : 0 ≤ I 7 ∧ I 7 ≤ 12) (h5 : I 5 = 0 ∨ I 5 = 1) : mu_M (S := (Nat → Int) × (Nat → Int → Int)) l yX4_add cX4_add 3 (some .int) 0 [.ref (a 2), .ref (a 1)] D (xT k) (xW a k I F) (fun u => xW a k u.1 u.2) (fun r u => (60 ≤ I 8 ∧ r = -4 ∧ u = (I, F)) ∨ (I 8 < 60 ∧ r = I 8 ∧ ∃ g : Int → Int, u = (uI I 8 (I 8 + 1), uF (uF (uF (uF (uF (uF F 9 (uA (F 9) (I 8) (I 3))) 10 (uA (F 10) (I 8) (I 4))) 11 (uA (F 11) (I 8) (I 5))) 12 (uA (F 12) (I 8) (I 6))) 13 (uA (F 13) (I 8) (I 7))) 14 g) ∧ (∀ j, 0 ≤ j → j < I 7 → g (I 8 * 12 + j) = F 8 j) ∧ ∀ q, q < I 8 * 12 → g q = F 14 q)) (adr 24 a) := by
  refine me_start (by decide) (Nat.le_of_ble_eq_true rfl) rfl ?_
  intro p e s m below meth c hx hb hml hr hown hlocks hnm hG hK hP ls hl
  have hown : s.vm.findClass RX4 = some m.cls := hown
  have hl : lv_has ls 3 [(0, .ref (a 2)), (1, .ref (a 1))] := hl
  have hS : va_S (adr 24 a) s.heap s.heap [] := va_S.rf
  refine lv_aload_n hx hb dX4_add_0 rfl (lv_at hl 0 rfl) ?_
  refine va_get (D := D) (cl := vwC) (ci := 5) (v := .int (iI (I 8))) (C := RX4) (T := TX4) (N := 7) hx hb hG.use i_X4 hown hK hP 2 rfl rfl 0 (by decide) (hG.use _ lf_X4_9) (fun _ h9 => h9) rfl dX4_add_1 ?_
  refine xr_bipush hx hb dX4_add_4 (by decide +kernel) ?_
  refine xr_icmp_lt (a := I 8) (b := 60) (tgt := 12) hx hb dX4_add_6 (by decide) (fun c_1 => ?_) (fun c_1 => ?_) (by omega) (by omega)
  · skip
    -- 6 t
    refine lv_aload_n hx hb dX4_add_12 rfl (lv_at hl 0 rfl) ?_
    refine va_get (D := D) (cl := vwC) (ci := 5) (v := .ref (a 9)) (C := RX4) (T := TX4) (N := 7) hx hb hG.use i_X4 hown hK hP 2 rfl rfl 1 (by decide) (hG.use _ lf_X4_15) (fun _ h9 => h9) rfl dX4_add_13 ?_
    refine lv_aload_n hx hb dX4_add_16 rfl (lv_at hl 0 rfl) ?_
    refine va_get (D := D) (cl := vwC) (ci := 5) (v := .int (iI (I 8))) (C := RX4) (T := TX4) (N := 7) hx hb hG.use i_X4 hown hK hP 2 rfl rfl 0 (by decide) (hG.use _ lf_X4_9) (fun _ h9 => h9) rfl dX4_add_17 ?_
    refine lv_aload_n hx hb dX4_add_20 rfl (lv_at hl 1 rfl) ?_
    refine va_getN (host := "FormatRows") (D := D) (cl := vwC) (ci := 4) (v := .int (iI (I 3))) (C := RX3) (T := TX3) (N := 9) hx hb hG.use i_X3 hown hK hP 1 rfl rfl 3 (by decide) (hG.use _ lf_X4_35) (fun _ h9 => h9) rfl dX4_add_21 ?_
    refine xr_iast (f := F 9) (z := I 8) (v := I 3) hx hb hK hP (xD hdis) hS 9 3 rfl rfl (by omega) (by omega) (by decide) dX4_add_24 (fun H locs hP hS => ?_)
    have hP : va_P D vwC (xW a k I (uF F 9 (uA (F 9) (I 8) (I 3)))) H := hP
    refine lv_aload_n hx hb dX4_add_25 rfl (lv_at hl 0 rfl) ?_
    refine va_get (D := D) (cl := vwC) (ci := 5) (v := .ref (a 10)) (C := RX4) (T := TX4) (N := 7) hx hb hG.use i_X4 hown hK hP 2 rfl rfl 2 (by decide) (hG.use _ lf_X4_19) (fun _ h9 => h9) rfl dX4_add_26 ?_
    refine lv_aload_n hx hb dX4_add_29 rfl (lv_at hl 0 rfl) ?_
    refine va_get (D := D) (cl := vwC) (ci := 5) (v := .int (iI (I 8))) (C := RX4) (T := TX4) (N := 7) hx hb hG.use i_X4 hown hK hP 2 rfl rfl 0 (by decide) (hG.use _ lf_X4_9) (fun _ h9 => h9) rfl dX4_add_30 ?_
    refine lv_aload_n hx hb dX4_add_33 rfl (lv_at hl 1 rfl) ?_
    refine va_getN (host := "FormatRows") (D := D) (cl := vwC) (ci := 4) (v := .int (iI (I 4))) (C := RX3) (T := TX3) (N := 9) hx hb hG.use i_X3 hown hK hP 1 rfl rfl 4 (by decide) (hG.use _ lf_X4_40) (fun _ h9 => h9) rfl dX4_add_34 ?_
    refine xr_iast (f := F 10) (z := I 8) (v := I 4) hx hb hK hP (xD hdis) hS 10 4 rfl rfl (by omega) (by omega) (by decide) dX4_add_37 (fun H locs hP hS => ?_)
    have hP : va_P D vwC (xW a k I (uF (uF F 9 (uA (F 9) (I 8) (I 3))) 10 (uA (F 10) (I 8) (I 4)))) H := hP
    refine lv_aload_n hx hb dX4_add_38 rfl (lv_at hl 0 rfl) ?_
    refine va_get (D := D) (cl := vwC) (ci := 5) (v := .ref (a 11)) (C := RX4) (T := TX4) (N := 7) hx hb hG.use i_X4 hown hK hP 2 rfl rfl 3 (by decide) (hG.use _ lf_X4_22) (fun _ h9 => h9) rfl dX4_add_39 ?_
    refine lv_aload_n hx hb dX4_add_42 rfl (lv_at hl 0 rfl) ?_
    refine va_get (D := D) (cl := vwC) (ci := 5) (v := .int (iI (I 8))) (C := RX4) (T := TX4) (N := 7) hx hb hG.use i_X4 hown hK hP 2 rfl rfl 0 (by decide) (hG.use _ lf_X4_9) (fun _ h9 => h9) rfl dX4_add_43 ?_
    refine lv_aload_n hx hb dX4_add_46 rfl (lv_at hl 1 rfl) ?_
    refine va_getN (host := "FormatRows") (D := D) (cl := vwC) (ci := 4) (v := .int (iI (I 5))) (C := RX3) (T := TX3) (N := 9) hx hb hG.use i_X3 hown hK hP 1 rfl rfl 5 (by decide) (hG.use _ lf_X4_43) (fun _ h9 => h9) rfl dX4_add_47 ?_
    refine xr_zast (f := F 11) (z := I 8) (v := I 5) hx hb hK hP (xD hdis) hS 11 5 rfl rfl (by omega) (by omega) (by decide) (by omega) dX4_add_50 (fun H locs hP hS => ?_)
    have hP : va_P D vwC (xW a k I (uF (uF (uF F 9 (uA (F 9) (I 8) (I 3))) 10 (uA (F 10) (I 8) (I 4))) 11 (uA (F 11) (I 8) (I 5)))) H := hP
    refine lv_aload_n hx hb dX4_add_51 rfl (lv_at hl 0 rfl) ?_
    refine va_get (D := D) (cl := vwC) (ci := 5) (v := .ref (a 12)) (C := RX4) (T := TX4) (N := 7) hx hb hG.use i_X4 hown hK hP 2 rfl rfl 4 (by decide) (hG.use _ lf_X4_26) (fun _ h9 => h9) rfl dX4_add_52 ?_
    refine lv_aload_n hx hb dX4_add_55 rfl (lv_at hl 0 rfl) ?_
    refine va_get (D := D) (cl := vwC) (ci := 5) (v := .int (iI (I 8))) (C := RX4) (T := TX4) (N := 7) hx hb hG.use i_X4 hown hK hP 2 rfl rfl 0 (by decide) (hG.use _ lf_X4_9) (fun _ h9 => h9) rfl dX4_add_56 ?_
    refine lv_aload_n hx hb dX4_add_59 rfl (lv_at hl 1 rfl) ?_
    refine va_getN (host := "FormatRows") (D := D) (cl := vwC) (ci := 4) (v := .int (iI (I 6))) (C := RX3) (T := TX3) (N := 9) hx hb hG.use i_X3 hown hK hP 1 rfl rfl 6 (by decide) (hG.use _ lf_X4_46) (fun _ h9 => h9) rfl dX4_add_60 ?_
    refine xr_iast (f := F 12) (z := I 8) (v := I 6) hx hb hK hP (xD hdis) hS 12 6 rfl rfl (by omega) (by omega) (by decide) dX4_add_63 (fun H locs hP hS => ?_)
    have hP : va_P D vwC (xW a k I (uF (uF (uF (uF F 9 (uA (F 9) (I 8) (I 3))) 10 (uA (F 10) (I 8) (I 4))) 11 (uA (F 11) (I 8) (I 5))) 12 (uA (F 12) (I 8) (I 6)))) H := hP
    refine lv_aload_n hx hb dX4_add_64 rfl (lv_at hl 0 rfl) ?_
    refine va_get (D := D) (cl := vwC) (ci := 5) (v := .ref (a 13)) (C := RX4) (T := TX4) (N := 7) hx hb hG.use i_X4 hown hK hP 2 rfl rfl 5 (by decide) (hG.use _ lf_X4_29) (fun _ h9 => h9) rfl dX4_add_65 ?_
    refine lv_aload_n hx hb dX4_add_68 rfl (lv_at hl 0 rfl) ?_
    refine va_get (D := D) (cl := vwC) (ci := 5) (v := .int (iI (I 8))) (C := RX4) (T := TX4) (N := 7) hx hb hG.use i_X4 hown hK hP 2 rfl rfl 0 (by decide) (hG.use _ lf_X4_9) (fun _ h9 => h9) rfl dX4_add_69 ?_
    refine lv_aload_n hx hb dX4_add_72 rfl (lv_at hl 1 rfl) ?_
    refine va_getN (host := "FormatRows") (D := D) (cl := vwC) (ci := 4) (v := .int (iI (I 7))) (C := RX3) (T := TX3) (N := 9) hx hb hG.use i_X3 hown hK hP 1 rfl rfl 8 (by decide) (hG.use _ lf_X4_49) (fun _ h9 => h9) rfl dX4_add_73 ?_
    refine xr_iast (f := F 13) (z := I 8) (v := I 7) hx hb hK hP (xD hdis) hS 13 7 rfl rfl (by omega) (by omega) (by decide) dX4_add_76 (fun H locs hP hS => ?_)
    have hP : va_P D vwC (xW a k I (uF (uF (uF (uF (uF F 9 (uA (F 9) (I 8) (I 3))) 10 (uA (F 10) (I 8) (I 4))) 11 (uA (F 11) (I 8) (I 5))) 12 (uA (F 12) (I 8) (I 6))) 13 (uA (F 13) (I 8) (I 7)))) H := hP
    refine xr_iconst hx hb dX4_add_77 ?_
    refine lv_istore_n (lv' := [(2, .int (iI 0)), (0, .ref (a 2)), (1, .ref (a 1))]) hx hb dX4_add_78 rfl hl (by decide) rfl (fun ls hl => ?_)
    have lp_79 : ∀ (nz : Nat) (ki : Int) (g : Int → Int) (H : Heap) (locs : List Loc), (I 7 - ki).toNat < nz → (0 ≤ ki ∧ ki ≤ I 7) → (∀ j, 0 ≤ j → j < ki → g (I 8 * 12 + j) = F 8 j) → (∀ q, q < I 8 * 12 → g q = F 14 q) → va_P D vwC (xW a k I (uF (uF (uF (uF (uF (uF F 9 (uA (F 9) (I 8) (I 3))) 10 (uA (F 10) (I 8) (I 4))) 11 (uA (F 11) (I 8) (I 5))) 12 (uA (F 12) (I 8) (I 6))) 13 (uA (F 13) (I 8) (I 7))) 14 g)) H → va_S (adr 24 a) s.heap H locs → ∀ ls : Array Slot, lv_has ls 3 [(2, .int (iI ki)), (0, .ref (a 2)), (1, .ref (a 1))] → W p l e (rmd 0) s m ([.ref (a 2), .ref (a 1)] : List Value).toArray below meth c H locs 0 0 (MQ below (mu_Q (S := (Nat → Int) × (Nat → Int → Int)) (fun u => xW a k u.1 u.2) D (fun r u => (60 ≤ I 8 ∧ r = -4 ∧ u = (I, F)) ∨ (I 8 < 60 ∧ r = I 8 ∧ ∃ g : Int → Int, u = (uI I 8 (I 8 + 1), uF (uF (uF (uF (uF (uF F 9 (uA (F 9) (I 8) (I 3))) 10 (uA (F 10) (I 8) (I 4))) 11 (uA (F 11) (I 8) (I 5))) 12 (uA (F 12) (I 8) (I 6))) 13 (uA (F 13) (I 8) (I 7))) 14 g) ∧ (∀ j, 0 ≤ j → j < I 7 → g (I 8 * 12 + j) = F 8 j) ∧ ∀ q, q < I 8 * 12 → g q = F 14 q)) (adr 24 a)) ([.ref (a 2), .ref (a 1)] : List Value).toArray s 0 0 (adr 24 a)) (F0 m 79 ls []) := by
      clear hl
      intro nz
      induction nz with
      | zero =>
        intro ki g H locs hn
        exact absurd hn (Nat.not_lt_zero _)
      | succ n_79 ih_79 =>
        intro ki g H locs hn_79 i0 i1 i2 hP hS ls hl
        refine lv_iload_n hx hb dX4_add_79 rfl (lv_at hl 0 rfl) ?_
        refine lv_aload_n hx hb dX4_add_80 rfl (lv_at hl 2 rfl) ?_
        refine va_getN (host := "FormatRows") (D := D) (cl := vwC) (ci := 4) (v := .int (iI (I 7))) (C := RX3) (T := TX3) (N := 9) hx hb hG.use i_X3 hown hK hP 1 rfl rfl 8 (by decide) (hG.use _ lf_X4_49) (fun _ h9 => h9) rfl dX4_add_81 ?_
        refine xr_icmp_ge (a := ki) (b := I 7) (tgt := 113) hx hb dX4_add_84 (by decide) (fun c_2 => ?_) (fun c_2 => ?_) (by omega) (by omega)
        · skip
          -- 84 t
          refine lv_aload_n hx hb dX4_add_113 rfl (lv_at hl 1 rfl) ?_
          refine lv_dup hx hb dX4_add_114 rfl ?_
          refine va_get (D := D) (cl := vwC) (ci := 5) (v := .int (iI (I 8))) (C := RX4) (T := TX4) (N := 7) hx hb hG.use i_X4 hown hK hP 2 rfl rfl 0 (by decide) (hG.use _ lf_X4_9) (fun _ h9 => h9) rfl dX4_add_115 ?_
          refine xr_iconst hx hb dX4_add_118 ?_
          refine xr_iadd (a := I 8) (b := 1) hx hb dX4_add_119 ?_
          refine va_put (D := D) (cl := vwC) (ci := 5) (v := .int (iI ((I 8) + 1))) (ty := .int) (C := RX4) (T := TX4) (N := 7) hx hb hG.use i_X4 tyX4 tyX4_ok nmX4 hown hK hP (xD hdis) hS 2 rfl rfl 0 (by decide) (hG.use _ lf_X4_9) (fun _ h9 => h9) rfl (by decide +kernel) rfl rfl (Nat.le_of_ble_eq_true rfl) dX4_add_120 (fun H locs hP _ hS => ?_)
          have hP : va_P D vwC (xW a k (uI I 8 ((I 8) + 1)) (uF (uF (uF (uF (uF (uF F 9 (uA (F 9) (I 8) (I 3))) 10 (uA (F 10) (I 8) (I 4))) 11 (uA (F 11) (I 8) (I 5))) 12 (uA (F 12) (I 8) (I 6))) 13 (uA (F 13) (I 8) (I 7))) 14 g)) H := hP
          refine lv_aload_n hx hb dX4_add_123 rfl (lv_at hl 1 rfl) ?_
          refine va_get (D := D) (cl := vwC) (ci := 5) (v := .int (iI ((I 8) + 1))) (C := RX4) (T := TX4) (N := 7) hx hb hG.use i_X4 hown hK hP 2 rfl rfl 0 (by decide) (hG.use _ lf_X4_9) (fun _ h9 => h9) rfl dX4_add_124 ?_
          refine xr_iconst hx hb dX4_add_127 ?_
          refine xr_isub (a := (I 8) + 1) (b := 1) hx hb dX4_add_128 ?_
          exact W.iret (v := iI (((I 8) + 1) - 1)) hx hb hr (fun t ht9 hW => ⟨((I 8) + 1) - 1, (uI I 8 ((I 8) + 1), uF (uF (uF (uF (uF (uF F 9 (uA (F 9) (I 8) (I 3))) 10 (uA (F 10) (I 8) (I 4))) 11 (uA (F 11) (I 8) (I 5))) 12 (uA (F 12) (I 8) (I 6))) 13 (uA (F 13) (I 8) (I 7))) 14 g), rfl, (by exact Or.inr ⟨by omega, by omega, g, rfl, fun j j0 j1 => i1 j j0 (by omega), i2⟩), by rw [ht9]; exact hP, hS.F ht9⟩) hS.2.2 dX4_add_129
        · skip
          -- 84 f
          refine lv_aload_n hx hb dX4_add_87 rfl (lv_at hl 1 rfl) ?_
          refine va_get (D := D) (cl := vwC) (ci := 5) (v := .ref (a 14)) (C := RX4) (T := TX4) (N := 7) hx hb hG.use i_X4 hown hK hP 2 rfl rfl 6 (by decide) (hG.use _ lf_X4_32) (fun _ h9 => h9) rfl dX4_add_88 ?_
          refine lv_aload_n hx hb dX4_add_91 rfl (lv_at hl 1 rfl) ?_
          refine va_get (D := D) (cl := vwC) (ci := 5) (v := .int (iI (I 8))) (C := RX4) (T := TX4) (N := 7) hx hb hG.use i_X4 hown hK hP 2 rfl rfl 0 (by decide) (hG.use _ lf_X4_9) (fun _ h9 => h9) rfl dX4_add_92 ?_
          refine xr_bipush hx hb dX4_add_95 (by decide +kernel) ?_
          refine xr_imul (a := I 8) (b := 12) hx hb dX4_add_97 ?_
          refine lv_iload_n hx hb dX4_add_98 rfl (lv_at hl 0 rfl) ?_
          refine xr_iadd (a := (I 8) * 12) (b := ki) hx hb dX4_add_99 ?_
          refine lv_aload_n hx hb dX4_add_100 rfl (lv_at hl 2 rfl) ?_
          refine va_getN (host := "FormatRows") (D := D) (cl := vwC) (ci := 4) (v := .ref (a 8)) (C := RX3) (T := TX3) (N := 9) hx hb hG.use i_X3 hown hK hP 1 rfl rfl 7 (by decide) (hG.use _ lf_X4_52) (fun _ h9 => h9) rfl dX4_add_101 ?_
          refine lv_iload_n hx hb dX4_add_104 rfl (lv_at hl 0 rfl) ?_
          refine xr_iald (f := F 8) (z := ki) hx hb hK hP 8 2 rfl rfl (by omega) (by omega) (by decide) dX4_add_105 ?_
          refine xr_iast (f := g) (z := ((I 8) * 12) + ki) (v := (F 8) ki) hx hb hK hP (xD hdis) hS 14 8 rfl rfl (by omega) (by omega) (by decide) dX4_add_106 (fun H locs hP hS => ?_)
          have hP : va_P D vwC (xW a k I (uF (uF (uF (uF (uF (uF (uF F 9 (uA (F 9) (I 8) (I 3))) 10 (uA (F 10) (I 8) (I 4))) 11 (uA (F 11) (I 8) (I 5))) 12 (uA (F 12) (I 8) (I 6))) 13 (uA (F 13) (I 8) (I 7))) 14 g) 14 (uA g (((I 8) * 12) + ki) ((F 8) ki)))) H := hP
          refine xr_iinc (z := ki) (lv' := [(2, .int (iI (ki + 1))), (0, .ref (a 2)), (1, .ref (a 1))]) hx hb dX4_add_107 hl (k := 0) rfl (by decide) rfl (fun ls hl => ?_)
          refine lv_goto (tgt := 79) hx hb dX4_add_110 (by decide) ?_
          exact ih_79 (ki + 1) (uA g (((I 8) * 12) + ki) ((F 8) ki)) _ _ (by omega) (by omega) (by intro j j0 j1; by_cases e : j = ki; (rw [e, uA_s]); rw [uA_n (by omega)]; exact i1 j j0 (by omega)) (by intro q q1; rw [uA_n (by omega)]; exact i2 q q1) hP hS ls (lv_sub hl [0, 1, 2] rfl)
    exact lp_79 _ 0 (F 14) _ _ (Nat.lt_succ_self _) (by omega) (by intro j j0 j1; omega) (by intro q q1; rfl) hP hS ls (lv_sub hl [0, 1, 2] rfl)
  · skip
    -- 6 f
    refine xr_bipush hx hb dX4_add_9 (by decide +kernel) ?_
    exact W.iret (v := iI (-4)) hx hb hr (fun t ht9 hW => ⟨(-4), (I, F), rfl, (by exact Or.inl ⟨by omega, by omega, rfl⟩), by rw [ht9]; exact hP, hS.F ht9⟩) hS.2.2 dX4_add_11
set_option maxHeartbeats 4000000 in
set_option maxRecDepth 100000 in
theorem c_X5_sign (l : Launch) (D : va_G) (a : Nat → Nat) (k : Nat → ClassId) (I : Nat → Int) (F : Nat → Int → Int) (hdis : dis 24 a) (p0 : Int) (hv : xInv I F) : mv_M (S := (Nat → Int) × (Nat → Int → Int)) l yX5_sign cX5_sign 2 (none : Option Jvm.ClassFile.FieldType) 1 [.ref (a 0), .int (iI p0)] D (xT k) (xW a k I F) (fun u => xW a k u.1 u.2) (fun u => (60 ≤ I 1 ∧ u = (I, F)) ∨ (I 1 < 60 ∧ u = (uI I 1 (I 1 + 1), uF F 7 (uA (F 7) (I 1) (p0 % 256))))) (adr 24 a) := by
  refine me_start (by decide) (Nat.le_of_ble_eq_true rfl) rfl ?_
  intro p e s m below meth c hx hb hml hr hown hlocks hnm hG hK hP ls hl
  have hown : s.vm.findClass RX5 = some m.cls := hown
  have hl : lv_has ls 2 [(0, .ref (a 0)), (1, .int (iI p0))] := hl
  have hS : va_S (adr 24 a) s.heap s.heap [] := va_S.rf
  have f_n := hv.n
  refine lv_aload_n hx hb dX5_sign_0 rfl (lv_at hl 0 rfl) ?_
  refine va_get (D := D) (cl := vwC) (ci := 6) (v := .ref (a 1)) (C := RX5) (T := TX5) (N := 7) hx hb hG.use i_X5 hown hK hP 0 rfl rfl 0 (by decide) (hG.use _ lf_X5_10) (fun _ h9 => h9) rfl dX5_sign_1 ?_
  refine lv_iload_n hx hb dX5_sign_4 rfl (lv_at hl 1 rfl) ?_
  refine xr_sipush hx hb dX5_sign_5 (by decide +kernel) ?_
  refine xr_and255 (z := p0) hx hb dX5_sign_8 ?_
  refine mv_call (g_runV (rest := []) hx hb hml hown hG hK hP mV_X3_add (c_X3_add l D a k I F hdis (p0 % 256) (by omega)) lk_X5_58 (va_recv hK hP (ci := 4) (q0 := 1) rfl rfl) rfl hl.1 rfl (Nat.le_of_ble_eq_true rfl) ⟨(Nat.le_of_ble_eq_true rfl), (Nat.le_of_ble_eq_true rfl)⟩ ⟨(Nat.le_of_ble_eq_true rfl), (Nat.le_of_ble_eq_true rfl)⟩ dX5_sign_9) hS (fun _ h => h) (fun u H locs q_2 hP _ _ hS => ?_)
  obtain ⟨I1, F1⟩ := u
  have hP : va_P D vwC (xW a k I1 F1) H := hP
  try dsimp only at q_2
  exact W.vret hx hb hr (fun t ht9 hW => ⟨(I1, F1), rfl, (by assumption), by rw [ht9]; exact hP, hS.F ht9⟩) hS.2.2 dX5_sign_12
set_option maxHeartbeats 4000000 in
set_option maxRecDepth 100000 in
theorem c_X5_octet (l : Launch) (D : va_G) (a : Nat → Nat) (k : Nat → ClassId) (I : Nat → Int) (F : Nat → Int → Int) (hdis : dis 24 a) (p0 p1 : Int) (hv : xInv I F) (b0 : -2147483648 ≤ p0 ∧ p0 < 2147483648) (b1 : -2147483648 ≤ p1 ∧ p1 < 2147483648) : mu_M (S := (Nat → Int) × (Nat → Int → Int)) l yX5_octet cX5_octet 3 (some .int) 1 [.ref (a 0), .int (iI p0), .int (iI p1)] D (xT k) (xW a k I F) (fun u => xW a k u.1 u.2) (fun r u => (¬ (0 ≤ p0 ∧ p0 < I 9) ∧ r = -1 ∧ u = (I, F)) ∨ ((0 ≤ p0 ∧ p0 < I 9) ∧ ((60 ≤ F 15 p0 ∧ r = -4 ∧ u = (I, F)) ∨ (F 15 p0 < 60 ∧ r = F 15 p0 + 1 ∧ u = (I, uF (uF F 16 (uA (F 16) (p0 * 60 + F 15 p0) (p1 % 256))) 15 (uA (F 15) p0 (F 15 p0 + 1))))))) (adr 24 a) := by
  refine me_start (by decide) (Nat.le_of_ble_eq_true rfl) rfl ?_
  intro p e s m below meth c hx hb hml hr hown hlocks hnm hG hK hP ls hl
  have hown : s.vm.findClass RX5 = some m.cls := hown
  have hl : lv_has ls 3 [(0, .ref (a 0)), (1, .int (iI p0)), (2, .int (iI p1))] := hl
  have hS : va_S (adr 24 a) s.heap s.heap [] := va_S.rf
  have f_n := hv.n
  refine lv_aload_n hx hb dX5_octet_0 rfl (lv_at hl 0 rfl) ?_
  refine va_get (D := D) (cl := vwC) (ci := 6) (v := .ref (a 3)) (C := RX5) (T := TX5) (N := 7) hx hb hG.use i_X5 hown hK hP 0 rfl rfl 2 (by decide) (hG.use _ lf_X5_26) (fun _ h9 => h9) rfl dX5_octet_1 ?_
  refine lv_iload_n hx hb dX5_octet_4 rfl (lv_at hl 1 rfl) ?_
  refine ro_call (g_runV (rest := []) hx hb hml hown hG hK hP mV_X1_has (c_X1_has l D a k I F p0 (by omega) (by omega)) lk_X5_75 (va_recv hK hP (ci := 2) (q0 := 3) rfl rfl) rfl hl.1 rfl (Nat.le_of_ble_eq_true rfl) ⟨(Nat.le_of_ble_eq_true rfl), (Nat.le_of_ble_eq_true rfl)⟩ ⟨(Nat.le_of_ble_eq_true rfl), (Nat.le_of_ble_eq_true rfl)⟩ dX5_octet_5) (fun r_1 q_2 => ?_)
  refine xr_if_neZ (tgt := 13) hx hb q_2 dX5_octet_8 (by decide) (fun c_3 => ?_) (fun c_3 => ?_)
  · skip
    -- 8 t
    have f_fl := hv.fl p0 (by omega) (by omega)
    refine lv_aload_n hx hb dX5_octet_13 rfl (lv_at hl 0 rfl) ?_
    refine va_get (D := D) (cl := vwC) (ci := 6) (v := .ref (a 3)) (C := RX5) (T := TX5) (N := 7) hx hb hG.use i_X5 hown hK hP 0 rfl rfl 2 (by decide) (hG.use _ lf_X5_26) (fun _ h9 => h9) rfl dX5_octet_14 ?_
    refine lv_iload_n hx hb dX5_octet_17 rfl (lv_at hl 1 rfl) ?_
    refine lv_iload_n hx hb dX5_octet_18 rfl (lv_at hl 2 rfl) ?_
    refine xr_sipush hx hb dX5_octet_19 (by decide +kernel) ?_
    refine xr_and255 (z := p1) hx hb dX5_octet_22 ?_
    refine mu_call (g_runV (rest := []) hx hb hml hown hG hK hP mV_X1_addByte (c_X1_addByte l D a k I F hdis p0 (p1 % 256) (by omega) (by omega)) lk_X5_79 (va_recv hK hP (ci := 2) (q0 := 3) rfl rfl) rfl hl.1 rfl (Nat.le_of_ble_eq_true rfl) ⟨(Nat.le_of_ble_eq_true rfl), (Nat.le_of_ble_eq_true rfl)⟩ ⟨(Nat.le_of_ble_eq_true rfl), (Nat.le_of_ble_eq_true rfl)⟩ dX5_octet_23) hS (fun _ h => h) (fun r_4 u H locs q_5 hP _ _ hS => ?_)
    obtain ⟨I1, F1⟩ := u
    have hP : va_P D vwC (xW a k I1 F1) H := hP
    try dsimp only at q_5
    exact W.iret (v := iI r_4) hx hb hr (fun t ht9 hW => ⟨r_4, (I1, F1), rfl, (by right; exact ⟨by omega, by assumption⟩), by rw [ht9]; exact hP, hS.F ht9⟩) hS.2.2 dX5_octet_26
  · skip
    -- 8 f
    refine xr_iconst hx hb dX5_octet_11 ?_
    exact W.iret (v := iI (-1)) hx hb hr (fun t ht9 hW => ⟨(-1), (I, F), rfl, (by left; exact ⟨by omega, rfl, rfl⟩), by rw [ht9]; exact hP, hS.F ht9⟩) hS.2.2 dX5_octet_12
set_option maxHeartbeats 4000000 in
set_option maxRecDepth 100000 in
theorem c_X5_file (l : Launch) (D : va_G) (a : Nat → Nat) (k : Nat → ClassId) (I : Nat → Int) (F : Nat → Int → Int) (hdis : dis 24 a)  (hv : xInv I F) : mu_M (S := (Nat → Int) × (Nat → Int → Int)) l yX5_file cX5_file 1 (some .int) 1 [.ref (a 0)] D (xT k) (xW a k I F) (fun u => xW a k u.1 u.2) (fun r u => (40 ≤ I 9 ∧ r = -4 ∧ u = (I, F)) ∨ (I 9 < 40 ∧ r = I 9 ∧ u = (uI I 9 (I 9 + 1), uF F 18 (uA (F 18) (I 9) (-1))))) (adr 24 a) := by
  refine me_start (by decide) (Nat.le_of_ble_eq_true rfl) rfl ?_
  intro p e s m below meth c hx hb hml hr hown hlocks hnm hG hK hP ls hl
  have hown : s.vm.findClass RX5 = some m.cls := hown
  have hl : lv_has ls 1 [(0, .ref (a 0))] := hl
  have hS : va_S (adr 24 a) s.heap s.heap [] := va_S.rf
  have f_n := hv.n
  refine lv_aload_n hx hb dX5_file_0 rfl (lv_at hl 0 rfl) ?_
  refine va_get (D := D) (cl := vwC) (ci := 6) (v := .ref (a 3)) (C := RX5) (T := TX5) (N := 7) hx hb hG.use i_X5 hown hK hP 0 rfl rfl 2 (by decide) (hG.use _ lf_X5_26) (fun _ h9 => h9) rfl dX5_file_1 ?_
  refine mu_call (g_runV (rest := []) hx hb hml hown hG hK hP mV_X1_add (c_X1_add l D a k I F hdis  (by omega)) lk_X5_83 (va_recv hK hP (ci := 2) (q0 := 3) rfl rfl) rfl hl.1 rfl (Nat.le_of_ble_eq_true rfl) ⟨(Nat.le_of_ble_eq_true rfl), (Nat.le_of_ble_eq_true rfl)⟩ ⟨(Nat.le_of_ble_eq_true rfl), (Nat.le_of_ble_eq_true rfl)⟩ dX5_file_4) hS (fun _ h => h) (fun r_1 u H locs q_2 hP _ _ hS => ?_)
  obtain ⟨I1, F1⟩ := u
  have hP : va_P D vwC (xW a k I1 F1) H := hP
  try dsimp only at q_2
  exact W.iret (v := iI r_1) hx hb hr (fun t ht9 hW => ⟨r_1, (I1, F1), rfl, (by assumption), by rw [ht9]; exact hP, hS.F ht9⟩) hS.2.2 dX5_file_7
set_option maxHeartbeats 4000000 in
set_option maxRecDepth 100000 in
theorem c_X5_member (l : Launch) (D : va_G) (a : Nat → Nat) (k : Nat → ClassId) (I : Nat → Int) (F : Nat → Int → Int) (hdis : dis 24 a) (p0 p1 : Int) (hv : xInv I F) (b0 : -2147483648 ≤ p0 ∧ p0 < 2147483648) (b1 : -2147483648 ≤ p1 ∧ p1 < 2147483648) : mu_M (S := (Nat → Int) × (Nat → Int → Int)) l yX5_member cX5_member 3 (some .int) 1 [.ref (a 0), .int (iI p0), .int (iI p1)] D (xT k) (xW a k I F) (fun u => xW a k u.1 u.2) (fun r u => (¬ ((0 ≤ p0 ∧ p0 < I 9) ∧ (0 ≤ p1 ∧ p1 < I 9)) ∧ r = -1 ∧ u = (I, F)) ∨ (((0 ≤ p0 ∧ p0 < I 9) ∧ (0 ≤ p1 ∧ p1 < I 9)) ∧ (((F 18 p0 ≠ -1 ∨ (∃ n : Nat, n < 40 ∧ up (F 18) p1 n = p0)) ∧ r = -3 ∧ u = (I, F)) ∨ ((F 18 p0 = -1 ∧ ¬ (∃ n : Nat, n < 40 ∧ up (F 18) p1 n = p0)) ∧ ((8 ≤ F 17 p1 ∧ r = -4 ∧ u = (I, F)) ∨ (F 17 p1 < 8 ∧ r = F 17 p1 + 1 ∧ u = (I, uF (uF F 18 (uA (F 18) p0 p1)) 17 (uA (F 17) p1 (F 17 p1 + 1))))))))) (adr 24 a) := by
  refine me_start (by decide) (Nat.le_of_ble_eq_true rfl) rfl ?_
  intro p e s m below meth c hx hb hml hr hown hlocks hnm hG hK hP ls hl
  have hown : s.vm.findClass RX5 = some m.cls := hown
  have hl : lv_has ls 3 [(0, .ref (a 0)), (1, .int (iI p0)), (2, .int (iI p1))] := hl
  have hS : va_S (adr 24 a) s.heap s.heap [] := va_S.rf
  have f_n := hv.n
  refine lv_aload_n hx hb dX5_member_0 rfl (lv_at hl 0 rfl) ?_
  refine va_get (D := D) (cl := vwC) (ci := 6) (v := .ref (a 3)) (C := RX5) (T := TX5) (N := 7) hx hb hG.use i_X5 hown hK hP 0 rfl rfl 2 (by decide) (hG.use _ lf_X5_26) (fun _ h9 => h9) rfl dX5_member_1 ?_
  refine lv_iload_n hx hb dX5_member_4 rfl (lv_at hl 1 rfl) ?_
  refine ro_call (g_runV (rest := []) hx hb hml hown hG hK hP mV_X1_has (c_X1_has l D a k I F p0 (by omega) (by omega)) lk_X5_75 (va_recv hK hP (ci := 2) (q0 := 3) rfl rfl) rfl hl.1 rfl (Nat.le_of_ble_eq_true rfl) ⟨(Nat.le_of_ble_eq_true rfl), (Nat.le_of_ble_eq_true rfl)⟩ ⟨(Nat.le_of_ble_eq_true rfl), (Nat.le_of_ble_eq_true rfl)⟩ dX5_member_5) (fun r_1 q_2 => ?_)
  refine xr_if_eqZ (tgt := 22) hx hb q_2 dX5_member_8 (by decide) (fun c_3 => ?_) (fun c_3 => ?_)
  · skip
    -- 8 t
    refine xr_iconst hx hb dX5_member_22 ?_
    exact W.iret (v := iI (-1)) hx hb hr (fun t ht9 hW => ⟨(-1), (I, F), rfl, (by left; exact ⟨by omega, rfl, rfl⟩), by rw [ht9]; exact hP, hS.F ht9⟩) hS.2.2 dX5_member_23
  · skip
    -- 8 f
    refine lv_aload_n hx hb dX5_member_11 rfl (lv_at hl 0 rfl) ?_
    refine va_get (D := D) (cl := vwC) (ci := 6) (v := .ref (a 3)) (C := RX5) (T := TX5) (N := 7) hx hb hG.use i_X5 hown hK hP 0 rfl rfl 2 (by decide) (hG.use _ lf_X5_26) (fun _ h9 => h9) rfl dX5_member_12 ?_
    refine lv_iload_n hx hb dX5_member_15 rfl (lv_at hl 2 rfl) ?_
    refine ro_call (g_runV (rest := []) hx hb hml hown hG hK hP mV_X1_has (c_X1_has l D a k I F p1 (by omega) (by omega)) lk_X5_75 (va_recv hK hP (ci := 2) (q0 := 3) rfl rfl) rfl hl.1 rfl (Nat.le_of_ble_eq_true rfl) ⟨(Nat.le_of_ble_eq_true rfl), (Nat.le_of_ble_eq_true rfl)⟩ ⟨(Nat.le_of_ble_eq_true rfl), (Nat.le_of_ble_eq_true rfl)⟩ dX5_member_16) (fun r_4 q_5 => ?_)
    refine xr_if_neZ (tgt := 24) hx hb q_5 dX5_member_19 (by decide) (fun c_6 => ?_) (fun c_6 => ?_)
    · skip
      -- 19 t
      have f_fl := hv.fl p1 (by omega) (by omega)
      have f_pr := hv.pr p0 (by omega) (by omega)
      refine lv_aload_n hx hb dX5_member_24 rfl (lv_at hl 0 rfl) ?_
      refine va_get (D := D) (cl := vwC) (ci := 6) (v := .ref (a 3)) (C := RX5) (T := TX5) (N := 7) hx hb hG.use i_X5 hown hK hP 0 rfl rfl 2 (by decide) (hG.use _ lf_X5_26) (fun _ h9 => h9) rfl dX5_member_25 ?_
      refine lv_iload_n hx hb dX5_member_28 rfl (lv_at hl 1 rfl) ?_
      refine ro_call (g_runV (rest := []) hx hb hml hown hG hK hP mV_X1_isMember (c_X1_isMember l D a k I F p0 (by omega) (by omega)) lk_X5_86 (va_recv hK hP (ci := 2) (q0 := 3) rfl rfl) rfl hl.1 rfl (Nat.le_of_ble_eq_true rfl) ⟨(Nat.le_of_ble_eq_true rfl), (Nat.le_of_ble_eq_true rfl)⟩ ⟨(Nat.le_of_ble_eq_true rfl), (Nat.le_of_ble_eq_true rfl)⟩ dX5_member_29) (fun r_7 q_8 => ?_)
      refine xr_if_neZ (tgt := 47) hx hb q_8 dX5_member_32 (by decide) (fun c_9 => ?_) (fun c_9 => ?_)
      · skip
        -- 32 t
        refine xr_bipush hx hb dX5_member_47 (by decide +kernel) ?_
        exact W.iret (v := iI (-3)) hx hb hr (fun t ht9 hW => ⟨(-3), (I, F), rfl, (by right; refine ⟨by omega, Or.inl ⟨?_, rfl, rfl⟩⟩; first | exact Or.inl (by assumption) | exact Or.inr (by assumption)), by rw [ht9]; exact hP, hS.F ht9⟩) hS.2.2 dX5_member_49
      · skip
        -- 32 f
        refine lv_aload_n hx hb dX5_member_35 rfl (lv_at hl 0 rfl) ?_
        refine va_get (D := D) (cl := vwC) (ci := 6) (v := .ref (a 3)) (C := RX5) (T := TX5) (N := 7) hx hb hG.use i_X5 hown hK hP 0 rfl rfl 2 (by decide) (hG.use _ lf_X5_26) (fun _ h9 => h9) rfl dX5_member_36 ?_
        refine lv_iload_n hx hb dX5_member_39 rfl (lv_at hl 2 rfl) ?_
        refine lv_iload_n hx hb dX5_member_40 rfl (lv_at hl 1 rfl) ?_
        refine ro_call (g_runV (rest := []) hx hb hml hown hG hK hP mV_X1_isInside (c_X1_isInside l D a k I F p1 p0 (by omega) (by omega) (by omega) hv.pr) lk_X5_89 (va_recv hK hP (ci := 2) (q0 := 3) rfl rfl) rfl hl.1 rfl (Nat.le_of_ble_eq_true rfl) ⟨(Nat.le_of_ble_eq_true rfl), (Nat.le_of_ble_eq_true rfl)⟩ ⟨(Nat.le_of_ble_eq_true rfl), (Nat.le_of_ble_eq_true rfl)⟩ dX5_member_41) (fun r_10 q_11 => ?_)
        refine xr_if_eqZ (tgt := 50) hx hb q_11 dX5_member_44 (by decide) (fun c_12 => ?_) (fun c_12 => ?_)
        · skip
          -- 44 t
          refine lv_aload_n hx hb dX5_member_50 rfl (lv_at hl 0 rfl) ?_
          refine va_get (D := D) (cl := vwC) (ci := 6) (v := .ref (a 3)) (C := RX5) (T := TX5) (N := 7) hx hb hG.use i_X5 hown hK hP 0 rfl rfl 2 (by decide) (hG.use _ lf_X5_26) (fun _ h9 => h9) rfl dX5_member_51 ?_
          refine lv_iload_n hx hb dX5_member_54 rfl (lv_at hl 1 rfl) ?_
          refine lv_iload_n hx hb dX5_member_55 rfl (lv_at hl 2 rfl) ?_
          refine mu_call (g_runV (rest := []) hx hb hml hown hG hK hP mV_X1_addMember (c_X1_addMember l D a k I F hdis p0 p1 (by omega) (by omega) (by omega)) lk_X5_93 (va_recv hK hP (ci := 2) (q0 := 3) rfl rfl) rfl hl.1 rfl (Nat.le_of_ble_eq_true rfl) ⟨(Nat.le_of_ble_eq_true rfl), (Nat.le_of_ble_eq_true rfl)⟩ ⟨(Nat.le_of_ble_eq_true rfl), (Nat.le_of_ble_eq_true rfl)⟩ dX5_member_56) hS (fun _ h => h) (fun r_13 u H locs q_14 hP _ _ hS => ?_)
          obtain ⟨I1, F1⟩ := u
          have hP : va_P D vwC (xW a k I1 F1) H := hP
          try dsimp only at q_14
          exact W.iret (v := iI r_13) hx hb hr (fun t ht9 hW => ⟨r_13, (I1, F1), rfl, (by right; exact ⟨by omega, Or.inr ⟨⟨by omega, by assumption⟩, by assumption⟩⟩), by rw [ht9]; exact hP, hS.F ht9⟩) hS.2.2 dX5_member_59
        · skip
          -- 44 f
          refine xr_bipush hx hb dX5_member_47 (by decide +kernel) ?_
          exact W.iret (v := iI (-3)) hx hb hr (fun t ht9 hW => ⟨(-3), (I, F), rfl, (by right; refine ⟨by omega, Or.inl ⟨?_, rfl, rfl⟩⟩; first | exact Or.inl (by assumption) | exact Or.inr (by assumption)), by rw [ht9]; exact hP, hS.F ht9⟩) hS.2.2 dX5_member_49
    · skip
      -- 19 f
      refine xr_iconst hx hb dX5_member_22 ?_
      exact W.iret (v := iI (-1)) hx hb hr (fun t ht9 hW => ⟨(-1), (I, F), rfl, (by left; exact ⟨by omega, rfl, rfl⟩), by rw [ht9]; exact hP, hS.F ht9⟩) hS.2.2 dX5_member_23
set_option maxHeartbeats 4000000 in
set_option maxRecDepth 100000 in
theorem c_X5_identify (l : Launch) (D : va_G) (a : Nat → Nat) (k : Nat → ClassId) (I : Nat → Int) (F : Nat → Int → Int) (hdis : dis 24 a) (p0 : Int) (hv : xInv I F) (b0 : -2147483648 ≤ p0 ∧ p0 < 2147483648) : mu_M (S := (Nat → Int) × (Nat → Int → Int)) l yX5_identify cX5_identify 2 (some .int) 3 [.ref (a 0), .int (iI p0)] D (xT k) (xW a k I F) (fun u => xW a k u.1 u.2) (fun r u => (¬ (0 ≤ p0 ∧ p0 < I 9) ∧ r = -2 ∧ u = (I, F)) ∨ ((0 ≤ p0 ∧ p0 < I 9) ∧ r = xfm I F p0 ∧ ∃ M : Int, bits M (xset F p0 (I 8)) ∧ u = (uI I 0 M, F))) (adr 24 a) := by
  refine me_start (by decide) (Nat.le_of_ble_eq_true rfl) rfl ?_
  intro p e s m below meth c hx hb hml hr hown hlocks hnm hG hK hP ls hl
  have hown : s.vm.findClass RX5 = some m.cls := hown
  have hl : lv_has ls 2 [(0, .ref (a 0)), (1, .int (iI p0))] := hl
  have hS : va_S (adr 24 a) s.heap s.heap [] := va_S.rf
  have f_n := hv.n
  refine lv_aload_n hx hb dX5_identify_0 rfl (lv_at hl 0 rfl) ?_
  refine va_get (D := D) (cl := vwC) (ci := 6) (v := .ref (a 3)) (C := RX5) (T := TX5) (N := 7) hx hb hG.use i_X5 hown hK hP 0 rfl rfl 2 (by decide) (hG.use _ lf_X5_26) (fun _ h9 => h9) rfl dX5_identify_1 ?_
  refine lv_iload_n hx hb dX5_identify_4 rfl (lv_at hl 1 rfl) ?_
  refine ro_call (g_runV (rest := []) hx hb hml hown hG hK hP mV_X1_has (c_X1_has l D a k I F p0 (by omega) (by omega)) lk_X5_75 (va_recv hK hP (ci := 2) (q0 := 3) rfl rfl) rfl hl.1 rfl (Nat.le_of_ble_eq_true rfl) ⟨(Nat.le_of_ble_eq_true rfl), (Nat.le_of_ble_eq_true rfl)⟩ ⟨(Nat.le_of_ble_eq_true rfl), (Nat.le_of_ble_eq_true rfl)⟩ dX5_identify_5) (fun r_1 q_2 => ?_)
  refine xr_if_neZ (tgt := 14) hx hb q_2 dX5_identify_8 (by decide) (fun c_3 => ?_) (fun c_3 => ?_)
  · skip
    -- 8 t
    refine lv_aload_n hx hb dX5_identify_14 rfl (lv_at hl 0 rfl) ?_
    refine lv_aload_n hx hb dX5_identify_15 rfl (lv_at hl 0 rfl) ?_
    refine lv_iload_n hx hb dX5_identify_16 rfl (lv_at hl 1 rfl) ?_
    refine lv_aload_n hx hb dX5_identify_17 rfl (lv_at hl 0 rfl) ?_
    refine va_get (D := D) (cl := vwC) (ci := 6) (v := .ref (a 2)) (C := RX5) (T := TX5) (N := 7) hx hb hG.use i_X5 hown hK hP 0 rfl rfl 1 (by decide) (hG.use _ lf_X5_19) (fun _ h9 => h9) rfl dX5_identify_18 ?_
    refine va_getN (host := "FormatRows") (D := D) (cl := vwC) (ci := 5) (v := .int (iI (I 8))) (C := RX4) (T := TX4) (N := 7) hx hb hG.use i_X4 hown hK hP 2 rfl rfl 0 (by decide) (hG.use _ lf_X5_96) (fun _ h9 => h9) rfl dX5_identify_21 ?_
    refine ro_call (g_runV (rest := [.ref (a 0)]) hx hb hml hown hG hK hP mV_X5_formatsOf (c_X5_formatsOf l D a k I F p0 (I 8) hv (by omega) (by omega)) lk_X5_99 (va_recv hK hP (ci := 6) (q0 := 0) rfl rfl) rfl hl.1 rfl (Nat.le_of_ble_eq_true rfl) ⟨(Nat.le_of_ble_eq_true rfl), (Nat.le_of_ble_eq_true rfl)⟩ ⟨(Nat.le_of_ble_eq_true rfl), (Nat.le_of_ble_eq_true rfl)⟩ dX5_identify_24) (fun r_4 q_5 => ?_)
    refine va_put (D := D) (cl := vwC) (ci := 6) (v := .int (iI r_4)) (ty := .int) (C := RX5) (T := TX5) (N := 7) hx hb hG.use i_X5 tyX5 tyX5_ok nmX5 hown hK hP (xD hdis) hS 0 rfl rfl 6 (by decide) (hG.use _ lf_X5_54) (fun _ h9 => h9) rfl (by decide +kernel) rfl rfl (Nat.le_of_ble_eq_true rfl) dX5_identify_27 (fun H locs hP _ hS => ?_)
    have hP : va_P D vwC (xW a k (uI I 0 r_4) F) H := hP
    refine lv_aload_n hx hb dX5_identify_30 rfl (lv_at hl 0 rfl) ?_
    refine va_get (D := D) (cl := vwC) (ci := 6) (v := .int (iI r_4)) (C := RX5) (T := TX5) (N := 7) hx hb hG.use i_X5 hown hK hP 0 rfl rfl 6 (by decide) (hG.use _ lf_X5_54) (fun _ h9 => h9) rfl dX5_identify_31 ?_
    refine ro_call (g_runS (rest := []) hx hb hml hown hG (hK.sub (tys' := []) [] rfl) (va_P0) mS_X5_formatOfSet (c_X5_formatOfSet l D r_4 _ q_5) lk_X5_102 rfl hl.1 rfl (Nat.le_of_ble_eq_true rfl) ⟨(Nat.le_of_ble_eq_true rfl), (Nat.le_of_ble_eq_true rfl)⟩ ⟨(Nat.le_of_ble_eq_true rfl), (Nat.le_of_ble_eq_true rfl)⟩ dX5_identify_34) (fun r_6 q_7 => ?_)
    exact W.iret (v := iI r_6) hx hb hr (fun t ht9 hW => ⟨r_6, (uI I 0 r_4, F), rfl, (by right; exact ⟨by omega, by assumption, r_4, q_5, rfl⟩), by rw [ht9]; exact hP, hS.F ht9⟩) hS.2.2 dX5_identify_37
  · skip
    -- 8 f
    refine xr_bipush hx hb dX5_identify_11 (by decide +kernel) ?_
    exact W.iret (v := iI (-2)) hx hb hr (fun t ht9 hW => ⟨(-2), (I, F), rfl, (by left; exact ⟨by omega, rfl, rfl⟩), by rw [ht9]; exact hP, hS.F ht9⟩) hS.2.2 dX5_identify_13
set_option maxHeartbeats 4000000 in
set_option maxRecDepth 100000 in
theorem c_X5_container (l : Launch) (D : va_G) (a : Nat → Nat) (k : Nat → ClassId) (I : Nat → Int) (F : Nat → Int → Int) (hdis : dis 24 a) (p0 p1 p2 : Int) (hv : xInv I F) (b0 : -2147483648 ≤ p0 ∧ p0 < 2147483648) (b1 : -2147483648 ≤ p1 ∧ p1 < 2147483648) (b2 : -2147483648 ≤ p2 ∧ p2 < 2147483648) : mu_M (S := (Nat → Int) × (Nat → Int → Int)) l yX5_container cX5_container 4 (some .int) 1 [.ref (a 0), .int (iI p0), .int (iI p1), .int (iI p2)] D (xT k) (xW a k I F) (fun u => xW a k u.1 u.2) (fun r u => (¬ ((0 ≤ p0 ∧ p0 < 30) ∧ (0 ≤ p1 ∧ p1 < 30) ∧ (0 ≤ p2 ∧ p2 < 30)) ∧ r = -2 ∧ u = (I, F)) ∨ (((0 ≤ p0 ∧ p0 < 30) ∧ (0 ≤ p1 ∧ p1 < 30) ∧ (0 ≤ p2 ∧ p2 < 30)) ∧ ((20 ≤ I 10 ∧ r = -4 ∧ u = (I, F)) ∨ (I 10 < 20 ∧ r = I 10 ∧ u = (uI I 10 (I 10 + 1), uF (uF (uF F 19 (uA (F 19) (I 10) p0)) 20 (uA (F 20) (I 10) p1)) 21 (uA (F 21) (I 10) p2)))))) (adr 24 a) := by
  refine me_start (by decide) (Nat.le_of_ble_eq_true rfl) rfl ?_
  intro p e s m below meth c hx hb hml hr hown hlocks hnm hG hK hP ls hl
  have hown : s.vm.findClass RX5 = some m.cls := hown
  have hl : lv_has ls 4 [(0, .ref (a 0)), (1, .int (iI p0)), (2, .int (iI p1)), (3, .int (iI p2))] := hl
  have hS : va_S (adr 24 a) s.heap s.heap [] := va_S.rf
  have f_n := hv.n
  refine lv_iload_n hx hb dX5_container_0 rfl (lv_at hl 1 rfl) ?_
  refine ro_call (g_runS (rest := []) hx hb hml hown hG (hK.sub (tys' := []) [] rfl) (va_P0) mS_X5_isFormat (c_X5_isFormat l D p0 (by omega)) lk_X5_120 rfl hl.1 rfl (Nat.le_of_ble_eq_true rfl) ⟨(Nat.le_of_ble_eq_true rfl), (Nat.le_of_ble_eq_true rfl)⟩ ⟨(Nat.le_of_ble_eq_true rfl), (Nat.le_of_ble_eq_true rfl)⟩ dX5_container_1) (fun r_1 q_2 => ?_)
  refine xr_if_eqZ (tgt := 21) hx hb q_2 dX5_container_4 (by decide) (fun c_3 => ?_) (fun c_3 => ?_)
  · skip
    -- 4 t
    refine xr_bipush hx hb dX5_container_21 (by decide +kernel) ?_
    exact W.iret (v := iI (-2)) hx hb hr (fun t ht9 hW => ⟨(-2), (I, F), rfl, (by left; exact ⟨by omega, rfl, rfl⟩), by rw [ht9]; exact hP, hS.F ht9⟩) hS.2.2 dX5_container_23
  · skip
    -- 4 f
    refine lv_iload_n hx hb dX5_container_7 rfl (lv_at hl 2 rfl) ?_
    refine ro_call (g_runS (rest := []) hx hb hml hown hG (hK.sub (tys' := []) [] rfl) (va_P0) mS_X5_isFormat (c_X5_isFormat l D p1 (by omega)) lk_X5_120 rfl hl.1 rfl (Nat.le_of_ble_eq_true rfl) ⟨(Nat.le_of_ble_eq_true rfl), (Nat.le_of_ble_eq_true rfl)⟩ ⟨(Nat.le_of_ble_eq_true rfl), (Nat.le_of_ble_eq_true rfl)⟩ dX5_container_8) (fun r_4 q_5 => ?_)
    refine xr_if_eqZ (tgt := 21) hx hb q_5 dX5_container_11 (by decide) (fun c_6 => ?_) (fun c_6 => ?_)
    · skip
      -- 11 t
      refine xr_bipush hx hb dX5_container_21 (by decide +kernel) ?_
      exact W.iret (v := iI (-2)) hx hb hr (fun t ht9 hW => ⟨(-2), (I, F), rfl, (by left; exact ⟨by omega, rfl, rfl⟩), by rw [ht9]; exact hP, hS.F ht9⟩) hS.2.2 dX5_container_23
    · skip
      -- 11 f
      refine lv_iload_n hx hb dX5_container_14 rfl (lv_at hl 3 rfl) ?_
      refine ro_call (g_runS (rest := []) hx hb hml hown hG (hK.sub (tys' := []) [] rfl) (va_P0) mS_X5_isFormat (c_X5_isFormat l D p2 (by omega)) lk_X5_120 rfl hl.1 rfl (Nat.le_of_ble_eq_true rfl) ⟨(Nat.le_of_ble_eq_true rfl), (Nat.le_of_ble_eq_true rfl)⟩ ⟨(Nat.le_of_ble_eq_true rfl), (Nat.le_of_ble_eq_true rfl)⟩ dX5_container_15) (fun r_7 q_8 => ?_)
      refine xr_if_neZ (tgt := 24) hx hb q_8 dX5_container_18 (by decide) (fun c_9 => ?_) (fun c_9 => ?_)
      · skip
        -- 18 t
        refine lv_aload_n hx hb dX5_container_24 rfl (lv_at hl 0 rfl) ?_
        refine va_get (D := D) (cl := vwC) (ci := 6) (v := .ref (a 4)) (C := RX5) (T := TX5) (N := 7) hx hb hG.use i_X5 hown hK hP 0 rfl rfl 3 (by decide) (hG.use _ lf_X5_33) (fun _ h9 => h9) rfl dX5_container_25 ?_
        refine lv_iload_n hx hb dX5_container_28 rfl (lv_at hl 1 rfl) ?_
        refine lv_iload_n hx hb dX5_container_29 rfl (lv_at hl 2 rfl) ?_
        refine lv_iload_n hx hb dX5_container_30 rfl (lv_at hl 3 rfl) ?_
        refine mu_call (g_runV (rest := []) hx hb hml hown hG hK hP mV_X0_add (c_X0_add l D a k I F hdis p0 p1 p2 (by omega)) lk_X5_123 (va_recv hK hP (ci := 1) (q0 := 4) rfl rfl) rfl hl.1 rfl (Nat.le_of_ble_eq_true rfl) ⟨(Nat.le_of_ble_eq_true rfl), (Nat.le_of_ble_eq_true rfl)⟩ ⟨(Nat.le_of_ble_eq_true rfl), (Nat.le_of_ble_eq_true rfl)⟩ dX5_container_31) hS (fun _ h => h) (fun r_10 u H locs q_11 hP _ _ hS => ?_)
        obtain ⟨I1, F1⟩ := u
        have hP : va_P D vwC (xW a k I1 F1) H := hP
        try dsimp only at q_11
        exact W.iret (v := iI r_10) hx hb hr (fun t ht9 hW => ⟨r_10, (I1, F1), rfl, (by right; exact ⟨by omega, by assumption⟩), by rw [ht9]; exact hP, hS.F ht9⟩) hS.2.2 dX5_container_34
      · skip
        -- 18 f
        refine xr_bipush hx hb dX5_container_21 (by decide +kernel) ?_
        exact W.iret (v := iI (-2)) hx hb hr (fun t ht9 hW => ⟨(-2), (I, F), rfl, (by left; exact ⟨by omega, rfl, rfl⟩), by rw [ht9]; exact hP, hS.F ht9⟩) hS.2.2 dX5_container_23
set_option maxHeartbeats 4000000 in
set_option maxRecDepth 100000 in
theorem c_X5_obsolete (l : Launch) (D : va_G) (a : Nat → Nat) (k : Nat → ClassId) (I : Nat → Int) (F : Nat → Int → Int) (hdis : dis 24 a) (p0 p1 : Int) (hv : xInv I F) (b0 : -2147483648 ≤ p0 ∧ p0 < 2147483648) (b1 : p1 = 0 ∨ p1 = 1) : mu_M (S := (Nat → Int) × (Nat → Int → Int)) l yX5_obsolete cX5_obsolete 3 (some .int) 1 [.ref (a 0), .int (iI p0), .int (iI p1)] D (xT k) (xW a k I F) (fun u => xW a k u.1 u.2) (fun r u => (¬ (0 ≤ p0 ∧ p0 < 30) ∧ r = -2 ∧ u = (I, F)) ∨ ((0 ≤ p0 ∧ p0 < 30) ∧ r = 1 ∧ u = (I, uF F 22 (uA (F 22) p0 p1)))) (adr 24 a) := by
  refine me_start (by decide) (Nat.le_of_ble_eq_true rfl) rfl ?_
  intro p e s m below meth c hx hb hml hr hown hlocks hnm hG hK hP ls hl
  have hown : s.vm.findClass RX5 = some m.cls := hown
  have hl : lv_has ls 3 [(0, .ref (a 0)), (1, .int (iI p0)), (2, .int (iI p1))] := hl
  have hS : va_S (adr 24 a) s.heap s.heap [] := va_S.rf
  refine lv_iload_n hx hb dX5_obsolete_0 rfl (lv_at hl 1 rfl) ?_
  refine ro_call (g_runS (rest := []) hx hb hml hown hG (hK.sub (tys' := []) [] rfl) (va_P0) mS_X5_isFormat (c_X5_isFormat l D p0 (by omega)) lk_X5_120 rfl hl.1 rfl (Nat.le_of_ble_eq_true rfl) ⟨(Nat.le_of_ble_eq_true rfl), (Nat.le_of_ble_eq_true rfl)⟩ ⟨(Nat.le_of_ble_eq_true rfl), (Nat.le_of_ble_eq_true rfl)⟩ dX5_obsolete_1) (fun r_1 q_2 => ?_)
  refine xr_if_neZ (tgt := 10) hx hb q_2 dX5_obsolete_4 (by decide) (fun c_3 => ?_) (fun c_3 => ?_)
  · skip
    -- 4 t
    refine lv_aload_n hx hb dX5_obsolete_10 rfl (lv_at hl 0 rfl) ?_
    refine va_get (D := D) (cl := vwC) (ci := 6) (v := .ref (a 5)) (C := RX5) (T := TX5) (N := 7) hx hb hG.use i_X5 hown hK hP 0 rfl rfl 4 (by decide) (hG.use _ lf_X5_40) (fun _ h9 => h9) rfl dX5_obsolete_11 ?_
    refine va_getN (host := "FormatRows") (D := D) (cl := vwC) (ci := 3) (v := .ref (a 22)) (C := RX2) (T := TX2) (N := 2) hx hb hG.use i_X2 hown hK hP 5 rfl rfl 0 (by decide) (hG.use _ lf_X5_129) (fun _ h9 => h9) rfl dX5_obsolete_14 ?_
    refine lv_iload_n hx hb dX5_obsolete_17 rfl (lv_at hl 1 rfl) ?_
    refine lv_iload_n hx hb dX5_obsolete_18 rfl (lv_at hl 2 rfl) ?_
    refine xr_zast (f := F 22) (z := p0) (v := p1) hx hb hK hP (xD hdis) hS 22 16 rfl rfl (by omega) (by omega) (by decide) (by omega) dX5_obsolete_19 (fun H locs hP hS => ?_)
    have hP : va_P D vwC (xW a k I (uF F 22 (uA (F 22) p0 p1))) H := hP
    refine xr_iconst hx hb dX5_obsolete_20 ?_
    exact W.iret (v := iI 1) hx hb hr (fun t ht9 hW => ⟨1, (I, uF F 22 (uA (F 22) p0 p1)), rfl, (by right; exact ⟨by omega, rfl, rfl⟩), by rw [ht9]; exact hP, hS.F ht9⟩) hS.2.2 dX5_obsolete_21
  · skip
    -- 4 f
    refine xr_bipush hx hb dX5_obsolete_7 (by decide +kernel) ?_
    exact W.iret (v := iI (-2)) hx hb hr (fun t ht9 hW => ⟨(-2), (I, F), rfl, (by left; exact ⟨by omega, rfl, rfl⟩), by rw [ht9]; exact hP, hS.F ht9⟩) hS.2.2 dX5_obsolete_9
set_option maxHeartbeats 4000000 in
set_option maxRecDepth 100000 in
theorem c_X5_migration (l : Launch) (D : va_G) (a : Nat → Nat) (k : Nat → ClassId) (I : Nat → Int) (F : Nat → Int → Int) (hdis : dis 24 a) (p0 p1 : Int) (hv : xInv I F) (b0 : -2147483648 ≤ p0 ∧ p0 < 2147483648) (b1 : -2147483648 ≤ p1 ∧ p1 < 2147483648) : mu_M (S := (Nat → Int) × (Nat → Int → Int)) l yX5_migration cX5_migration 3 (some .int) 1 [.ref (a 0), .int (iI p0), .int (iI p1)] D (xT k) (xW a k I F) (fun u => xW a k u.1 u.2) (fun r u => (¬ ((0 ≤ p0 ∧ p0 < 30) ∧ (-1 ≤ p1 ∧ p1 < 30)) ∧ r = -2 ∧ u = (I, F)) ∨ (((0 ≤ p0 ∧ p0 < 30) ∧ (-1 ≤ p1 ∧ p1 < 30)) ∧ (((p1 ≠ -1 ∧ (∃ n : Nat, n < 30 ∧ up (F 23) p1 n = p0)) ∧ r = -3 ∧ u = (I, F)) ∨ (¬ (p1 ≠ -1 ∧ (∃ n : Nat, n < 30 ∧ up (F 23) p1 n = p0)) ∧ r = 1 ∧ u = (I, uF F 23 (uA (F 23) p0 p1)))))) (adr 24 a) := by
  refine me_start (by decide) (Nat.le_of_ble_eq_true rfl) rfl ?_
  intro p e s m below meth c hx hb hml hr hown hlocks hnm hG hK hP ls hl
  have hown : s.vm.findClass RX5 = some m.cls := hown
  have hl : lv_has ls 3 [(0, .ref (a 0)), (1, .int (iI p0)), (2, .int (iI p1))] := hl
  have hS : va_S (adr 24 a) s.heap s.heap [] := va_S.rf
  refine lv_iload_n hx hb dX5_migration_0 rfl (lv_at hl 1 rfl) ?_
  refine ro_call (g_runS (rest := []) hx hb hml hown hG (hK.sub (tys' := []) [] rfl) (va_P0) mS_X5_isFormat (c_X5_isFormat l D p0 (by omega)) lk_X5_120 rfl hl.1 rfl (Nat.le_of_ble_eq_true rfl) ⟨(Nat.le_of_ble_eq_true rfl), (Nat.le_of_ble_eq_true rfl)⟩ ⟨(Nat.le_of_ble_eq_true rfl), (Nat.le_of_ble_eq_true rfl)⟩ dX5_migration_1) (fun r_1 q_2 => ?_)
  refine xr_if_eqZ (tgt := 19) hx hb q_2 dX5_migration_4 (by decide) (fun c_3 => ?_) (fun c_3 => ?_)
  · skip
    -- 4 t
    refine xr_bipush hx hb dX5_migration_19 (by decide +kernel) ?_
    exact W.iret (v := iI (-2)) hx hb hr (fun t ht9 hW => ⟨(-2), (I, F), rfl, (by left; exact ⟨by omega, rfl, rfl⟩), by rw [ht9]; exact hP, hS.F ht9⟩) hS.2.2 dX5_migration_21
  · skip
    -- 4 f
    refine lv_iload_n hx hb dX5_migration_7 rfl (lv_at hl 2 rfl) ?_
    refine xr_iconst hx hb dX5_migration_8 ?_
    refine xr_icmp_eq (a := p1) (b := (-1)) (tgt := 22) hx hb dX5_migration_9 (by decide) (fun c_4 => ?_) (fun c_4 => ?_) (by omega) (by omega)
    · skip
      -- 9 t
      refine lv_iload_n hx hb dX5_migration_22 rfl (lv_at hl 2 rfl) ?_
      refine xr_iconst hx hb dX5_migration_23 ?_
      refine xr_icmp_eq (a := p1) (b := (-1)) (tgt := 42) hx hb dX5_migration_24 (by decide) (fun c_5 => ?_) (fun c_5 => ?_) (by omega) (by omega)
      · skip
        -- 24 t
        refine lv_aload_n hx hb dX5_migration_42 rfl (lv_at hl 0 rfl) ?_
        refine va_get (D := D) (cl := vwC) (ci := 6) (v := .ref (a 5)) (C := RX5) (T := TX5) (N := 7) hx hb hG.use i_X5 hown hK hP 0 rfl rfl 4 (by decide) (hG.use _ lf_X5_40) (fun _ h9 => h9) rfl dX5_migration_43 ?_
        refine va_getN (host := "FormatRows") (D := D) (cl := vwC) (ci := 3) (v := .ref (a 23)) (C := RX2) (T := TX2) (N := 2) hx hb hG.use i_X2 hown hK hP 5 rfl rfl 1 (by decide) (hG.use _ lf_X5_136) (fun _ h9 => h9) rfl dX5_migration_46 ?_
        refine lv_iload_n hx hb dX5_migration_49 rfl (lv_at hl 1 rfl) ?_
        refine lv_iload_n hx hb dX5_migration_50 rfl (lv_at hl 2 rfl) ?_
        refine xr_iast (f := F 23) (z := p0) (v := p1) hx hb hK hP (xD hdis) hS 23 17 rfl rfl (by omega) (by omega) (by decide) dX5_migration_51 (fun H locs hP hS => ?_)
        have hP : va_P D vwC (xW a k I (uF F 23 (uA (F 23) p0 p1))) H := hP
        refine xr_iconst hx hb dX5_migration_52 ?_
        exact W.iret (v := iI 1) hx hb hr (fun t ht9 hW => ⟨1, (I, uF F 23 (uA (F 23) p0 p1)), rfl, (by right; refine ⟨by omega, Or.inr ⟨?_, rfl, rfl⟩⟩; first | (intro hz; exact hz.1 (by omega)) | (intro hz; exact absurd hz.2 (by assumption))), by rw [ht9]; exact hP, hS.F ht9⟩) hS.2.2 dX5_migration_53
      · skip
        -- 24 f
        refine lv_aload_n hx hb dX5_migration_27 rfl (lv_at hl 0 rfl) ?_
        refine va_get (D := D) (cl := vwC) (ci := 6) (v := .ref (a 5)) (C := RX5) (T := TX5) (N := 7) hx hb hG.use i_X5 hown hK hP 0 rfl rfl 4 (by decide) (hG.use _ lf_X5_40) (fun _ h9 => h9) rfl dX5_migration_28 ?_
        refine lv_iload_n hx hb dX5_migration_31 rfl (lv_at hl 2 rfl) ?_
        refine lv_iload_n hx hb dX5_migration_32 rfl (lv_at hl 1 rfl) ?_
        refine ro_call (g_runV (rest := []) hx hb hml hown hG hK hP mV_X2_leads (c_X2_leads l D a k I F p1 p0 (by omega) (by omega) (fun f q0 q1 => (hv.mg f q0 q1).2)) lk_X5_133 (va_recv hK hP (ci := 3) (q0 := 5) rfl rfl) rfl hl.1 rfl (Nat.le_of_ble_eq_true rfl) ⟨(Nat.le_of_ble_eq_true rfl), (Nat.le_of_ble_eq_true rfl)⟩ ⟨(Nat.le_of_ble_eq_true rfl), (Nat.le_of_ble_eq_true rfl)⟩ dX5_migration_33) (fun r_6 q_7 => ?_)
        refine xr_if_eqZ (tgt := 42) hx hb q_7 dX5_migration_36 (by decide) (fun c_8 => ?_) (fun c_8 => ?_)
        · skip
          -- 36 t
          refine lv_aload_n hx hb dX5_migration_42 rfl (lv_at hl 0 rfl) ?_
          refine va_get (D := D) (cl := vwC) (ci := 6) (v := .ref (a 5)) (C := RX5) (T := TX5) (N := 7) hx hb hG.use i_X5 hown hK hP 0 rfl rfl 4 (by decide) (hG.use _ lf_X5_40) (fun _ h9 => h9) rfl dX5_migration_43 ?_
          refine va_getN (host := "FormatRows") (D := D) (cl := vwC) (ci := 3) (v := .ref (a 23)) (C := RX2) (T := TX2) (N := 2) hx hb hG.use i_X2 hown hK hP 5 rfl rfl 1 (by decide) (hG.use _ lf_X5_136) (fun _ h9 => h9) rfl dX5_migration_46 ?_
          refine lv_iload_n hx hb dX5_migration_49 rfl (lv_at hl 1 rfl) ?_
          refine lv_iload_n hx hb dX5_migration_50 rfl (lv_at hl 2 rfl) ?_
          refine xr_iast (f := F 23) (z := p0) (v := p1) hx hb hK hP (xD hdis) hS 23 17 rfl rfl (by omega) (by omega) (by decide) dX5_migration_51 (fun H locs hP hS => ?_)
          have hP : va_P D vwC (xW a k I (uF F 23 (uA (F 23) p0 p1))) H := hP
          refine xr_iconst hx hb dX5_migration_52 ?_
          exact W.iret (v := iI 1) hx hb hr (fun t ht9 hW => ⟨1, (I, uF F 23 (uA (F 23) p0 p1)), rfl, (by right; refine ⟨by omega, Or.inr ⟨?_, rfl, rfl⟩⟩; first | (intro hz; exact hz.1 (by omega)) | (intro hz; exact absurd hz.2 (by assumption))), by rw [ht9]; exact hP, hS.F ht9⟩) hS.2.2 dX5_migration_53
        · skip
          -- 36 f
          refine xr_bipush hx hb dX5_migration_39 (by decide +kernel) ?_
          exact W.iret (v := iI (-3)) hx hb hr (fun t ht9 hW => ⟨(-3), (I, F), rfl, (by right; exact ⟨by omega, Or.inl ⟨⟨by omega, by assumption⟩, rfl, rfl⟩⟩), by rw [ht9]; exact hP, hS.F ht9⟩) hS.2.2 dX5_migration_41
    · skip
      -- 9 f
      refine lv_iload_n hx hb dX5_migration_12 rfl (lv_at hl 2 rfl) ?_
      refine ro_call (g_runS (rest := []) hx hb hml hown hG (hK.sub (tys' := []) [] rfl) (va_P0) mS_X5_isFormat (c_X5_isFormat l D p1 (by omega)) lk_X5_120 rfl hl.1 rfl (Nat.le_of_ble_eq_true rfl) ⟨(Nat.le_of_ble_eq_true rfl), (Nat.le_of_ble_eq_true rfl)⟩ ⟨(Nat.le_of_ble_eq_true rfl), (Nat.le_of_ble_eq_true rfl)⟩ dX5_migration_13) (fun r_9 q_10 => ?_)
      refine xr_if_neZ (tgt := 22) hx hb q_10 dX5_migration_16 (by decide) (fun c_11 => ?_) (fun c_11 => ?_)
      · skip
        -- 16 t
        refine lv_iload_n hx hb dX5_migration_22 rfl (lv_at hl 2 rfl) ?_
        refine xr_iconst hx hb dX5_migration_23 ?_
        refine xr_icmp_eq (a := p1) (b := (-1)) (tgt := 42) hx hb dX5_migration_24 (by decide) (fun c_12 => ?_) (fun c_12 => ?_) (by omega) (by omega)
        · skip
          -- 24 t
          refine lv_aload_n hx hb dX5_migration_42 rfl (lv_at hl 0 rfl) ?_
          refine va_get (D := D) (cl := vwC) (ci := 6) (v := .ref (a 5)) (C := RX5) (T := TX5) (N := 7) hx hb hG.use i_X5 hown hK hP 0 rfl rfl 4 (by decide) (hG.use _ lf_X5_40) (fun _ h9 => h9) rfl dX5_migration_43 ?_
          refine va_getN (host := "FormatRows") (D := D) (cl := vwC) (ci := 3) (v := .ref (a 23)) (C := RX2) (T := TX2) (N := 2) hx hb hG.use i_X2 hown hK hP 5 rfl rfl 1 (by decide) (hG.use _ lf_X5_136) (fun _ h9 => h9) rfl dX5_migration_46 ?_
          refine lv_iload_n hx hb dX5_migration_49 rfl (lv_at hl 1 rfl) ?_
          refine lv_iload_n hx hb dX5_migration_50 rfl (lv_at hl 2 rfl) ?_
          refine xr_iast (f := F 23) (z := p0) (v := p1) hx hb hK hP (xD hdis) hS 23 17 rfl rfl (by omega) (by omega) (by decide) dX5_migration_51 (fun H locs hP hS => ?_)
          have hP : va_P D vwC (xW a k I (uF F 23 (uA (F 23) p0 p1))) H := hP
          refine xr_iconst hx hb dX5_migration_52 ?_
          exact W.iret (v := iI 1) hx hb hr (fun t ht9 hW => ⟨1, (I, uF F 23 (uA (F 23) p0 p1)), rfl, (by right; refine ⟨by omega, Or.inr ⟨?_, rfl, rfl⟩⟩; first | (intro hz; exact hz.1 (by omega)) | (intro hz; exact absurd hz.2 (by assumption))), by rw [ht9]; exact hP, hS.F ht9⟩) hS.2.2 dX5_migration_53
        · skip
          -- 24 f
          refine lv_aload_n hx hb dX5_migration_27 rfl (lv_at hl 0 rfl) ?_
          refine va_get (D := D) (cl := vwC) (ci := 6) (v := .ref (a 5)) (C := RX5) (T := TX5) (N := 7) hx hb hG.use i_X5 hown hK hP 0 rfl rfl 4 (by decide) (hG.use _ lf_X5_40) (fun _ h9 => h9) rfl dX5_migration_28 ?_
          refine lv_iload_n hx hb dX5_migration_31 rfl (lv_at hl 2 rfl) ?_
          refine lv_iload_n hx hb dX5_migration_32 rfl (lv_at hl 1 rfl) ?_
          refine ro_call (g_runV (rest := []) hx hb hml hown hG hK hP mV_X2_leads (c_X2_leads l D a k I F p1 p0 (by omega) (by omega) (fun f q0 q1 => (hv.mg f q0 q1).2)) lk_X5_133 (va_recv hK hP (ci := 3) (q0 := 5) rfl rfl) rfl hl.1 rfl (Nat.le_of_ble_eq_true rfl) ⟨(Nat.le_of_ble_eq_true rfl), (Nat.le_of_ble_eq_true rfl)⟩ ⟨(Nat.le_of_ble_eq_true rfl), (Nat.le_of_ble_eq_true rfl)⟩ dX5_migration_33) (fun r_13 q_14 => ?_)
          refine xr_if_eqZ (tgt := 42) hx hb q_14 dX5_migration_36 (by decide) (fun c_15 => ?_) (fun c_15 => ?_)
          · skip
            -- 36 t
            refine lv_aload_n hx hb dX5_migration_42 rfl (lv_at hl 0 rfl) ?_
            refine va_get (D := D) (cl := vwC) (ci := 6) (v := .ref (a 5)) (C := RX5) (T := TX5) (N := 7) hx hb hG.use i_X5 hown hK hP 0 rfl rfl 4 (by decide) (hG.use _ lf_X5_40) (fun _ h9 => h9) rfl dX5_migration_43 ?_
            refine va_getN (host := "FormatRows") (D := D) (cl := vwC) (ci := 3) (v := .ref (a 23)) (C := RX2) (T := TX2) (N := 2) hx hb hG.use i_X2 hown hK hP 5 rfl rfl 1 (by decide) (hG.use _ lf_X5_136) (fun _ h9 => h9) rfl dX5_migration_46 ?_
            refine lv_iload_n hx hb dX5_migration_49 rfl (lv_at hl 1 rfl) ?_
            refine lv_iload_n hx hb dX5_migration_50 rfl (lv_at hl 2 rfl) ?_
            refine xr_iast (f := F 23) (z := p0) (v := p1) hx hb hK hP (xD hdis) hS 23 17 rfl rfl (by omega) (by omega) (by decide) dX5_migration_51 (fun H locs hP hS => ?_)
            have hP : va_P D vwC (xW a k I (uF F 23 (uA (F 23) p0 p1))) H := hP
            refine xr_iconst hx hb dX5_migration_52 ?_
            exact W.iret (v := iI 1) hx hb hr (fun t ht9 hW => ⟨1, (I, uF F 23 (uA (F 23) p0 p1)), rfl, (by right; refine ⟨by omega, Or.inr ⟨?_, rfl, rfl⟩⟩; first | (intro hz; exact hz.1 (by omega)) | (intro hz; exact absurd hz.2 (by assumption))), by rw [ht9]; exact hP, hS.F ht9⟩) hS.2.2 dX5_migration_53
          · skip
            -- 36 f
            refine xr_bipush hx hb dX5_migration_39 (by decide +kernel) ?_
            exact W.iret (v := iI (-3)) hx hb hr (fun t ht9 hW => ⟨(-3), (I, F), rfl, (by right; exact ⟨by omega, Or.inl ⟨⟨by omega, by assumption⟩, rfl, rfl⟩⟩), by rw [ht9]; exact hP, hS.F ht9⟩) hS.2.2 dX5_migration_41
      · skip
        -- 16 f
        refine xr_bipush hx hb dX5_migration_19 (by decide +kernel) ?_
        exact W.iret (v := iI (-2)) hx hb hr (fun t ht9 hW => ⟨(-2), (I, F), rfl, (by left; exact ⟨by omega, rfl, rfl⟩), by rw [ht9]; exact hP, hS.F ht9⟩) hS.2.2 dX5_migration_21
theorem xInv_kp {I : Nat → Int} {F : Nat → Int → Int} (h : xInv I F) {g : Int → Int} (hg : ∀ f, 0 ≤ f → f < 40 → -5 ≤ g f ∧ g f < 30) : xInv I (uF F 6 g) := ⟨h.1, h.2.1, h.2.2.1, h.2.2.2.1, h.2.2.2.2.1, h.2.2.2.2.2.1, h.2.2.2.2.2.2.1, h.2.2.2.2.2.2.2.1, h.2.2.2.2.2.2.2.2.1, h.2.2.2.2.2.2.2.2.2.1, hg⟩
set_option maxHeartbeats 4000000 in
set_option maxRecDepth 100000 in
theorem c_X5_keep (l : Launch) (D : va_G) (a : Nat → Nat) (k : Nat → ClassId) (I : Nat → Int) (F : Nat → Int → Int) (hdis : dis 24 a)  (hv : xInv I F) : mu_M (S := (Nat → Int) × (Nat → Int → Int)) l yX5_keep cX5_keep 2 (some .int) 4 [.ref (a 0)] D (xT k) (xW a k I F) (fun u => xW a k u.1 u.2) (fun r u => r = I 8 ∧ ∃ g : Int → Int, u = (I, uF F 6 g) ∧ (∀ f, 0 ≤ f → f < I 9 → g f = xfm I F f) ∧ ∀ f, I 9 ≤ f → g f = F 6 f) (adr 24 a) := by
  refine me_start (by decide) (Nat.le_of_ble_eq_true rfl) rfl ?_
  intro p e s m below meth c hx hb hml hr hown hlocks hnm hG hK hP ls hl
  have hown : s.vm.findClass RX5 = some m.cls := hown
  have hl : lv_has ls 2 [(0, .ref (a 0))] := hl
  have hS : va_S (adr 24 a) s.heap s.heap [] := va_S.rf
  have f_n := hv.n
  refine xr_iconst hx hb dX5_keep_0 ?_
  refine lv_istore_n (lv' := [(1, .int (iI 0)), (0, .ref (a 0))]) hx hb dX5_keep_1 rfl hl (by decide) rfl (fun ls hl => ?_)
  have lp_2 : ∀ (nz : Nat) (fi : Int) (g : Int → Int) (H : Heap) (locs : List Loc), (I 9 - fi).toNat < nz → (0 ≤ fi ∧ fi ≤ I 9) → (∀ f, 0 ≤ f → f < fi → g f = xfm I F f) → (∀ f, fi ≤ f → g f = F 6 f) → (∀ f, 0 ≤ f → f < 40 → -5 ≤ g f ∧ g f < 30) → va_P D vwC (xW a k I (uF F 6 g)) H → va_S (adr 24 a) s.heap H locs → ∀ ls : Array Slot, lv_has ls 2 [(1, .int (iI fi)), (0, .ref (a 0))] → W p l e (rmd 4) s m ([.ref (a 0)] : List Value).toArray below meth c H locs 0 0 (MQ below (mu_Q (S := (Nat → Int) × (Nat → Int → Int)) (fun u => xW a k u.1 u.2) D (fun r u => r = I 8 ∧ ∃ g : Int → Int, u = (I, uF F 6 g) ∧ (∀ f, 0 ≤ f → f < I 9 → g f = xfm I F f) ∧ ∀ f, I 9 ≤ f → g f = F 6 f) (adr 24 a)) ([.ref (a 0)] : List Value).toArray s 0 0 (adr 24 a)) (F0 m 2 ls []) := by
    clear hl
    intro nz
    induction nz with
    | zero =>
      intro fi g H locs hn
      exact absurd hn (Nat.not_lt_zero _)
    | succ n_2 ih_2 =>
      intro fi g H locs hn_2 i0 i1 i2 i3 hP hS ls hl
      refine lv_iload_n hx hb dX5_keep_2 rfl (lv_at hl 0 rfl) ?_
      refine lv_aload_n hx hb dX5_keep_3 rfl (lv_at hl 1 rfl) ?_
      refine va_get (D := D) (cl := vwC) (ci := 6) (v := .ref (a 3)) (C := RX5) (T := TX5) (N := 7) hx hb hG.use i_X5 hown hK hP 0 rfl rfl 2 (by decide) (hG.use _ lf_X5_26) (fun _ h9 => h9) rfl dX5_keep_4 ?_
      refine va_getN (host := "FormatRows") (D := D) (cl := vwC) (ci := 2) (v := .int (iI (I 9))) (C := RX1) (T := TX1) (N := 5) hx hb hG.use i_X1 hown hK hP 3 rfl rfl 0 (by decide) (hG.use _ lf_X5_142) (fun _ h9 => h9) rfl dX5_keep_7 ?_
      refine xr_icmp_ge (a := fi) (b := I 9) (tgt := 37) hx hb dX5_keep_10 (by decide) (fun c_1 => ?_) (fun c_1 => ?_) (by omega) (by omega)
      · skip
        -- 10 t
        refine lv_aload_n hx hb dX5_keep_37 rfl (lv_at hl 1 rfl) ?_
        refine va_get (D := D) (cl := vwC) (ci := 6) (v := .ref (a 2)) (C := RX5) (T := TX5) (N := 7) hx hb hG.use i_X5 hown hK hP 0 rfl rfl 1 (by decide) (hG.use _ lf_X5_19) (fun _ h9 => h9) rfl dX5_keep_38 ?_
        refine va_getN (host := "FormatRows") (D := D) (cl := vwC) (ci := 5) (v := .int (iI (I 8))) (C := RX4) (T := TX4) (N := 7) hx hb hG.use i_X4 hown hK hP 2 rfl rfl 0 (by decide) (hG.use _ lf_X5_96) (fun _ h9 => h9) rfl dX5_keep_41 ?_
        exact W.iret (v := iI (I 8)) hx hb hr (fun t ht9 hW => ⟨I 8, (I, uF F 6 g), rfl, (by exact ⟨rfl, g, rfl, fun f q0 q1 => i1 f q0 (by omega), fun f q1 => i2 f (by omega)⟩), by rw [ht9]; exact hP, hS.F ht9⟩) hS.2.2 dX5_keep_44
      · skip
        -- 10 f
        refine lv_aload_n hx hb dX5_keep_13 rfl (lv_at hl 1 rfl) ?_
        refine va_get (D := D) (cl := vwC) (ci := 6) (v := .ref (a 6)) (C := RX5) (T := TX5) (N := 7) hx hb hG.use i_X5 hown hK hP 0 rfl rfl 5 (by decide) (hG.use _ lf_X5_44) (fun _ h9 => h9) rfl dX5_keep_14 ?_
        refine lv_iload_n hx hb dX5_keep_17 rfl (lv_at hl 0 rfl) ?_
        refine lv_aload_n hx hb dX5_keep_18 rfl (lv_at hl 1 rfl) ?_
        refine lv_iload_n hx hb dX5_keep_19 rfl (lv_at hl 0 rfl) ?_
        refine lv_aload_n hx hb dX5_keep_20 rfl (lv_at hl 1 rfl) ?_
        refine va_get (D := D) (cl := vwC) (ci := 6) (v := .ref (a 2)) (C := RX5) (T := TX5) (N := 7) hx hb hG.use i_X5 hown hK hP 0 rfl rfl 1 (by decide) (hG.use _ lf_X5_19) (fun _ h9 => h9) rfl dX5_keep_21 ?_
        refine va_getN (host := "FormatRows") (D := D) (cl := vwC) (ci := 5) (v := .int (iI (I 8))) (C := RX4) (T := TX4) (N := 7) hx hb hG.use i_X4 hown hK hP 2 rfl rfl 0 (by decide) (hG.use _ lf_X5_96) (fun _ h9 => h9) rfl dX5_keep_24 ?_
        refine ro_call (g_runV (rest := [.int (iI fi), .ref (a 6)]) hx hb hml hown hG hK hP mV_X5_formatOf (c_X5_formatOf l D a k I (uF F 6 g) fi (I 8) (xInv_kp hv i3) (by omega) (by omega)) lk_X5_143 (va_recv hK hP (ci := 6) (q0 := 0) rfl rfl) rfl hl.1 rfl (Nat.le_of_ble_eq_true rfl) ⟨(Nat.le_of_ble_eq_true rfl), (Nat.le_of_ble_eq_true rfl)⟩ ⟨(Nat.le_of_ble_eq_true rfl), (Nat.le_of_ble_eq_true rfl)⟩ dX5_keep_27) (fun r_2 q_3 => ?_)
        have f_m := xfm_in hv fi
        have e_m : r_2 = xfm I F fi := q_3
        refine xr_iast (f := g) (z := fi) (v := r_2) hx hb hK hP (xD hdis) hS 6 0 rfl rfl (by omega) (by omega) (by decide) dX5_keep_30 (fun H locs hP hS => ?_)
        have hP : va_P D vwC (xW a k I (uF (uF F 6 g) 6 (uA g fi r_2))) H := hP
        refine xr_iinc (z := fi) (lv' := [(1, .int (iI (fi + 1))), (0, .ref (a 0))]) hx hb dX5_keep_31 hl (k := 0) rfl (by decide) rfl (fun ls hl => ?_)
        refine lv_goto (tgt := 2) hx hb dX5_keep_34 (by decide) ?_
        exact ih_2 (fi + 1) (uA g fi r_2) _ _ (by omega) (by omega) (by intro f q0 q1; by_cases e : f = fi; (rw [e, uA_s]; exact e_m); rw [uA_n e]; exact i1 f q0 (by omega)) (by intro f q1; rw [uA_n (by omega)]; exact i2 f (by omega)) (by intro f q0 q1; by_cases e : f = fi; (rw [e, uA_s]; omega); rw [uA_n e]; exact i3 f q0 q1) hP hS ls (lv_sub hl [0, 1] rfl)
  exact lp_2 _ 0 (F 6) _ _ (Nat.lt_succ_self _) (by omega) (by intro f q0 q1; omega) (by intro f q1; rfl) (by exact hv.kp) hP hS ls (lv_sub hl [0, 1] rfl)
