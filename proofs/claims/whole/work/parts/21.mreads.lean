set_option maxHeartbeats 4000000 in
set_option maxRecDepth 100000 in
theorem c_X6_in (l : Launch) (D : va_G) (p0 p1 p2 : Int) (b0 : -2147483648 ≤ p0 ∧ p0 < 2147483648) (b1 : -2147483648 ≤ p1 ∧ p1 < 2147483648) (b2 : -2147483648 ≤ p2 ∧ p2 < 2147483648) : ro_M l yX6_in cX6_in 3 (some .boolean) 0 [.int (iI p0), .int (iI p1), .int (iI p2)] D ([]) ([]) (fun r => bz (p1 ≤ p0 ∧ p0 ≤ p2) r) := by
  refine me_start (by decide) (Nat.le_of_ble_eq_true rfl) rfl ?_
  intro p e s m below meth c hx hb hml hr hown hlocks hnm hG hK hP ls hl
  have hown : s.vm.findClass RX6 = some m.cls := hown
  have hl : lv_has ls 3 [(0, .int (iI p0)), (1, .int (iI p1)), (2, .int (iI p2))] := hl
  refine lv_iload_n hx hb dX6_in_0 rfl (lv_at hl 0 rfl) ?_
  refine lv_iload_n hx hb dX6_in_1 rfl (lv_at hl 1 rfl) ?_
  refine xr_icmp_lt (a := p0) (b := p1) (tgt := 14) hx hb dX6_in_2 (by decide) (fun c_1 => ?_) (fun c_1 => ?_) (by omega) (by omega)
  · skip
    -- 2 t
    refine xr_iconst hx hb dX6_in_14 ?_
    exact W.zret (v := iI 0) hx hb hr (bz_nar (by omega)) (fun t ht9 hW => ⟨0, rfl, (by first | exact bz_t (by omega) | exact bz_f (by omega)), ht9⟩) t_nil dX6_in_15
  · skip
    -- 2 f
    refine lv_iload_n hx hb dX6_in_5 rfl (lv_at hl 0 rfl) ?_
    refine lv_iload_n hx hb dX6_in_6 rfl (lv_at hl 2 rfl) ?_
    refine xr_icmp_gt (a := p0) (b := p2) (tgt := 14) hx hb dX6_in_7 (by decide) (fun c_2 => ?_) (fun c_2 => ?_) (by omega) (by omega)
    · skip
      -- 7 t
      refine xr_iconst hx hb dX6_in_14 ?_
      exact W.zret (v := iI 0) hx hb hr (bz_nar (by omega)) (fun t ht9 hW => ⟨0, rfl, (by first | exact bz_t (by omega) | exact bz_f (by omega)), ht9⟩) t_nil dX6_in_15
    · skip
      -- 7 f
      refine xr_iconst hx hb dX6_in_10 ?_
      refine lv_goto (tgt := 15) hx hb dX6_in_11 (by decide) ?_
      exact W.zret (v := iI 1) hx hb hr (bz_nar (by omega)) (fun t ht9 hW => ⟨1, rfl, (by first | exact bz_t (by omega) | exact bz_f (by omega)), ht9⟩) t_nil dX6_in_15
set_option maxHeartbeats 4000000 in
set_option maxRecDepth 100000 in
theorem c_X6_isFormat (l : Launch) (D : va_G) (p0 : Int) (b0 : -2147483648 ≤ p0 ∧ p0 < 2147483648) : ro_M l yX6_isFormat cX6_isFormat 1 (some .boolean) 1 [.int (iI p0)] D ([]) ([]) (fun r => bz (0 ≤ p0 ∧ p0 ≤ 29) r) := by
  refine me_start (by decide) (Nat.le_of_ble_eq_true rfl) rfl ?_
  intro p e s m below meth c hx hb hml hr hown hlocks hnm hG hK hP ls hl
  have hown : s.vm.findClass RX6 = some m.cls := hown
  have hl : lv_has ls 1 [(0, .int (iI p0))] := hl
  refine lv_iload_n hx hb dX6_isFormat_0 rfl (lv_at hl 0 rfl) ?_
  refine xr_iconst hx hb dX6_isFormat_1 ?_
  refine xr_bipush hx hb dX6_isFormat_2 (by decide +kernel) ?_
  refine ro_call (g_runS (rest := []) hx hb hml hown hG (hK.sub (tys' := []) [] rfl) (va_P0) mS_X6_in (c_X6_in l D p0 0 29 (by omega) (by omega) (by omega)) lk_X6_79 rfl hl.1 rfl (Nat.le_of_ble_eq_true rfl) ⟨(Nat.le_of_ble_eq_true rfl), (Nat.le_of_ble_eq_true rfl)⟩ ⟨(Nat.le_of_ble_eq_true rfl), (Nat.le_of_ble_eq_true rfl)⟩ dX6_isFormat_4) (fun r_1 q_2 => ?_)
  exact W.zret (v := iI r_1) hx hb hr (bz_nar (bz_01 q_2)) (fun t ht9 hW => ⟨r_1, rfl, (by assumption), ht9⟩) t_nil dX6_isFormat_7
set_option maxHeartbeats 4000000 in
set_option maxRecDepth 100000 in
theorem c_X6_isDigit (l : Launch) (D : va_G) (p0 : Int) (b0 : -2147483648 ≤ p0 ∧ p0 < 2147483648) : ro_M l yX6_isDigit cX6_isDigit 1 (some .boolean) 1 [.int (iI p0)] D ([]) ([]) (fun r => bz (48 ≤ p0 ∧ p0 ≤ 57) r) := by
  refine me_start (by decide) (Nat.le_of_ble_eq_true rfl) rfl ?_
  intro p e s m below meth c hx hb hml hr hown hlocks hnm hG hK hP ls hl
  have hown : s.vm.findClass RX6 = some m.cls := hown
  have hl : lv_has ls 1 [(0, .int (iI p0))] := hl
  refine lv_iload_n hx hb dX6_isDigit_0 rfl (lv_at hl 0 rfl) ?_
  refine xr_bipush hx hb dX6_isDigit_1 (by decide +kernel) ?_
  refine xr_bipush hx hb dX6_isDigit_3 (by decide +kernel) ?_
  refine ro_call (g_runS (rest := []) hx hb hml hown hG (hK.sub (tys' := []) [] rfl) (va_P0) mS_X6_in (c_X6_in l D p0 48 57 (by omega) (by omega) (by omega)) lk_X6_79 rfl hl.1 rfl (Nat.le_of_ble_eq_true rfl) ⟨(Nat.le_of_ble_eq_true rfl), (Nat.le_of_ble_eq_true rfl)⟩ ⟨(Nat.le_of_ble_eq_true rfl), (Nat.le_of_ble_eq_true rfl)⟩ dX6_isDigit_5) (fun r_1 q_2 => ?_)
  exact W.zret (v := iI r_1) hx hb hr (bz_nar (bz_01 q_2)) (fun t ht9 hW => ⟨r_1, rfl, (by assumption), ht9⟩) t_nil dX6_isDigit_8
set_option maxHeartbeats 4000000 in
set_option maxRecDepth 100000 in
theorem c_X6_hex (l : Launch) (D : va_G) (p0 : Int) (b0 : -2147483648 ≤ p0 ∧ p0 < 2147483648) : ro_M l yX6_hex cX6_hex 1 (some .int) 2 [.int (iI p0)] D ([]) ([]) (fun r => r = hxv p0) := by
  refine me_start (by decide) (Nat.le_of_ble_eq_true rfl) rfl ?_
  intro p e s m below meth c hx hb hml hr hown hlocks hnm hG hK hP ls hl
  have hown : s.vm.findClass RX6 = some m.cls := hown
  have hl : lv_has ls 1 [(0, .int (iI p0))] := hl
  refine lv_iload_n hx hb dX6_hex_0 rfl (lv_at hl 0 rfl) ?_
  refine ro_call (g_runS (rest := []) hx hb hml hown hG (hK.sub (tys' := []) [] rfl) (va_P0) mS_X6_isDigit (c_X6_isDigit l D p0 (by omega)) lk_X6_93 rfl hl.1 rfl (Nat.le_of_ble_eq_true rfl) ⟨(Nat.le_of_ble_eq_true rfl), (Nat.le_of_ble_eq_true rfl)⟩ ⟨(Nat.le_of_ble_eq_true rfl), (Nat.le_of_ble_eq_true rfl)⟩ dX6_hex_1) (fun r_1 q_2 => ?_)
  refine xr_if_eqZ (tgt := 14) hx hb q_2 dX6_hex_4 (by decide) (fun c_3 => ?_) (fun c_3 => ?_)
  · skip
    -- 4 t
    refine lv_iload_n hx hb dX6_hex_14 rfl (lv_at hl 0 rfl) ?_
    refine xr_bipush hx hb dX6_hex_15 (by decide +kernel) ?_
    refine xr_bipush hx hb dX6_hex_17 (by decide +kernel) ?_
    refine ro_call (g_runS (rest := []) hx hb hml hown hG (hK.sub (tys' := []) [] rfl) (va_P0) mS_X6_in (c_X6_in l D p0 97 102 (by omega) (by omega) (by omega)) lk_X6_79 rfl hl.1 rfl (Nat.le_of_ble_eq_true rfl) ⟨(Nat.le_of_ble_eq_true rfl), (Nat.le_of_ble_eq_true rfl)⟩ ⟨(Nat.le_of_ble_eq_true rfl), (Nat.le_of_ble_eq_true rfl)⟩ dX6_hex_19) (fun r_4 q_5 => ?_)
    refine xr_if_eqZ (tgt := 35) hx hb q_5 dX6_hex_22 (by decide) (fun c_6 => ?_) (fun c_6 => ?_)
    · skip
      -- 22 t
      refine xr_iconst hx hb dX6_hex_35 ?_
      exact W.iret (v := iI (-1)) hx hb hr (fun t ht9 hW => ⟨(-1), rfl, (by apply hx_of; omega), ht9⟩) t_nil dX6_hex_36
    · skip
      -- 22 f
      refine lv_iload_n hx hb dX6_hex_25 rfl (lv_at hl 0 rfl) ?_
      refine xr_bipush hx hb dX6_hex_26 (by decide +kernel) ?_
      refine xr_isub (a := p0) (b := 97) hx hb dX6_hex_28 ?_
      refine xr_bipush hx hb dX6_hex_29 (by decide +kernel) ?_
      refine xr_iadd (a := p0 - 97) (b := 10) hx hb dX6_hex_31 ?_
      refine lv_goto (tgt := 36) hx hb dX6_hex_32 (by decide) ?_
      exact W.iret (v := iI ((p0 - 97) + 10)) hx hb hr (fun t ht9 hW => ⟨(p0 - 97) + 10, rfl, (by apply hx_of; omega), ht9⟩) t_nil dX6_hex_36
  · skip
    -- 4 f
    refine lv_iload_n hx hb dX6_hex_7 rfl (lv_at hl 0 rfl) ?_
    refine xr_bipush hx hb dX6_hex_8 (by decide +kernel) ?_
    refine xr_isub (a := p0) (b := 48) hx hb dX6_hex_10 ?_
    refine lv_goto (tgt := 36) hx hb dX6_hex_11 (by decide) ?_
    exact W.iret (v := iI (p0 - 48)) hx hb hr (fun t ht9 hW => ⟨p0 - 48, rfl, (by apply hx_of; omega), ht9⟩) t_nil dX6_hex_36
set_option maxHeartbeats 4000000 in
set_option maxRecDepth 100000 in
theorem c_X6_thrown (l : Launch) (D : va_G) (a : Nat → Nat) (k : Nat → ClassId) (I : Nat → Int) (F : Nat → Int → Int)   : ro_M l yX6_thrown cX6_thrown 1 (some .int) 0 [.ref (a 0)] D (mT k) (mW a k I F) (fun r => r = I 0) := by
  refine me_start (by decide) (Nat.le_of_ble_eq_true rfl) rfl ?_
  intro p e s m below meth c hx hb hml hr hown hlocks hnm hG hK hP ls hl
  have hown : s.vm.findClass RX6 = some m.cls := hown
  have hl : lv_has ls 1 [(0, .ref (a 0))] := hl
  refine lv_aload_n hx hb dX6_thrown_0 rfl (lv_at hl 0 rfl) ?_
  refine va_get (D := D) (cl := vwC) (ci := 7) (v := .int (iI (I 0))) (C := RX6) (T := TX6) (N := 27) hx hb hG.use i_X6 hown hK hP 0 rfl rfl 0 (by decide) (hG.use _ lf_X6_72) (fun _ h9 => h9) rfl dX6_thrown_1 ?_
  exact W.iret (v := iI (I 0)) hx hb hr (fun t ht9 hW => ⟨I 0, rfl, (by rfl), ht9⟩) t_nil dX6_thrown_4
set_option maxHeartbeats 4000000 in
set_option maxRecDepth 100000 in
theorem c_X6_isFile (l : Launch) (D : va_G) (a : Nat → Nat) (k : Nat → ClassId) (I : Nat → Int) (F : Nat → Int → Int) (p0 : Int) (b0 : -2147483648 ≤ p0 ∧ p0 < 2147483648) (h4 : 0 ≤ I 4 ∧ I 4 ≤ 40) : ro_M l yX6_isFile cX6_isFile 2 (some .boolean) 1 [.ref (a 0), .int (iI p0)] D (mT k) (mW a k I F) (fun r => bz (0 ≤ p0 ∧ p0 ≤ I 4 - 1) r) := by
  refine me_start (by decide) (Nat.le_of_ble_eq_true rfl) rfl ?_
  intro p e s m below meth c hx hb hml hr hown hlocks hnm hG hK hP ls hl
  have hown : s.vm.findClass RX6 = some m.cls := hown
  have hl : lv_has ls 2 [(0, .ref (a 0)), (1, .int (iI p0))] := hl
  refine lv_iload_n hx hb dX6_isFile_0 rfl (lv_at hl 1 rfl) ?_
  refine xr_iconst hx hb dX6_isFile_1 ?_
  refine lv_aload_n hx hb dX6_isFile_2 rfl (lv_at hl 0 rfl) ?_
  refine va_get (D := D) (cl := vwC) (ci := 7) (v := .int (iI (I 4))) (C := RX6) (T := TX6) (N := 27) hx hb hG.use i_X6 hown hK hP 0 rfl rfl 11 (by decide) (hG.use _ lf_X6_76) (fun _ h9 => h9) rfl dX6_isFile_3 ?_
  refine xr_iconst hx hb dX6_isFile_6 ?_
  refine xr_isub (a := I 4) (b := 1) hx hb dX6_isFile_7 ?_
  refine ro_call (g_runS (rest := []) hx hb hml hown hG (hK.sub (tys' := []) [] rfl) (va_P0) mS_X6_in (c_X6_in l D p0 0 ((I 4) - 1) (by omega) (by omega) (by omega)) lk_X6_79 rfl hl.1 rfl (Nat.le_of_ble_eq_true rfl) ⟨(Nat.le_of_ble_eq_true rfl), (Nat.le_of_ble_eq_true rfl)⟩ ⟨(Nat.le_of_ble_eq_true rfl), (Nat.le_of_ble_eq_true rfl)⟩ dX6_isFile_8) (fun r_1 q_2 => ?_)
  exact W.zret (v := iI r_1) hx hb hr (bz_nar (bz_01 q_2)) (fun t ht9 hW => ⟨r_1, rfl, (by assumption), ht9⟩) t_nil dX6_isFile_11
set_option maxHeartbeats 4000000 in
set_option maxRecDepth 100000 in
theorem c_X6_look (l : Launch) (D : va_G) (a : Nat → Nat) (k : Nat → ClassId) (I : Nat → Int) (F : Nat → Int → Int) (n ta : Int) (e1 : I 1 = n) (e2 : I 2 = ta) (ht : txt (F 1) n) (ha : 0 ≤ ta ∧ ta ≤ n) : ro_M l yX6_look cX6_look 1 (some .int) 0 [.ref (a 0)] D (mT k) (mW a k I F) (fun r => r = lk (F 1) n ta) := by
  refine me_start (by decide) (Nat.le_of_ble_eq_true rfl) rfl ?_
  intro p e s m below meth c hx hb hml hr hown hlocks hnm hG hK hP ls hl
  have hown : s.vm.findClass RX6 = some m.cls := hown
  have hl : lv_has ls 1 [(0, .ref (a 0))] := hl
  subst e1
  subst e2
  have hn60 := ht.1
  refine lv_aload_n hx hb dX6_look_0 rfl (lv_at hl 0 rfl) ?_
  refine va_get (D := D) (cl := vwC) (ci := 7) (v := .int (iI (I 2))) (C := RX6) (T := TX6) (N := 27) hx hb hG.use i_X6 hown hK hP 0 rfl rfl 3 (by decide) (hG.use _ lf_X6_86) (fun _ h9 => h9) rfl dX6_look_1 ?_
  refine lv_aload_n hx hb dX6_look_4 rfl (lv_at hl 0 rfl) ?_
  refine va_get (D := D) (cl := vwC) (ci := 7) (v := .int (iI (I 1))) (C := RX6) (T := TX6) (N := 27) hx hb hG.use i_X6 hown hK hP 0 rfl rfl 1 (by decide) (hG.use _ lf_X6_83) (fun _ h9 => h9) rfl dX6_look_5 ?_
  refine xr_icmp_ge (a := I 2) (b := I 1) (tgt := 27) hx hb dX6_look_8 (by decide) (fun c_1 => ?_) (fun c_1 => ?_) (by omega) (by omega)
  · skip
    -- 8 t
    refine xr_iconst hx hb dX6_look_27 ?_
    exact W.iret (v := iI (-1)) hx hb hr (fun t ht9 hW => ⟨(-1), rfl, (by apply lk_of; omega), ht9⟩) t_nil dX6_look_28
  · skip
    -- 8 f
    refine lv_aload_n hx hb dX6_look_11 rfl (lv_at hl 0 rfl) ?_
    refine va_get (D := D) (cl := vwC) (ci := 7) (v := .ref (a 1)) (C := RX6) (T := TX6) (N := 27) hx hb hG.use i_X6 hown hK hP 0 rfl rfl 2 (by decide) (hG.use _ lf_X6_7) (fun _ h9 => h9) rfl dX6_look_12 ?_
    refine lv_aload_n hx hb dX6_look_15 rfl (lv_at hl 0 rfl) ?_
    refine va_get (D := D) (cl := vwC) (ci := 7) (v := .int (iI (I 2))) (C := RX6) (T := TX6) (N := 27) hx hb hG.use i_X6 hown hK hP 0 rfl rfl 3 (by decide) (hG.use _ lf_X6_86) (fun _ h9 => h9) rfl dX6_look_16 ?_
    refine xr_bald (f := F 1) (z := I 2) hx hb hK hP 1 0 rfl rfl (by omega) (by omega) (by decide) dX6_look_19 ?_
    have f_t := ht.2 (I 2) (by omega) (by omega)
    refine xr_sipush hx hb dX6_look_20 (by decide +kernel) ?_
    refine xr_and255b (z := (F 1) (I 2)) hx hb (by omega) (by omega) dX6_look_23 ?_
    refine lv_goto (tgt := 28) hx hb dX6_look_24 (by decide) ?_
    exact W.iret (v := iI ((F 1) (I 2))) hx hb hr (fun t ht9 hW => ⟨(F 1) (I 2), rfl, (by apply lk_of; omega), ht9⟩) t_nil dX6_look_28
set_option maxHeartbeats 4000000 in
set_option maxRecDepth 100000 in
theorem c_X6_meetsAt (l : Launch) (D : va_G) (a : Nat → Nat) (k : Nat → ClassId) (I : Nat → Int) (F : Nat → Int → Int) (p0 p1 : Int) (hv : mInv I F) (h0 : 0 ≤ p0 ∧ p0 < I 3) (h1 : 0 ≤ p1 ∧ p1 < I 4) : ro_M l yX6_meetsAt cX6_meetsAt 6 (some .boolean) 0 [.ref (a 0), .int (iI p0), .int (iI p1)] D (mT k) (mW a k I F) (fun r => bz (mfit F p0 p1) r) := by
  refine me_start (by decide) (Nat.le_of_ble_eq_true rfl) rfl ?_
  intro p e s m below meth c hx hb hml hr hown hlocks hnm hG hK hP ls hl
  have hown : s.vm.findClass RX6 = some m.cls := hown
  have hl : lv_has ls 6 [(0, .ref (a 0)), (1, .int (iI p0)), (2, .int (iI p1))] := hl
  have f_n := hv.n
  have f_rw := hv.rw p0 (by omega) (by omega)
  have f_fl := hv.fl p1 (by omega) (by omega)
  refine lv_aload_n hx hb dX6_meetsAt_0 rfl (lv_at hl 0 rfl) ?_
  refine va_get (D := D) (cl := vwC) (ci := 7) (v := .ref (a 5)) (C := RX6) (T := TX6) (N := 27) hx hb hG.use i_X6 hown hK hP 0 rfl rfl 8 (by decide) (hG.use _ lf_X6_23) (fun _ h9 => h9) rfl dX6_meetsAt_1 ?_
  refine lv_iload_n hx hb dX6_meetsAt_4 rfl (lv_at hl 1 rfl) ?_
  refine xr_zald (f := F 5) (z := p0) hx hb hK hP 5 4 rfl rfl (by omega) (by omega) (by decide) dX6_meetsAt_5 ?_
  refine xr_if_eq (a := (F 5) p0) (tgt := 25) hx hb dX6_meetsAt_6 (by decide) (fun c_1 => ?_) (fun c_1 => ?_) (by omega)
  · skip
    -- 6 t
    refine lv_aload_n hx hb dX6_meetsAt_25 rfl (lv_at hl 0 rfl) ?_
    refine va_get (D := D) (cl := vwC) (ci := 7) (v := .ref (a 4)) (C := RX6) (T := TX6) (N := 27) hx hb hG.use i_X6 hown hK hP 0 rfl rfl 7 (by decide) (hG.use _ lf_X6_20) (fun _ h9 => h9) rfl dX6_meetsAt_26 ?_
    refine lv_iload_n hx hb dX6_meetsAt_29 rfl (lv_at hl 1 rfl) ?_
    refine xr_iald (f := F 4) (z := p0) hx hb hK hP 4 3 rfl rfl (by omega) (by omega) (by decide) dX6_meetsAt_30 ?_
    refine lv_istore_n (lv' := [(3, .int (iI ((F 4) p0))), (0, .ref (a 0)), (1, .int (iI p0)), (2, .int (iI p1))]) hx hb dX6_meetsAt_31 rfl hl (by decide) rfl (fun ls hl => ?_)
    obtain ⟨fr, efr⟩ : ∃ z : Int, z = (F 4) p0 := ⟨_, rfl⟩
    rw [← efr] at hl
    have est : fr = (if F 5 p0 = 1 then F 8 p1 - F 4 p0 else F 4 p0) := by
      rw [efr]
      first
      | rw [if_pos (by omega)]
      | rw [if_neg (by omega)]
    have hF : mfit F p0 p1 ↔ (0 ≤ fr ∧ fr + F 6 p0 ≤ F 8 p1 ∧ ∀ j : Int, 0 ≤ j → j < F 6 p0 → F 7 (12 * p0 + j) = 256 ∨ F 7 (12 * p0 + j) = F 9 (60 * p1 + fr + j)) := by
      unfold mfit fitP
      rw [← est]
      simp only [Int.add_assoc]
    refine lv_iload_n hx hb dX6_meetsAt_32 rfl (lv_at hl 0 rfl) ?_
    refine xr_if_lt (a := fr) (tgt := 53) hx hb dX6_meetsAt_33 (by decide) (fun c_2 => ?_) (fun c_2 => ?_) (by omega)
    · skip
      -- 33 t
      refine xr_iconst hx hb dX6_meetsAt_53 ?_
      exact W.zret (v := iI 0) hx hb hr (bz_nar (by omega)) (fun t ht9 hW => ⟨0, rfl, (by exact bz_f (fun h => by have h2 := hF.mp h; omega)), ht9⟩) t_nil dX6_meetsAt_54
    · skip
      -- 33 f
      refine lv_iload_n hx hb dX6_meetsAt_36 rfl (lv_at hl 0 rfl) ?_
      refine lv_aload_n hx hb dX6_meetsAt_37 rfl (lv_at hl 1 rfl) ?_
      refine va_get (D := D) (cl := vwC) (ci := 7) (v := .ref (a 6)) (C := RX6) (T := TX6) (N := 27) hx hb hG.use i_X6 hown hK hP 0 rfl rfl 9 (by decide) (hG.use _ lf_X6_27) (fun _ h9 => h9) rfl dX6_meetsAt_38 ?_
      refine lv_iload_n hx hb dX6_meetsAt_41 rfl (lv_at hl 2 rfl) ?_
      refine xr_iald (f := F 6) (z := p0) hx hb hK hP 6 5 rfl rfl (by omega) (by omega) (by decide) dX6_meetsAt_42 ?_
      refine xr_iadd (a := fr) (b := (F 6) p0) hx hb dX6_meetsAt_43 ?_
      refine lv_aload_n hx hb dX6_meetsAt_44 rfl (lv_at hl 1 rfl) ?_
      refine va_get (D := D) (cl := vwC) (ci := 7) (v := .ref (a 8)) (C := RX6) (T := TX6) (N := 27) hx hb hG.use i_X6 hown hK hP 0 rfl rfl 12 (by decide) (hG.use _ lf_X6_33) (fun _ h9 => h9) rfl dX6_meetsAt_45 ?_
      refine lv_iload_n hx hb dX6_meetsAt_48 rfl (lv_at hl 3 rfl) ?_
      refine xr_iald (f := F 8) (z := p1) hx hb hK hP 8 7 rfl rfl (by omega) (by omega) (by decide) dX6_meetsAt_49 ?_
      refine xr_icmp_le (a := fr + ((F 6) p0)) (b := (F 8) p1) (tgt := 55) hx hb dX6_meetsAt_50 (by decide) (fun c_3 => ?_) (fun c_3 => ?_) (by omega) (by omega)
      · skip
        -- 50 t
        refine xr_iconst hx hb dX6_meetsAt_55 ?_
        refine lv_istore (lv' := [(4, .int (iI 1)), (3, .int (iI fr)), (0, .ref (a 0)), (1, .int (iI p0)), (2, .int (iI p1))]) hx hb dX6_meetsAt_56 hl (by decide) rfl (fun ls hl => ?_)
        refine xr_iconst hx hb dX6_meetsAt_58 ?_
        refine lv_istore (lv' := [(5, .int (iI 0)), (4, .int (iI 1)), (3, .int (iI fr)), (0, .ref (a 0)), (1, .int (iI p0)), (2, .int (iI p1))]) hx hb dX6_meetsAt_59 hl (by decide) rfl (fun ls hl => ?_)
        have lp_61 : ∀ (nz : Nat) (is : Int) (ki : Int), (F 6 p0 - ki).toNat < nz → (0 ≤ ki ∧ ki ≤ F 6 p0) → (bz (∀ j : Int, 0 ≤ j → j < ki → F 7 (12 * p0 + j) = 256 ∨ F 7 (12 * p0 + j) = F 9 (60 * p1 + fr + j)) is) → ∀ ls : Array Slot, lv_has ls 6 [(4, .int (iI is)), (5, .int (iI ki)), (0, .ref (a 0)), (1, .int (iI p0)), (2, .int (iI p1)), (3, .int (iI fr))] → W p l e (rmd 0) s m ([.ref (a 0), .int (iI p0), .int (iI p1)] : List Value).toArray below meth c s.heap [] 0 0 (MQ below (ro_Q (fun r => bz (mfit F p0 p1) r)) ([.ref (a 0), .int (iI p0), .int (iI p1)] : List Value).toArray s 0 0 (fun _ => False)) (F0 m 61 ls []) := by
          clear hl
          intro nz
          induction nz with
          | zero =>
            intro is ki hn
            exact absurd hn (Nat.not_lt_zero _)
          | succ n_61 ih_61 =>
            intro is ki hn_61 i0 i1 ls hl
            have f_z := bz_01 i1
            refine lv_iload hx hb dX6_meetsAt_61 (lv_at hl 1 rfl) ?_
            refine lv_aload_n hx hb dX6_meetsAt_63 rfl (lv_at hl 2 rfl) ?_
            refine va_get (D := D) (cl := vwC) (ci := 7) (v := .ref (a 6)) (C := RX6) (T := TX6) (N := 27) hx hb hG.use i_X6 hown hK hP 0 rfl rfl 9 (by decide) (hG.use _ lf_X6_27) (fun _ h9 => h9) rfl dX6_meetsAt_64 ?_
            refine lv_iload_n hx hb dX6_meetsAt_67 rfl (lv_at hl 3 rfl) ?_
            refine xr_iald (f := F 6) (z := p0) hx hb hK hP 6 5 rfl rfl (by omega) (by omega) (by decide) dX6_meetsAt_68 ?_
            refine xr_icmp_ge (a := ki) (b := (F 6) p0) (tgt := 141) hx hb dX6_meetsAt_69 (by decide) (fun c_4 => ?_) (fun c_4 => ?_) (by omega) (by omega)
            · skip
              -- 69 t
              refine lv_iload hx hb dX6_meetsAt_141 (lv_at hl 0 rfl) ?_
              exact W.zret (v := iI is) hx hb hr (bz_nar (by omega)) (fun t ht9 hW => ⟨is, rfl, (by exact bz_iff i1 ⟨fun hz => hF.mpr ⟨by omega, by omega, fun j j0 j1 => hz j j0 (by omega)⟩, fun hz j j0 j1 => (hF.mp hz).2.2 j j0 (by omega)⟩), ht9⟩) t_nil dX6_meetsAt_143
            · skip
              -- 69 f
              refine lv_iload hx hb dX6_meetsAt_72 (lv_at hl 0 rfl) ?_
              refine xr_if_eq (a := is) (tgt := 132) hx hb dX6_meetsAt_74 (by decide) (fun c_5 => ?_) (fun c_5 => ?_) (by omega)
              · skip
                -- 74 t
                refine xr_iconst hx hb dX6_meetsAt_132 ?_
                refine lv_istore (lv' := [(4, .int (iI 0)), (5, .int (iI ki)), (0, .ref (a 0)), (1, .int (iI p0)), (2, .int (iI p1)), (3, .int (iI fr))]) hx hb dX6_meetsAt_133 hl (by decide) rfl (fun ls hl => ?_)
                refine xr_iinc (z := ki) (lv' := [(5, .int (iI (ki + 1))), (4, .int (iI 0)), (0, .ref (a 0)), (1, .int (iI p0)), (2, .int (iI p1)), (3, .int (iI fr))]) hx hb dX6_meetsAt_135 hl (k := 1) rfl (by decide) rfl (fun ls hl => ?_)
                refine lv_goto (tgt := 61) hx hb dX6_meetsAt_138 (by decide) ?_
                exact ih_61 0 (ki + 1) (by omega) (by omega) (by first | (refine bz_t (fun j j0 j1 => ?_); by_cases h : j = ki; (rw [h]; omega); exact (show (∀ j : Int, 0 ≤ j → j < ki → F 7 (12 * p0 + j) = 256 ∨ F 7 (12 * p0 + j) = F 9 (60 * p1 + fr + j)) by rcases i1 with i1 | i1; exact i1.2; omega) j j0 (by omega)) | (refine bz_f (fun hz => ?_); have hk := hz ki (by omega) (by omega); omega) | (refine bz_f (fun hz => ?_); rcases i1 with i1 | i1; omega; exact i1.2 (fun j j0 j1 => hz j j0 (by omega)))) ls (lv_sub hl [1, 0, 2, 3, 4, 5] rfl)
              · skip
                -- 74 f
                refine lv_aload_n hx hb dX6_meetsAt_77 rfl (lv_at hl 2 rfl) ?_
                refine va_get (D := D) (cl := vwC) (ci := 7) (v := .ref (a 7)) (C := RX6) (T := TX6) (N := 27) hx hb hG.use i_X6 hown hK hP 0 rfl rfl 10 (by decide) (hG.use _ lf_X6_30) (fun _ h9 => h9) rfl dX6_meetsAt_78 ?_
                refine xr_bipush hx hb dX6_meetsAt_81 (by decide +kernel) ?_
                refine lv_iload_n hx hb dX6_meetsAt_83 rfl (lv_at hl 3 rfl) ?_
                refine xr_imul (a := 12) (b := p0) hx hb dX6_meetsAt_84 ?_
                refine lv_iload hx hb dX6_meetsAt_85 (lv_at hl 1 rfl) ?_
                refine xr_iadd (a := 12 * p0) (b := ki) hx hb dX6_meetsAt_87 ?_
                refine xr_iald (f := F 7) (z := (12 * p0) + ki) hx hb hK hP 7 6 rfl rfl (by omega) (by omega) (by decide) dX6_meetsAt_88 ?_
                have f_p := hv.pt p0 ki (by omega) (by omega) (by omega) (by omega)
                refine xr_sipush hx hb dX6_meetsAt_89 (by decide +kernel) ?_
                refine xr_icmp_eq (a := (F 7) ((12 * p0) + ki)) (b := 256) (tgt := 128) hx hb dX6_meetsAt_92 (by decide) (fun c_6 => ?_) (fun c_6 => ?_) (by omega) (by omega)
                · skip
                  -- 92 t
                  refine xr_iconst hx hb dX6_meetsAt_128 ?_
                  refine lv_goto (tgt := 133) hx hb dX6_meetsAt_129 (by decide) ?_
                  refine lv_istore (lv' := [(4, .int (iI 1)), (5, .int (iI ki)), (0, .ref (a 0)), (1, .int (iI p0)), (2, .int (iI p1)), (3, .int (iI fr))]) hx hb dX6_meetsAt_133 hl (by decide) rfl (fun ls hl => ?_)
                  refine xr_iinc (z := ki) (lv' := [(5, .int (iI (ki + 1))), (4, .int (iI 1)), (0, .ref (a 0)), (1, .int (iI p0)), (2, .int (iI p1)), (3, .int (iI fr))]) hx hb dX6_meetsAt_135 hl (k := 1) rfl (by decide) rfl (fun ls hl => ?_)
                  refine lv_goto (tgt := 61) hx hb dX6_meetsAt_138 (by decide) ?_
                  exact ih_61 1 (ki + 1) (by omega) (by omega) (by first | (refine bz_t (fun j j0 j1 => ?_); by_cases h : j = ki; (rw [h]; omega); exact (show (∀ j : Int, 0 ≤ j → j < ki → F 7 (12 * p0 + j) = 256 ∨ F 7 (12 * p0 + j) = F 9 (60 * p1 + fr + j)) by rcases i1 with i1 | i1; exact i1.2; omega) j j0 (by omega)) | (refine bz_f (fun hz => ?_); have hk := hz ki (by omega) (by omega); omega) | (refine bz_f (fun hz => ?_); rcases i1 with i1 | i1; omega; exact i1.2 (fun j j0 j1 => hz j j0 (by omega)))) ls (lv_sub hl [1, 0, 2, 3, 4, 5] rfl)
                · skip
                  -- 92 f
                  refine lv_aload_n hx hb dX6_meetsAt_95 rfl (lv_at hl 2 rfl) ?_
                  refine va_get (D := D) (cl := vwC) (ci := 7) (v := .ref (a 7)) (C := RX6) (T := TX6) (N := 27) hx hb hG.use i_X6 hown hK hP 0 rfl rfl 10 (by decide) (hG.use _ lf_X6_30) (fun _ h9 => h9) rfl dX6_meetsAt_96 ?_
                  refine xr_bipush hx hb dX6_meetsAt_99 (by decide +kernel) ?_
                  refine lv_iload_n hx hb dX6_meetsAt_101 rfl (lv_at hl 3 rfl) ?_
                  refine xr_imul (a := 12) (b := p0) hx hb dX6_meetsAt_102 ?_
                  refine lv_iload hx hb dX6_meetsAt_103 (lv_at hl 1 rfl) ?_
                  refine xr_iadd (a := 12 * p0) (b := ki) hx hb dX6_meetsAt_105 ?_
                  refine xr_iald (f := F 7) (z := (12 * p0) + ki) hx hb hK hP 7 6 rfl rfl (by omega) (by omega) (by decide) dX6_meetsAt_106 ?_
                  have f_p := hv.pt p0 ki (by omega) (by omega) (by omega) (by omega)
                  refine lv_aload_n hx hb dX6_meetsAt_107 rfl (lv_at hl 2 rfl) ?_
                  refine va_get (D := D) (cl := vwC) (ci := 7) (v := .ref (a 9)) (C := RX6) (T := TX6) (N := 27) hx hb hG.use i_X6 hown hK hP 0 rfl rfl 13 (by decide) (hG.use _ lf_X6_36) (fun _ h9 => h9) rfl dX6_meetsAt_108 ?_
                  refine xr_bipush hx hb dX6_meetsAt_111 (by decide +kernel) ?_
                  refine lv_iload_n hx hb dX6_meetsAt_113 rfl (lv_at hl 4 rfl) ?_
                  refine xr_imul (a := 60) (b := p1) hx hb dX6_meetsAt_114 ?_
                  refine lv_iload_n hx hb dX6_meetsAt_115 rfl (lv_at hl 5 rfl) ?_
                  refine xr_iadd (a := 60 * p1) (b := fr) hx hb dX6_meetsAt_116 ?_
                  refine lv_iload hx hb dX6_meetsAt_117 (lv_at hl 1 rfl) ?_
                  refine xr_iadd (a := (60 * p1) + fr) (b := ki) hx hb dX6_meetsAt_119 ?_
                  refine xr_bald (f := F 9) (z := ((60 * p1) + fr) + ki) hx hb hK hP 9 8 rfl rfl (by omega) (by omega) (by decide) dX6_meetsAt_120 ?_
                  have f_b := hv.byt p1 (fr + ki) (by omega) (by omega) (by omega) (by omega)
                  rw [show 60 * p1 + (fr + ki) = 60 * p1 + fr + ki by omega] at f_b
                  refine xr_sipush hx hb dX6_meetsAt_121 (by decide +kernel) ?_
                  refine xr_and255b (z := (F 9) (((60 * p1) + fr) + ki)) hx hb (by omega) (by omega) dX6_meetsAt_124 ?_
                  refine xr_icmp_ne (a := (F 7) ((12 * p0) + ki)) (b := (F 9) (((60 * p1) + fr) + ki)) (tgt := 132) hx hb dX6_meetsAt_125 (by decide) (fun c_7 => ?_) (fun c_7 => ?_) (by omega) (by omega)
                  · skip
                    -- 125 t
                    refine xr_iconst hx hb dX6_meetsAt_132 ?_
                    refine lv_istore (lv' := [(4, .int (iI 0)), (5, .int (iI ki)), (0, .ref (a 0)), (1, .int (iI p0)), (2, .int (iI p1)), (3, .int (iI fr))]) hx hb dX6_meetsAt_133 hl (by decide) rfl (fun ls hl => ?_)
                    refine xr_iinc (z := ki) (lv' := [(5, .int (iI (ki + 1))), (4, .int (iI 0)), (0, .ref (a 0)), (1, .int (iI p0)), (2, .int (iI p1)), (3, .int (iI fr))]) hx hb dX6_meetsAt_135 hl (k := 1) rfl (by decide) rfl (fun ls hl => ?_)
                    refine lv_goto (tgt := 61) hx hb dX6_meetsAt_138 (by decide) ?_
                    exact ih_61 0 (ki + 1) (by omega) (by omega) (by first | (refine bz_t (fun j j0 j1 => ?_); by_cases h : j = ki; (rw [h]; omega); exact (show (∀ j : Int, 0 ≤ j → j < ki → F 7 (12 * p0 + j) = 256 ∨ F 7 (12 * p0 + j) = F 9 (60 * p1 + fr + j)) by rcases i1 with i1 | i1; exact i1.2; omega) j j0 (by omega)) | (refine bz_f (fun hz => ?_); have hk := hz ki (by omega) (by omega); omega) | (refine bz_f (fun hz => ?_); rcases i1 with i1 | i1; omega; exact i1.2 (fun j j0 j1 => hz j j0 (by omega)))) ls (lv_sub hl [1, 0, 2, 3, 4, 5] rfl)
                  · skip
                    -- 125 f
                    refine xr_iconst hx hb dX6_meetsAt_128 ?_
                    refine lv_goto (tgt := 133) hx hb dX6_meetsAt_129 (by decide) ?_
                    refine lv_istore (lv' := [(4, .int (iI 1)), (5, .int (iI ki)), (0, .ref (a 0)), (1, .int (iI p0)), (2, .int (iI p1)), (3, .int (iI fr))]) hx hb dX6_meetsAt_133 hl (by decide) rfl (fun ls hl => ?_)
                    refine xr_iinc (z := ki) (lv' := [(5, .int (iI (ki + 1))), (4, .int (iI 1)), (0, .ref (a 0)), (1, .int (iI p0)), (2, .int (iI p1)), (3, .int (iI fr))]) hx hb dX6_meetsAt_135 hl (k := 1) rfl (by decide) rfl (fun ls hl => ?_)
                    refine lv_goto (tgt := 61) hx hb dX6_meetsAt_138 (by decide) ?_
                    exact ih_61 1 (ki + 1) (by omega) (by omega) (by first | (refine bz_t (fun j j0 j1 => ?_); by_cases h : j = ki; (rw [h]; omega); exact (show (∀ j : Int, 0 ≤ j → j < ki → F 7 (12 * p0 + j) = 256 ∨ F 7 (12 * p0 + j) = F 9 (60 * p1 + fr + j)) by rcases i1 with i1 | i1; exact i1.2; omega) j j0 (by omega)) | (refine bz_f (fun hz => ?_); have hk := hz ki (by omega) (by omega); omega) | (refine bz_f (fun hz => ?_); rcases i1 with i1 | i1; omega; exact i1.2 (fun j j0 j1 => hz j j0 (by omega)))) ls (lv_sub hl [1, 0, 2, 3, 4, 5] rfl)
        exact lp_61 _ 1 0 (Nat.lt_succ_self _) (by omega) (by exact bz_t (fun j j0 j1 => by omega)) ls (lv_sub hl [1, 0, 3, 4, 5, 2] rfl)
      · skip
        -- 50 f
        refine xr_iconst hx hb dX6_meetsAt_53 ?_
        exact W.zret (v := iI 0) hx hb hr (bz_nar (by omega)) (fun t ht9 hW => ⟨0, rfl, (by exact bz_f (fun h => by have h2 := hF.mp h; omega)), ht9⟩) t_nil dX6_meetsAt_54
  · skip
    -- 6 f
    refine lv_aload_n hx hb dX6_meetsAt_9 rfl (lv_at hl 0 rfl) ?_
    refine va_get (D := D) (cl := vwC) (ci := 7) (v := .ref (a 8)) (C := RX6) (T := TX6) (N := 27) hx hb hG.use i_X6 hown hK hP 0 rfl rfl 12 (by decide) (hG.use _ lf_X6_33) (fun _ h9 => h9) rfl dX6_meetsAt_10 ?_
    refine lv_iload_n hx hb dX6_meetsAt_13 rfl (lv_at hl 2 rfl) ?_
    refine xr_iald (f := F 8) (z := p1) hx hb hK hP 8 7 rfl rfl (by omega) (by omega) (by decide) dX6_meetsAt_14 ?_
    refine lv_aload_n hx hb dX6_meetsAt_15 rfl (lv_at hl 0 rfl) ?_
    refine va_get (D := D) (cl := vwC) (ci := 7) (v := .ref (a 4)) (C := RX6) (T := TX6) (N := 27) hx hb hG.use i_X6 hown hK hP 0 rfl rfl 7 (by decide) (hG.use _ lf_X6_20) (fun _ h9 => h9) rfl dX6_meetsAt_16 ?_
    refine lv_iload_n hx hb dX6_meetsAt_19 rfl (lv_at hl 1 rfl) ?_
    refine xr_iald (f := F 4) (z := p0) hx hb hK hP 4 3 rfl rfl (by omega) (by omega) (by decide) dX6_meetsAt_20 ?_
    refine xr_isub (a := (F 8) p1) (b := (F 4) p0) hx hb dX6_meetsAt_21 ?_
    refine lv_goto (tgt := 31) hx hb dX6_meetsAt_22 (by decide) ?_
    refine lv_istore_n (lv' := [(3, .int (iI (((F 8) p1) - ((F 4) p0)))), (0, .ref (a 0)), (1, .int (iI p0)), (2, .int (iI p1))]) hx hb dX6_meetsAt_31 rfl hl (by decide) rfl (fun ls hl => ?_)
    obtain ⟨fr, efr⟩ : ∃ z : Int, z = ((F 8) p1) - ((F 4) p0) := ⟨_, rfl⟩
    rw [← efr] at hl
    have est : fr = (if F 5 p0 = 1 then F 8 p1 - F 4 p0 else F 4 p0) := by
      rw [efr]
      first
      | rw [if_pos (by omega)]
      | rw [if_neg (by omega)]
    have hF : mfit F p0 p1 ↔ (0 ≤ fr ∧ fr + F 6 p0 ≤ F 8 p1 ∧ ∀ j : Int, 0 ≤ j → j < F 6 p0 → F 7 (12 * p0 + j) = 256 ∨ F 7 (12 * p0 + j) = F 9 (60 * p1 + fr + j)) := by
      unfold mfit fitP
      rw [← est]
      simp only [Int.add_assoc]
    refine lv_iload_n hx hb dX6_meetsAt_32 rfl (lv_at hl 0 rfl) ?_
    refine xr_if_lt (a := fr) (tgt := 53) hx hb dX6_meetsAt_33 (by decide) (fun c_8 => ?_) (fun c_8 => ?_) (by omega)
    · skip
      -- 33 t
      refine xr_iconst hx hb dX6_meetsAt_53 ?_
      exact W.zret (v := iI 0) hx hb hr (bz_nar (by omega)) (fun t ht9 hW => ⟨0, rfl, (by exact bz_f (fun h => by have h2 := hF.mp h; omega)), ht9⟩) t_nil dX6_meetsAt_54
    · skip
      -- 33 f
      refine lv_iload_n hx hb dX6_meetsAt_36 rfl (lv_at hl 0 rfl) ?_
      refine lv_aload_n hx hb dX6_meetsAt_37 rfl (lv_at hl 1 rfl) ?_
      refine va_get (D := D) (cl := vwC) (ci := 7) (v := .ref (a 6)) (C := RX6) (T := TX6) (N := 27) hx hb hG.use i_X6 hown hK hP 0 rfl rfl 9 (by decide) (hG.use _ lf_X6_27) (fun _ h9 => h9) rfl dX6_meetsAt_38 ?_
      refine lv_iload_n hx hb dX6_meetsAt_41 rfl (lv_at hl 2 rfl) ?_
      refine xr_iald (f := F 6) (z := p0) hx hb hK hP 6 5 rfl rfl (by omega) (by omega) (by decide) dX6_meetsAt_42 ?_
      refine xr_iadd (a := fr) (b := (F 6) p0) hx hb dX6_meetsAt_43 ?_
      refine lv_aload_n hx hb dX6_meetsAt_44 rfl (lv_at hl 1 rfl) ?_
      refine va_get (D := D) (cl := vwC) (ci := 7) (v := .ref (a 8)) (C := RX6) (T := TX6) (N := 27) hx hb hG.use i_X6 hown hK hP 0 rfl rfl 12 (by decide) (hG.use _ lf_X6_33) (fun _ h9 => h9) rfl dX6_meetsAt_45 ?_
      refine lv_iload_n hx hb dX6_meetsAt_48 rfl (lv_at hl 3 rfl) ?_
      refine xr_iald (f := F 8) (z := p1) hx hb hK hP 8 7 rfl rfl (by omega) (by omega) (by decide) dX6_meetsAt_49 ?_
      refine xr_icmp_le (a := fr + ((F 6) p0)) (b := (F 8) p1) (tgt := 55) hx hb dX6_meetsAt_50 (by decide) (fun c_9 => ?_) (fun c_9 => ?_) (by omega) (by omega)
      · skip
        -- 50 t
        refine xr_iconst hx hb dX6_meetsAt_55 ?_
        refine lv_istore (lv' := [(4, .int (iI 1)), (3, .int (iI fr)), (0, .ref (a 0)), (1, .int (iI p0)), (2, .int (iI p1))]) hx hb dX6_meetsAt_56 hl (by decide) rfl (fun ls hl => ?_)
        refine xr_iconst hx hb dX6_meetsAt_58 ?_
        refine lv_istore (lv' := [(5, .int (iI 0)), (4, .int (iI 1)), (3, .int (iI fr)), (0, .ref (a 0)), (1, .int (iI p0)), (2, .int (iI p1))]) hx hb dX6_meetsAt_59 hl (by decide) rfl (fun ls hl => ?_)
        have lp_61 : ∀ (nz : Nat) (is : Int) (ki : Int), (F 6 p0 - ki).toNat < nz → (0 ≤ ki ∧ ki ≤ F 6 p0) → (bz (∀ j : Int, 0 ≤ j → j < ki → F 7 (12 * p0 + j) = 256 ∨ F 7 (12 * p0 + j) = F 9 (60 * p1 + fr + j)) is) → ∀ ls : Array Slot, lv_has ls 6 [(4, .int (iI is)), (5, .int (iI ki)), (0, .ref (a 0)), (1, .int (iI p0)), (2, .int (iI p1)), (3, .int (iI fr))] → W p l e (rmd 0) s m ([.ref (a 0), .int (iI p0), .int (iI p1)] : List Value).toArray below meth c s.heap [] 0 0 (MQ below (ro_Q (fun r => bz (mfit F p0 p1) r)) ([.ref (a 0), .int (iI p0), .int (iI p1)] : List Value).toArray s 0 0 (fun _ => False)) (F0 m 61 ls []) := by
          clear hl
          intro nz
          induction nz with
          | zero =>
            intro is ki hn
            exact absurd hn (Nat.not_lt_zero _)
          | succ n_61 ih_61 =>
            intro is ki hn_61 i0 i1 ls hl
            have f_z := bz_01 i1
            refine lv_iload hx hb dX6_meetsAt_61 (lv_at hl 1 rfl) ?_
            refine lv_aload_n hx hb dX6_meetsAt_63 rfl (lv_at hl 2 rfl) ?_
            refine va_get (D := D) (cl := vwC) (ci := 7) (v := .ref (a 6)) (C := RX6) (T := TX6) (N := 27) hx hb hG.use i_X6 hown hK hP 0 rfl rfl 9 (by decide) (hG.use _ lf_X6_27) (fun _ h9 => h9) rfl dX6_meetsAt_64 ?_
            refine lv_iload_n hx hb dX6_meetsAt_67 rfl (lv_at hl 3 rfl) ?_
            refine xr_iald (f := F 6) (z := p0) hx hb hK hP 6 5 rfl rfl (by omega) (by omega) (by decide) dX6_meetsAt_68 ?_
            refine xr_icmp_ge (a := ki) (b := (F 6) p0) (tgt := 141) hx hb dX6_meetsAt_69 (by decide) (fun c_10 => ?_) (fun c_10 => ?_) (by omega) (by omega)
            · skip
              -- 69 t
              refine lv_iload hx hb dX6_meetsAt_141 (lv_at hl 0 rfl) ?_
              exact W.zret (v := iI is) hx hb hr (bz_nar (by omega)) (fun t ht9 hW => ⟨is, rfl, (by exact bz_iff i1 ⟨fun hz => hF.mpr ⟨by omega, by omega, fun j j0 j1 => hz j j0 (by omega)⟩, fun hz j j0 j1 => (hF.mp hz).2.2 j j0 (by omega)⟩), ht9⟩) t_nil dX6_meetsAt_143
            · skip
              -- 69 f
              refine lv_iload hx hb dX6_meetsAt_72 (lv_at hl 0 rfl) ?_
              refine xr_if_eq (a := is) (tgt := 132) hx hb dX6_meetsAt_74 (by decide) (fun c_11 => ?_) (fun c_11 => ?_) (by omega)
              · skip
                -- 74 t
                refine xr_iconst hx hb dX6_meetsAt_132 ?_
                refine lv_istore (lv' := [(4, .int (iI 0)), (5, .int (iI ki)), (0, .ref (a 0)), (1, .int (iI p0)), (2, .int (iI p1)), (3, .int (iI fr))]) hx hb dX6_meetsAt_133 hl (by decide) rfl (fun ls hl => ?_)
                refine xr_iinc (z := ki) (lv' := [(5, .int (iI (ki + 1))), (4, .int (iI 0)), (0, .ref (a 0)), (1, .int (iI p0)), (2, .int (iI p1)), (3, .int (iI fr))]) hx hb dX6_meetsAt_135 hl (k := 1) rfl (by decide) rfl (fun ls hl => ?_)
                refine lv_goto (tgt := 61) hx hb dX6_meetsAt_138 (by decide) ?_
                exact ih_61 0 (ki + 1) (by omega) (by omega) (by first | (refine bz_t (fun j j0 j1 => ?_); by_cases h : j = ki; (rw [h]; omega); exact (show (∀ j : Int, 0 ≤ j → j < ki → F 7 (12 * p0 + j) = 256 ∨ F 7 (12 * p0 + j) = F 9 (60 * p1 + fr + j)) by rcases i1 with i1 | i1; exact i1.2; omega) j j0 (by omega)) | (refine bz_f (fun hz => ?_); have hk := hz ki (by omega) (by omega); omega) | (refine bz_f (fun hz => ?_); rcases i1 with i1 | i1; omega; exact i1.2 (fun j j0 j1 => hz j j0 (by omega)))) ls (lv_sub hl [1, 0, 2, 3, 4, 5] rfl)
              · skip
                -- 74 f
                refine lv_aload_n hx hb dX6_meetsAt_77 rfl (lv_at hl 2 rfl) ?_
                refine va_get (D := D) (cl := vwC) (ci := 7) (v := .ref (a 7)) (C := RX6) (T := TX6) (N := 27) hx hb hG.use i_X6 hown hK hP 0 rfl rfl 10 (by decide) (hG.use _ lf_X6_30) (fun _ h9 => h9) rfl dX6_meetsAt_78 ?_
                refine xr_bipush hx hb dX6_meetsAt_81 (by decide +kernel) ?_
                refine lv_iload_n hx hb dX6_meetsAt_83 rfl (lv_at hl 3 rfl) ?_
                refine xr_imul (a := 12) (b := p0) hx hb dX6_meetsAt_84 ?_
                refine lv_iload hx hb dX6_meetsAt_85 (lv_at hl 1 rfl) ?_
                refine xr_iadd (a := 12 * p0) (b := ki) hx hb dX6_meetsAt_87 ?_
                refine xr_iald (f := F 7) (z := (12 * p0) + ki) hx hb hK hP 7 6 rfl rfl (by omega) (by omega) (by decide) dX6_meetsAt_88 ?_
                have f_p := hv.pt p0 ki (by omega) (by omega) (by omega) (by omega)
                refine xr_sipush hx hb dX6_meetsAt_89 (by decide +kernel) ?_
                refine xr_icmp_eq (a := (F 7) ((12 * p0) + ki)) (b := 256) (tgt := 128) hx hb dX6_meetsAt_92 (by decide) (fun c_12 => ?_) (fun c_12 => ?_) (by omega) (by omega)
                · skip
                  -- 92 t
                  refine xr_iconst hx hb dX6_meetsAt_128 ?_
                  refine lv_goto (tgt := 133) hx hb dX6_meetsAt_129 (by decide) ?_
                  refine lv_istore (lv' := [(4, .int (iI 1)), (5, .int (iI ki)), (0, .ref (a 0)), (1, .int (iI p0)), (2, .int (iI p1)), (3, .int (iI fr))]) hx hb dX6_meetsAt_133 hl (by decide) rfl (fun ls hl => ?_)
                  refine xr_iinc (z := ki) (lv' := [(5, .int (iI (ki + 1))), (4, .int (iI 1)), (0, .ref (a 0)), (1, .int (iI p0)), (2, .int (iI p1)), (3, .int (iI fr))]) hx hb dX6_meetsAt_135 hl (k := 1) rfl (by decide) rfl (fun ls hl => ?_)
                  refine lv_goto (tgt := 61) hx hb dX6_meetsAt_138 (by decide) ?_
                  exact ih_61 1 (ki + 1) (by omega) (by omega) (by first | (refine bz_t (fun j j0 j1 => ?_); by_cases h : j = ki; (rw [h]; omega); exact (show (∀ j : Int, 0 ≤ j → j < ki → F 7 (12 * p0 + j) = 256 ∨ F 7 (12 * p0 + j) = F 9 (60 * p1 + fr + j)) by rcases i1 with i1 | i1; exact i1.2; omega) j j0 (by omega)) | (refine bz_f (fun hz => ?_); have hk := hz ki (by omega) (by omega); omega) | (refine bz_f (fun hz => ?_); rcases i1 with i1 | i1; omega; exact i1.2 (fun j j0 j1 => hz j j0 (by omega)))) ls (lv_sub hl [1, 0, 2, 3, 4, 5] rfl)
                · skip
                  -- 92 f
                  refine lv_aload_n hx hb dX6_meetsAt_95 rfl (lv_at hl 2 rfl) ?_
                  refine va_get (D := D) (cl := vwC) (ci := 7) (v := .ref (a 7)) (C := RX6) (T := TX6) (N := 27) hx hb hG.use i_X6 hown hK hP 0 rfl rfl 10 (by decide) (hG.use _ lf_X6_30) (fun _ h9 => h9) rfl dX6_meetsAt_96 ?_
                  refine xr_bipush hx hb dX6_meetsAt_99 (by decide +kernel) ?_
                  refine lv_iload_n hx hb dX6_meetsAt_101 rfl (lv_at hl 3 rfl) ?_
                  refine xr_imul (a := 12) (b := p0) hx hb dX6_meetsAt_102 ?_
                  refine lv_iload hx hb dX6_meetsAt_103 (lv_at hl 1 rfl) ?_
                  refine xr_iadd (a := 12 * p0) (b := ki) hx hb dX6_meetsAt_105 ?_
                  refine xr_iald (f := F 7) (z := (12 * p0) + ki) hx hb hK hP 7 6 rfl rfl (by omega) (by omega) (by decide) dX6_meetsAt_106 ?_
                  have f_p := hv.pt p0 ki (by omega) (by omega) (by omega) (by omega)
                  refine lv_aload_n hx hb dX6_meetsAt_107 rfl (lv_at hl 2 rfl) ?_
                  refine va_get (D := D) (cl := vwC) (ci := 7) (v := .ref (a 9)) (C := RX6) (T := TX6) (N := 27) hx hb hG.use i_X6 hown hK hP 0 rfl rfl 13 (by decide) (hG.use _ lf_X6_36) (fun _ h9 => h9) rfl dX6_meetsAt_108 ?_
                  refine xr_bipush hx hb dX6_meetsAt_111 (by decide +kernel) ?_
                  refine lv_iload_n hx hb dX6_meetsAt_113 rfl (lv_at hl 4 rfl) ?_
                  refine xr_imul (a := 60) (b := p1) hx hb dX6_meetsAt_114 ?_
                  refine lv_iload_n hx hb dX6_meetsAt_115 rfl (lv_at hl 5 rfl) ?_
                  refine xr_iadd (a := 60 * p1) (b := fr) hx hb dX6_meetsAt_116 ?_
                  refine lv_iload hx hb dX6_meetsAt_117 (lv_at hl 1 rfl) ?_
                  refine xr_iadd (a := (60 * p1) + fr) (b := ki) hx hb dX6_meetsAt_119 ?_
                  refine xr_bald (f := F 9) (z := ((60 * p1) + fr) + ki) hx hb hK hP 9 8 rfl rfl (by omega) (by omega) (by decide) dX6_meetsAt_120 ?_
                  have f_b := hv.byt p1 (fr + ki) (by omega) (by omega) (by omega) (by omega)
                  rw [show 60 * p1 + (fr + ki) = 60 * p1 + fr + ki by omega] at f_b
                  refine xr_sipush hx hb dX6_meetsAt_121 (by decide +kernel) ?_
                  refine xr_and255b (z := (F 9) (((60 * p1) + fr) + ki)) hx hb (by omega) (by omega) dX6_meetsAt_124 ?_
                  refine xr_icmp_ne (a := (F 7) ((12 * p0) + ki)) (b := (F 9) (((60 * p1) + fr) + ki)) (tgt := 132) hx hb dX6_meetsAt_125 (by decide) (fun c_13 => ?_) (fun c_13 => ?_) (by omega) (by omega)
                  · skip
                    -- 125 t
                    refine xr_iconst hx hb dX6_meetsAt_132 ?_
                    refine lv_istore (lv' := [(4, .int (iI 0)), (5, .int (iI ki)), (0, .ref (a 0)), (1, .int (iI p0)), (2, .int (iI p1)), (3, .int (iI fr))]) hx hb dX6_meetsAt_133 hl (by decide) rfl (fun ls hl => ?_)
                    refine xr_iinc (z := ki) (lv' := [(5, .int (iI (ki + 1))), (4, .int (iI 0)), (0, .ref (a 0)), (1, .int (iI p0)), (2, .int (iI p1)), (3, .int (iI fr))]) hx hb dX6_meetsAt_135 hl (k := 1) rfl (by decide) rfl (fun ls hl => ?_)
                    refine lv_goto (tgt := 61) hx hb dX6_meetsAt_138 (by decide) ?_
                    exact ih_61 0 (ki + 1) (by omega) (by omega) (by first | (refine bz_t (fun j j0 j1 => ?_); by_cases h : j = ki; (rw [h]; omega); exact (show (∀ j : Int, 0 ≤ j → j < ki → F 7 (12 * p0 + j) = 256 ∨ F 7 (12 * p0 + j) = F 9 (60 * p1 + fr + j)) by rcases i1 with i1 | i1; exact i1.2; omega) j j0 (by omega)) | (refine bz_f (fun hz => ?_); have hk := hz ki (by omega) (by omega); omega) | (refine bz_f (fun hz => ?_); rcases i1 with i1 | i1; omega; exact i1.2 (fun j j0 j1 => hz j j0 (by omega)))) ls (lv_sub hl [1, 0, 2, 3, 4, 5] rfl)
                  · skip
                    -- 125 f
                    refine xr_iconst hx hb dX6_meetsAt_128 ?_
                    refine lv_goto (tgt := 133) hx hb dX6_meetsAt_129 (by decide) ?_
                    refine lv_istore (lv' := [(4, .int (iI 1)), (5, .int (iI ki)), (0, .ref (a 0)), (1, .int (iI p0)), (2, .int (iI p1)), (3, .int (iI fr))]) hx hb dX6_meetsAt_133 hl (by decide) rfl (fun ls hl => ?_)
                    refine xr_iinc (z := ki) (lv' := [(5, .int (iI (ki + 1))), (4, .int (iI 1)), (0, .ref (a 0)), (1, .int (iI p0)), (2, .int (iI p1)), (3, .int (iI fr))]) hx hb dX6_meetsAt_135 hl (k := 1) rfl (by decide) rfl (fun ls hl => ?_)
                    refine lv_goto (tgt := 61) hx hb dX6_meetsAt_138 (by decide) ?_
                    exact ih_61 1 (ki + 1) (by omega) (by omega) (by first | (refine bz_t (fun j j0 j1 => ?_); by_cases h : j = ki; (rw [h]; omega); exact (show (∀ j : Int, 0 ≤ j → j < ki → F 7 (12 * p0 + j) = 256 ∨ F 7 (12 * p0 + j) = F 9 (60 * p1 + fr + j)) by rcases i1 with i1 | i1; exact i1.2; omega) j j0 (by omega)) | (refine bz_f (fun hz => ?_); have hk := hz ki (by omega) (by omega); omega) | (refine bz_f (fun hz => ?_); rcases i1 with i1 | i1; omega; exact i1.2 (fun j j0 j1 => hz j j0 (by omega)))) ls (lv_sub hl [1, 0, 2, 3, 4, 5] rfl)
        exact lp_61 _ 1 0 (Nat.lt_succ_self _) (by omega) (by exact bz_t (fun j j0 j1 => by omega)) ls (lv_sub hl [1, 0, 3, 4, 5, 2] rfl)
      · skip
        -- 50 f
        refine xr_iconst hx hb dX6_meetsAt_53 ?_
        exact W.zret (v := iI 0) hx hb hr (bz_nar (by omega)) (fun t ht9 hW => ⟨0, rfl, (by exact bz_f (fun h => by have h2 := hF.mp h; omega)), ht9⟩) t_nil dX6_meetsAt_54
