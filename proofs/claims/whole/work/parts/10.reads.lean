set_option maxHeartbeats 4000000 in
set_option maxRecDepth 100000 in
theorem c_X5_isFormat (l : Launch) (D : va_G) (p0 : Int) (hp0 : -2147483648 ≤ p0 ∧ p0 < 2147483648) : ro_M l yX5_isFormat cX5_isFormat 1 (some .boolean) 0 [.int (iI p0)] D ([]) ([]) (fun r => bz (0 ≤ p0 ∧ p0 < 30) r) := by
  refine me_start (by decide) (Nat.le_of_ble_eq_true rfl) rfl ?_
  intro p e s m below meth c hx hb hml hr hown hlocks hnm hG hK hP ls hl
  have hown : s.vm.findClass RX5 = some m.cls := hown
  have hl : lv_has ls 1 [(0, .int (iI p0))] := hl
  refine lv_iload_n hx hb dX5_isFormat_0 rfl (lv_at hl 0 rfl) ?_
  refine xr_if_lt (a := p0) (tgt := 14) hx hb dX5_isFormat_1 (by decide) (fun c_1 => ?_) (fun c_1 => ?_) (by omega)
  · skip
    -- 1 t
    refine xr_iconst hx hb dX5_isFormat_14 ?_
    exact W.zret (v := iI 0) hx hb hr (bz_nar (by omega)) (fun t ht9 hW => ⟨0, rfl, (by first | exact bz_t (by omega) | exact bz_f (by omega)), ht9⟩) t_nil dX5_isFormat_15
  · skip
    -- 1 f
    refine lv_iload_n hx hb dX5_isFormat_4 rfl (lv_at hl 0 rfl) ?_
    refine xr_bipush hx hb dX5_isFormat_5 (by decide +kernel) ?_
    refine xr_icmp_ge (a := p0) (b := 30) (tgt := 14) hx hb dX5_isFormat_7 (by decide) (fun c_2 => ?_) (fun c_2 => ?_) (by omega) (by omega)
    · skip
      -- 7 t
      refine xr_iconst hx hb dX5_isFormat_14 ?_
      exact W.zret (v := iI 0) hx hb hr (bz_nar (by omega)) (fun t ht9 hW => ⟨0, rfl, (by first | exact bz_t (by omega) | exact bz_f (by omega)), ht9⟩) t_nil dX5_isFormat_15
    · skip
      -- 7 f
      refine xr_iconst hx hb dX5_isFormat_10 ?_
      refine lv_goto (tgt := 15) hx hb dX5_isFormat_11 (by decide) ?_
      exact W.zret (v := iI 1) hx hb hr (bz_nar (by omega)) (fun t ht9 hW => ⟨1, rfl, (by first | exact bz_t (by omega) | exact bz_f (by omega)), ht9⟩) t_nil dX5_isFormat_15
set_option maxHeartbeats 4000000 in
set_option maxRecDepth 100000 in
theorem c_X3_isDigit (l : Launch) (D : va_G) (p0 : Int) (hp0 : -2147483648 ≤ p0 ∧ p0 < 2147483648) : ro_M l yX3_isDigit cX3_isDigit 1 (some .boolean) 0 [.int (iI p0)] D ([]) ([]) (fun r => bz (48 ≤ p0 ∧ p0 ≤ 57) r) := by
  refine me_start (by decide) (Nat.le_of_ble_eq_true rfl) rfl ?_
  intro p e s m below meth c hx hb hml hr hown hlocks hnm hG hK hP ls hl
  have hown : s.vm.findClass RX3 = some m.cls := hown
  have hl : lv_has ls 1 [(0, .int (iI p0))] := hl
  refine lv_iload_n hx hb dX3_isDigit_0 rfl (lv_at hl 0 rfl) ?_
  refine xr_bipush hx hb dX3_isDigit_1 (by decide +kernel) ?_
  refine xr_icmp_lt (a := p0) (b := 48) (tgt := 16) hx hb dX3_isDigit_3 (by decide) (fun c_1 => ?_) (fun c_1 => ?_) (by omega) (by omega)
  · skip
    -- 3 t
    refine xr_iconst hx hb dX3_isDigit_16 ?_
    exact W.zret (v := iI 0) hx hb hr (bz_nar (by omega)) (fun t ht9 hW => ⟨0, rfl, (by first | exact bz_t (by omega) | exact bz_f (by omega)), ht9⟩) t_nil dX3_isDigit_17
  · skip
    -- 3 f
    refine lv_iload_n hx hb dX3_isDigit_6 rfl (lv_at hl 0 rfl) ?_
    refine xr_bipush hx hb dX3_isDigit_7 (by decide +kernel) ?_
    refine xr_icmp_gt (a := p0) (b := 57) (tgt := 16) hx hb dX3_isDigit_9 (by decide) (fun c_2 => ?_) (fun c_2 => ?_) (by omega) (by omega)
    · skip
      -- 9 t
      refine xr_iconst hx hb dX3_isDigit_16 ?_
      exact W.zret (v := iI 0) hx hb hr (bz_nar (by omega)) (fun t ht9 hW => ⟨0, rfl, (by first | exact bz_t (by omega) | exact bz_f (by omega)), ht9⟩) t_nil dX3_isDigit_17
    · skip
      -- 9 f
      refine xr_iconst hx hb dX3_isDigit_12 ?_
      refine lv_goto (tgt := 17) hx hb dX3_isDigit_13 (by decide) ?_
      exact W.zret (v := iI 1) hx hb hr (bz_nar (by omega)) (fun t ht9 hW => ⟨1, rfl, (by first | exact bz_t (by omega) | exact bz_f (by omega)), ht9⟩) t_nil dX3_isDigit_17
set_option maxHeartbeats 4000000 in
set_option maxRecDepth 100000 in
theorem c_X1_has (l : Launch) (D : va_G) (a : Nat → Nat) (k : Nat → ClassId) (I : Nat → Int) (F : Nat → Int → Int) (p0 : Int) (hp0 : -2147483648 ≤ p0 ∧ p0 < 2147483648) (h9 : 0 ≤ I 9 ∧ I 9 ≤ 40) : ro_M l yX1_has cX1_has 2 (some .boolean) 0 [.ref (a 3), .int (iI p0)] D (xT k) (xW a k I F) (fun r => bz (0 ≤ p0 ∧ p0 < I 9) r) := by
  refine me_start (by decide) (Nat.le_of_ble_eq_true rfl) rfl ?_
  intro p e s m below meth c hx hb hml hr hown hlocks hnm hG hK hP ls hl
  have hown : s.vm.findClass RX1 = some m.cls := hown
  have hl : lv_has ls 2 [(0, .ref (a 3)), (1, .int (iI p0))] := hl
  refine lv_iload_n hx hb dX1_has_0 rfl (lv_at hl 1 rfl) ?_
  refine xr_if_lt (a := p0) (tgt := 16) hx hb dX1_has_1 (by decide) (fun c_1 => ?_) (fun c_1 => ?_) (by omega)
  · skip
    -- 1 t
    refine xr_iconst hx hb dX1_has_16 ?_
    exact W.zret (v := iI 0) hx hb hr (bz_nar (by omega)) (fun t ht9 hW => ⟨0, rfl, (by first | exact bz_t (by omega) | exact bz_f (by omega)), ht9⟩) t_nil dX1_has_17
  · skip
    -- 1 f
    refine lv_iload_n hx hb dX1_has_4 rfl (lv_at hl 1 rfl) ?_
    refine lv_aload_n hx hb dX1_has_5 rfl (lv_at hl 0 rfl) ?_
    refine va_get (D := D) (cl := vwC) (ci := 2) (v := .int (iI (I 9))) (C := RX1) (T := TX1) (N := 5) hx hb hG.use i_X1 hown hK hP 3 rfl rfl 0 (by decide) (hG.use _ lf_X1_9) (fun _ h9 => h9) rfl dX1_has_6 ?_
    refine xr_icmp_ge (a := p0) (b := I 9) (tgt := 16) hx hb dX1_has_9 (by decide) (fun c_2 => ?_) (fun c_2 => ?_) (by omega) (by omega)
    · skip
      -- 9 t
      refine xr_iconst hx hb dX1_has_16 ?_
      exact W.zret (v := iI 0) hx hb hr (bz_nar (by omega)) (fun t ht9 hW => ⟨0, rfl, (by first | exact bz_t (by omega) | exact bz_f (by omega)), ht9⟩) t_nil dX1_has_17
    · skip
      -- 9 f
      refine xr_iconst hx hb dX1_has_12 ?_
      refine lv_goto (tgt := 17) hx hb dX1_has_13 (by decide) ?_
      exact W.zret (v := iI 1) hx hb hr (bz_nar (by omega)) (fun t ht9 hW => ⟨1, rfl, (by first | exact bz_t (by omega) | exact bz_f (by omega)), ht9⟩) t_nil dX1_has_17
set_option maxHeartbeats 4000000 in
set_option maxRecDepth 100000 in
theorem c_X4_has (l : Launch) (D : va_G) (a : Nat → Nat) (k : Nat → ClassId) (I : Nat → Int) (F : Nat → Int → Int) (p0 : Int) (hp0 : -2147483648 ≤ p0 ∧ p0 < 2147483648) (h8 : 0 ≤ I 8 ∧ I 8 ≤ 60) : ro_M l yX4_has cX4_has 2 (some .boolean) 0 [.ref (a 2), .int (iI p0)] D (xT k) (xW a k I F) (fun r => bz (0 ≤ p0 ∧ p0 < I 8) r) := by
  refine me_start (by decide) (Nat.le_of_ble_eq_true rfl) rfl ?_
  intro p e s m below meth c hx hb hml hr hown hlocks hnm hG hK hP ls hl
  have hown : s.vm.findClass RX4 = some m.cls := hown
  have hl : lv_has ls 2 [(0, .ref (a 2)), (1, .int (iI p0))] := hl
  refine lv_iload_n hx hb dX4_has_0 rfl (lv_at hl 1 rfl) ?_
  refine xr_if_lt (a := p0) (tgt := 16) hx hb dX4_has_1 (by decide) (fun c_1 => ?_) (fun c_1 => ?_) (by omega)
  · skip
    -- 1 t
    refine xr_iconst hx hb dX4_has_16 ?_
    exact W.zret (v := iI 0) hx hb hr (bz_nar (by omega)) (fun t ht9 hW => ⟨0, rfl, (by first | exact bz_t (by omega) | exact bz_f (by omega)), ht9⟩) t_nil dX4_has_17
  · skip
    -- 1 f
    refine lv_iload_n hx hb dX4_has_4 rfl (lv_at hl 1 rfl) ?_
    refine lv_aload_n hx hb dX4_has_5 rfl (lv_at hl 0 rfl) ?_
    refine va_get (D := D) (cl := vwC) (ci := 5) (v := .int (iI (I 8))) (C := RX4) (T := TX4) (N := 7) hx hb hG.use i_X4 hown hK hP 2 rfl rfl 0 (by decide) (hG.use _ lf_X4_9) (fun _ h9 => h9) rfl dX4_has_6 ?_
    refine xr_icmp_ge (a := p0) (b := I 8) (tgt := 16) hx hb dX4_has_9 (by decide) (fun c_2 => ?_) (fun c_2 => ?_) (by omega) (by omega)
    · skip
      -- 9 t
      refine xr_iconst hx hb dX4_has_16 ?_
      exact W.zret (v := iI 0) hx hb hr (bz_nar (by omega)) (fun t ht9 hW => ⟨0, rfl, (by first | exact bz_t (by omega) | exact bz_f (by omega)), ht9⟩) t_nil dX4_has_17
    · skip
      -- 9 f
      refine xr_iconst hx hb dX4_has_12 ?_
      refine lv_goto (tgt := 17) hx hb dX4_has_13 (by decide) ?_
      exact W.zret (v := iI 1) hx hb hr (bz_nar (by omega)) (fun t ht9 hW => ⟨1, rfl, (by first | exact bz_t (by omega) | exact bz_f (by omega)), ht9⟩) t_nil dX4_has_17
set_option maxHeartbeats 4000000 in
set_option maxRecDepth 100000 in
theorem c_X1_byteAt (l : Launch) (D : va_G) (a : Nat → Nat) (k : Nat → ClassId) (I : Nat → Int) (F : Nat → Int → Int) (p0 p1 : Int) (h0 : 0 ≤ p0 ∧ p0 < 40) (h1 : 0 ≤ p1 ∧ p1 < 60) : ro_M l yX1_byteAt cX1_byteAt 3 (some .int) 0 [.ref (a 3), .int (iI p0), .int (iI p1)] D (xT k) (xW a k I F) (fun r => r = F 16 (p0 * 60 + p1)) := by
  refine me_start (by decide) (Nat.le_of_ble_eq_true rfl) rfl ?_
  intro p e s m below meth c hx hb hml hr hown hlocks hnm hG hK hP ls hl
  have hown : s.vm.findClass RX1 = some m.cls := hown
  have hl : lv_has ls 3 [(0, .ref (a 3)), (1, .int (iI p0)), (2, .int (iI p1))] := hl
  refine lv_aload_n hx hb dX1_byteAt_0 rfl (lv_at hl 0 rfl) ?_
  refine va_get (D := D) (cl := vwC) (ci := 2) (v := .ref (a 16)) (C := RX1) (T := TX1) (N := 5) hx hb hG.use i_X1 hown hK hP 3 rfl rfl 2 (by decide) (hG.use _ lf_X1_19) (fun _ h9 => h9) rfl dX1_byteAt_1 ?_
  refine lv_iload_n hx hb dX1_byteAt_4 rfl (lv_at hl 1 rfl) ?_
  refine xr_bipush hx hb dX1_byteAt_5 (by decide +kernel) ?_
  refine xr_imul (a := p0) (b := 60) hx hb dX1_byteAt_7 ?_
  refine lv_iload_n hx hb dX1_byteAt_8 rfl (lv_at hl 2 rfl) ?_
  refine xr_iadd (a := p0 * 60) (b := p1) hx hb dX1_byteAt_9 ?_
  refine xr_iald (f := F 16) (z := (p0 * 60) + p1) hx hb hK hP 16 10 rfl rfl (by omega) (by omega) (by decide) dX1_byteAt_10 ?_
  exact W.iret (v := iI ((F 16) ((p0 * 60) + p1))) hx hb hr (fun t ht9 hW => ⟨(F 16) ((p0 * 60) + p1), rfl, (by rfl), ht9⟩) t_nil dX1_byteAt_11
set_option maxHeartbeats 4000000 in
set_option maxRecDepth 100000 in
theorem c_X4_placeAt (l : Launch) (D : va_G) (a : Nat → Nat) (k : Nat → ClassId) (I : Nat → Int) (F : Nat → Int → Int) (p0 p1 : Int) (h0 : 0 ≤ p0 ∧ p0 < 60) (h1 : 0 ≤ p1 ∧ p1 < 12) : ro_M l yX4_placeAt cX4_placeAt 3 (some .int) 0 [.ref (a 2), .int (iI p0), .int (iI p1)] D (xT k) (xW a k I F) (fun r => r = F 14 (p0 * 12 + p1)) := by
  refine me_start (by decide) (Nat.le_of_ble_eq_true rfl) rfl ?_
  intro p e s m below meth c hx hb hml hr hown hlocks hnm hG hK hP ls hl
  have hown : s.vm.findClass RX4 = some m.cls := hown
  have hl : lv_has ls 3 [(0, .ref (a 2)), (1, .int (iI p0)), (2, .int (iI p1))] := hl
  refine lv_aload_n hx hb dX4_placeAt_0 rfl (lv_at hl 0 rfl) ?_
  refine va_get (D := D) (cl := vwC) (ci := 5) (v := .ref (a 14)) (C := RX4) (T := TX4) (N := 7) hx hb hG.use i_X4 hown hK hP 2 rfl rfl 6 (by decide) (hG.use _ lf_X4_32) (fun _ h9 => h9) rfl dX4_placeAt_1 ?_
  refine lv_iload_n hx hb dX4_placeAt_4 rfl (lv_at hl 1 rfl) ?_
  refine xr_bipush hx hb dX4_placeAt_5 (by decide +kernel) ?_
  refine xr_imul (a := p0) (b := 12) hx hb dX4_placeAt_7 ?_
  refine lv_iload_n hx hb dX4_placeAt_8 rfl (lv_at hl 2 rfl) ?_
  refine xr_iadd (a := p0 * 12) (b := p1) hx hb dX4_placeAt_9 ?_
  refine xr_iald (f := F 14) (z := (p0 * 12) + p1) hx hb hK hP 14 8 rfl rfl (by omega) (by omega) (by decide) dX4_placeAt_10 ?_
  exact W.iret (v := iI ((F 14) ((p0 * 12) + p1))) hx hb hr (fun t ht9 hW => ⟨(F 14) ((p0 * 12) + p1), rfl, (by rfl), ht9⟩) t_nil dX4_placeAt_11
set_option maxHeartbeats 4000000 in
set_option maxRecDepth 100000 in
theorem c_X1_isMember (l : Launch) (D : va_G) (a : Nat → Nat) (k : Nat → ClassId) (I : Nat → Int) (F : Nat → Int → Int) (p0 : Int) (h0 : 0 ≤ p0 ∧ p0 < 40) (h1 : -1 ≤ F 18 p0 ∧ F 18 p0 < 40) : ro_M l yX1_isMember cX1_isMember 2 (some .boolean) 0 [.ref (a 3), .int (iI p0)] D (xT k) (xW a k I F) (fun r => bz (F 18 p0 ≠ -1) r) := by
  refine me_start (by decide) (Nat.le_of_ble_eq_true rfl) rfl ?_
  intro p e s m below meth c hx hb hml hr hown hlocks hnm hG hK hP ls hl
  have hown : s.vm.findClass RX1 = some m.cls := hown
  have hl : lv_has ls 2 [(0, .ref (a 3)), (1, .int (iI p0))] := hl
  refine lv_aload_n hx hb dX1_isMember_0 rfl (lv_at hl 0 rfl) ?_
  refine va_get (D := D) (cl := vwC) (ci := 2) (v := .ref (a 18)) (C := RX1) (T := TX1) (N := 5) hx hb hG.use i_X1 hown hK hP 3 rfl rfl 4 (by decide) (hG.use _ lf_X1_25) (fun _ h9 => h9) rfl dX1_isMember_1 ?_
  refine lv_iload_n hx hb dX1_isMember_4 rfl (lv_at hl 1 rfl) ?_
  refine xr_iald (f := F 18) (z := p0) hx hb hK hP 18 12 rfl rfl (by omega) (by omega) (by decide) dX1_isMember_5 ?_
  refine xr_iconst hx hb dX1_isMember_6 ?_
  refine xr_icmp_eq (a := (F 18) p0) (b := (-1)) (tgt := 14) hx hb dX1_isMember_7 (by decide) (fun c_1 => ?_) (fun c_1 => ?_) (by omega) (by omega)
  · skip
    -- 7 t
    refine xr_iconst hx hb dX1_isMember_14 ?_
    exact W.zret (v := iI 0) hx hb hr (bz_nar (by omega)) (fun t ht9 hW => ⟨0, rfl, (by first | exact bz_t (by omega) | exact bz_f (by omega)), ht9⟩) t_nil dX1_isMember_15
  · skip
    -- 7 f
    refine xr_iconst hx hb dX1_isMember_10 ?_
    refine lv_goto (tgt := 15) hx hb dX1_isMember_11 (by decide) ?_
    exact W.zret (v := iI 1) hx hb hr (bz_nar (by omega)) (fun t ht9 hW => ⟨1, rfl, (by first | exact bz_t (by omega) | exact bz_f (by omega)), ht9⟩) t_nil dX1_isMember_15
set_option maxHeartbeats 4000000 in
set_option maxRecDepth 100000 in
theorem c_X4_startIn (l : Launch) (D : va_G) (a : Nat → Nat) (k : Nat → ClassId) (I : Nat → Int) (F : Nat → Int → Int) (p0 p1 : Int) (h0 : 0 ≤ p0 ∧ p0 < 60) (h1 : F 11 p0 = 0 ∨ F 11 p0 = 1) : ro_M l yX4_startIn cX4_startIn 3 (some .int) 0 [.ref (a 2), .int (iI p0), .int (iI p1)] D (xT k) (xW a k I F) (fun r => (F 11 p0 = 1 ∧ r = p1 - F 12 p0) ∨ (F 11 p0 = 0 ∧ r = F 12 p0)) := by
  refine me_start (by decide) (Nat.le_of_ble_eq_true rfl) rfl ?_
  intro p e s m below meth c hx hb hml hr hown hlocks hnm hG hK hP ls hl
  have hown : s.vm.findClass RX4 = some m.cls := hown
  have hl : lv_has ls 3 [(0, .ref (a 2)), (1, .int (iI p0)), (2, .int (iI p1))] := hl
  refine lv_aload_n hx hb dX4_startIn_0 rfl (lv_at hl 0 rfl) ?_
  refine va_get (D := D) (cl := vwC) (ci := 5) (v := .ref (a 11)) (C := RX4) (T := TX4) (N := 7) hx hb hG.use i_X4 hown hK hP 2 rfl rfl 3 (by decide) (hG.use _ lf_X4_22) (fun _ h9 => h9) rfl dX4_startIn_1 ?_
  refine lv_iload_n hx hb dX4_startIn_4 rfl (lv_at hl 1 rfl) ?_
  refine xr_zald (f := F 11) (z := p0) hx hb hK hP 11 5 rfl rfl (by omega) (by omega) (by decide) dX4_startIn_5 ?_
  refine xr_if_eq (a := (F 11) p0) (tgt := 20) hx hb dX4_startIn_6 (by decide) (fun c_1 => ?_) (fun c_1 => ?_) (by omega)
  · skip
    -- 6 t
    refine lv_aload_n hx hb dX4_startIn_20 rfl (lv_at hl 0 rfl) ?_
    refine va_get (D := D) (cl := vwC) (ci := 5) (v := .ref (a 12)) (C := RX4) (T := TX4) (N := 7) hx hb hG.use i_X4 hown hK hP 2 rfl rfl 4 (by decide) (hG.use _ lf_X4_26) (fun _ h9 => h9) rfl dX4_startIn_21 ?_
    refine lv_iload_n hx hb dX4_startIn_24 rfl (lv_at hl 1 rfl) ?_
    refine xr_iald (f := F 12) (z := p0) hx hb hK hP 12 6 rfl rfl (by omega) (by omega) (by decide) dX4_startIn_25 ?_
    exact W.iret (v := iI ((F 12) p0)) hx hb hr (fun t ht9 hW => ⟨(F 12) p0, rfl, (by omega), ht9⟩) t_nil dX4_startIn_26
  · skip
    -- 6 f
    refine lv_iload_n hx hb dX4_startIn_9 rfl (lv_at hl 2 rfl) ?_
    refine lv_aload_n hx hb dX4_startIn_10 rfl (lv_at hl 0 rfl) ?_
    refine va_get (D := D) (cl := vwC) (ci := 5) (v := .ref (a 12)) (C := RX4) (T := TX4) (N := 7) hx hb hG.use i_X4 hown hK hP 2 rfl rfl 4 (by decide) (hG.use _ lf_X4_26) (fun _ h9 => h9) rfl dX4_startIn_11 ?_
    refine lv_iload_n hx hb dX4_startIn_14 rfl (lv_at hl 1 rfl) ?_
    refine xr_iald (f := F 12) (z := p0) hx hb hK hP 12 6 rfl rfl (by omega) (by omega) (by decide) dX4_startIn_15 ?_
    refine xr_isub (a := p1) (b := (F 12) p0) hx hb dX4_startIn_16 ?_
    refine lv_goto (tgt := 26) hx hb dX4_startIn_17 (by decide) ?_
    exact W.iret (v := iI (p1 - ((F 12) p0))) hx hb hr (fun t ht9 hW => ⟨p1 - ((F 12) p0), rfl, (by omega), ht9⟩) t_nil dX4_startIn_26
set_option maxHeartbeats 4000000 in
set_option maxRecDepth 100000 in
theorem c_X3_signAt (l : Launch) (D : va_G) (a : Nat → Nat) (k : Nat → ClassId) (I : Nat → Int) (F : Nat → Int → Int) (p0 : Int) (hp0 : -2147483648 ≤ p0 ∧ p0 < 2147483648) (h1 : 0 ≤ I 1 ∧ I 1 ≤ 60) : ro_M l yX3_signAt cX3_signAt 2 (some .int) 0 [.ref (a 1), .int (iI p0)] D (xT k) (xW a k I F) (fun r => (0 ≤ p0 ∧ p0 < I 1 ∧ r = F 7 p0) ∨ (¬ (0 ≤ p0 ∧ p0 < I 1) ∧ r = -1)) := by
  refine me_start (by decide) (Nat.le_of_ble_eq_true rfl) rfl ?_
  intro p e s m below meth c hx hb hml hr hown hlocks hnm hG hK hP ls hl
  have hown : s.vm.findClass RX3 = some m.cls := hown
  have hl : lv_has ls 2 [(0, .ref (a 1)), (1, .int (iI p0))] := hl
  refine lv_iload_n hx hb dX3_signAt_0 rfl (lv_at hl 1 rfl) ?_
  refine xr_if_lt (a := p0) (tgt := 21) hx hb dX3_signAt_1 (by decide) (fun c_1 => ?_) (fun c_1 => ?_) (by omega)
  · skip
    -- 1 t
    refine xr_iconst hx hb dX3_signAt_21 ?_
    exact W.iret (v := iI (-1)) hx hb hr (fun t ht9 hW => ⟨(-1), rfl, (by omega), ht9⟩) t_nil dX3_signAt_22
  · skip
    -- 1 f
    refine lv_iload_n hx hb dX3_signAt_4 rfl (lv_at hl 1 rfl) ?_
    refine lv_aload_n hx hb dX3_signAt_5 rfl (lv_at hl 0 rfl) ?_
    refine va_get (D := D) (cl := vwC) (ci := 4) (v := .int (iI (I 1))) (C := RX3) (T := TX3) (N := 9) hx hb hG.use i_X3 hown hK hP 1 rfl rfl 1 (by decide) (hG.use _ lf_X3_15) (fun _ h9 => h9) rfl dX3_signAt_6 ?_
    refine xr_icmp_ge (a := p0) (b := I 1) (tgt := 21) hx hb dX3_signAt_9 (by decide) (fun c_2 => ?_) (fun c_2 => ?_) (by omega) (by omega)
    · skip
      -- 9 t
      refine xr_iconst hx hb dX3_signAt_21 ?_
      exact W.iret (v := iI (-1)) hx hb hr (fun t ht9 hW => ⟨(-1), rfl, (by omega), ht9⟩) t_nil dX3_signAt_22
    · skip
      -- 9 f
      refine lv_aload_n hx hb dX3_signAt_12 rfl (lv_at hl 0 rfl) ?_
      refine va_get (D := D) (cl := vwC) (ci := 4) (v := .ref (a 7)) (C := RX3) (T := TX3) (N := 9) hx hb hG.use i_X3 hown hK hP 1 rfl rfl 0 (by decide) (hG.use _ lf_X3_9) (fun _ h9 => h9) rfl dX3_signAt_13 ?_
      refine lv_iload_n hx hb dX3_signAt_16 rfl (lv_at hl 1 rfl) ?_
      refine xr_iald (f := F 7) (z := p0) hx hb hK hP 7 1 rfl rfl (by omega) (by omega) (by decide) dX3_signAt_17 ?_
      refine lv_goto (tgt := 22) hx hb dX3_signAt_18 (by decide) ?_
      exact W.iret (v := iI ((F 7) p0)) hx hb hr (fun t ht9 hW => ⟨(F 7) p0, rfl, (by omega), ht9⟩) t_nil dX3_signAt_22
set_option maxHeartbeats 4000000 in
set_option maxRecDepth 100000 in
theorem c_X3_hexValue (l : Launch) (D : va_G) (p0 : Int) (hp0 : -2147483648 ≤ p0 ∧ p0 < 2147483648) : ro_M l yX3_hexValue cX3_hexValue 1 (some .int) 1 [.int (iI p0)] D ([]) ([]) (fun r => (48 ≤ p0 ∧ p0 ≤ 57 ∧ r = p0 - 48) ∨ (97 ≤ p0 ∧ p0 ≤ 102 ∧ r = p0 - 87) ∨ (¬ (48 ≤ p0 ∧ p0 ≤ 57) ∧ ¬ (97 ≤ p0 ∧ p0 ≤ 102) ∧ r = -1)) := by
  refine me_start (by decide) (Nat.le_of_ble_eq_true rfl) rfl ?_
  intro p e s m below meth c hx hb hml hr hown hlocks hnm hG hK hP ls hl
  have hown : s.vm.findClass RX3 = some m.cls := hown
  have hl : lv_has ls 1 [(0, .int (iI p0))] := hl
  refine lv_iload_n hx hb dX3_hexValue_0 rfl (lv_at hl 0 rfl) ?_
  refine ro_call (g_runS (rest := []) hx hb hml hown hG (hK.sub (tys' := []) [] rfl) (va_P0) mS_X3_isDigit (c_X3_isDigit l D p0 (by omega)) lk_X3_65 rfl hl.1 rfl (Nat.le_of_ble_eq_true rfl) ⟨(Nat.le_of_ble_eq_true rfl), (Nat.le_of_ble_eq_true rfl)⟩ ⟨(Nat.le_of_ble_eq_true rfl), (Nat.le_of_ble_eq_true rfl)⟩ dX3_hexValue_1) (fun r_1 q_2 => ?_)
  refine xr_if_eqZ (tgt := 12) hx hb q_2 dX3_hexValue_4 (by decide) (fun c_3 => ?_) (fun c_3 => ?_)
  · skip
    -- 4 t
    refine lv_iload_n hx hb dX3_hexValue_12 rfl (lv_at hl 0 rfl) ?_
    refine xr_bipush hx hb dX3_hexValue_13 (by decide +kernel) ?_
    refine xr_icmp_lt (a := p0) (b := 97) (tgt := 34) hx hb dX3_hexValue_15 (by decide) (fun c_4 => ?_) (fun c_4 => ?_) (by omega) (by omega)
    · skip
      -- 15 t
      refine xr_iconst hx hb dX3_hexValue_34 ?_
      exact W.iret (v := iI (-1)) hx hb hr (fun t ht9 hW => ⟨(-1), rfl, (by omega), ht9⟩) t_nil dX3_hexValue_35
    · skip
      -- 15 f
      refine lv_iload_n hx hb dX3_hexValue_18 rfl (lv_at hl 0 rfl) ?_
      refine xr_bipush hx hb dX3_hexValue_19 (by decide +kernel) ?_
      refine xr_icmp_gt (a := p0) (b := 102) (tgt := 34) hx hb dX3_hexValue_21 (by decide) (fun c_5 => ?_) (fun c_5 => ?_) (by omega) (by omega)
      · skip
        -- 21 t
        refine xr_iconst hx hb dX3_hexValue_34 ?_
        exact W.iret (v := iI (-1)) hx hb hr (fun t ht9 hW => ⟨(-1), rfl, (by omega), ht9⟩) t_nil dX3_hexValue_35
      · skip
        -- 21 f
        refine lv_iload_n hx hb dX3_hexValue_24 rfl (lv_at hl 0 rfl) ?_
        refine xr_bipush hx hb dX3_hexValue_25 (by decide +kernel) ?_
        refine xr_isub (a := p0) (b := 97) hx hb dX3_hexValue_27 ?_
        refine xr_bipush hx hb dX3_hexValue_28 (by decide +kernel) ?_
        refine xr_iadd (a := p0 - 97) (b := 10) hx hb dX3_hexValue_30 ?_
        refine lv_goto (tgt := 35) hx hb dX3_hexValue_31 (by decide) ?_
        exact W.iret (v := iI ((p0 - 97) + 10)) hx hb hr (fun t ht9 hW => ⟨(p0 - 97) + 10, rfl, (by omega), ht9⟩) t_nil dX3_hexValue_35
  · skip
    -- 4 f
    refine lv_iload_n hx hb dX3_hexValue_7 rfl (lv_at hl 0 rfl) ?_
    refine xr_bipush hx hb dX3_hexValue_8 (by decide +kernel) ?_
    refine xr_isub (a := p0) (b := 48) hx hb dX3_hexValue_10 ?_
    exact W.iret (v := iI (p0 - 48)) hx hb hr (fun t ht9 hW => ⟨p0 - 48, rfl, (by omega), ht9⟩) t_nil dX3_hexValue_11
