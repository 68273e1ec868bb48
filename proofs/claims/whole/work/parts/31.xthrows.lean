set_option maxHeartbeats 4000000 in
set_option maxRecDepth 100000 in
theorem c_X5_found (l : Launch) (D : va_G) (a : Nat → Nat) (k : Nat → ClassId) (I : Nat → Int) (F : Nat → Int → Int) (p0 v : Int) (bI : -2147483648 ≤ I 0 ∧ I 0 < 2147483648) (b0 : -2147483648 ≤ p0 ∧ p0 < 2147483648) (hith : ith (fun k => bt (I 0) k) 30 p0 v) (hne : v ≠ -1) : ro_M l yX5_found cX5_found 3 (some .int) 1 [.ref (a 0), .int (iI p0)] D (xT k) (xW a k I F) (fun r => r = v) := by
  refine me_start (by decide) (Nat.le_of_ble_eq_true rfl) rfl ?_
  intro p e s m below meth c hx hb hml hr hown hlocks hnm hG hK hP ls hl
  have hown : s.vm.findClass RX5 = some m.cls := hown
  have hl : lv_has ls 3 [(0, .ref (a 0)), (1, .int (iI p0))] := hl
  refine lv_aload_n hx hb dX5_found_0 rfl (lv_at hl 0 rfl) ?_
  refine va_get (D := D) (cl := vwC) (ci := 6) (v := .int (iI (I 0))) (C := RX5) (T := TX5) (N := 7) hx hb hG.use i_X5 hown hK hP 0 rfl rfl 6 (by decide) (hG.use _ lf_X5_54) (fun _ h9 => h9) rfl dX5_found_1 ?_
  refine lv_iload_n hx hb dX5_found_4 rfl (lv_at hl 1 rfl) ?_
  refine ro_call (g_runS (rest := []) hx hb hml hown hG (hK.sub (tys' := []) [] rfl) (va_P0) mS_X5_formatInSet (c_X5_formatInSet l D (I 0) p0 (by omega) (by omega)) lk_X5_106 rfl hl.1 rfl (Nat.le_of_ble_eq_true rfl) ⟨(Nat.le_of_ble_eq_true rfl), (Nat.le_of_ble_eq_true rfl)⟩ ⟨(Nat.le_of_ble_eq_true rfl), (Nat.le_of_ble_eq_true rfl)⟩ dX5_found_5) (fun r_1 q_2 => ?_)
  have e_v := ith_un q_2 hith
  have f_v : -1 ≤ v ∧ v < 30 := by rcases hith with h | h <;> omega
  refine lv_istore_n (lv' := [(2, .int (iI r_1)), (0, .ref (a 0)), (1, .int (iI p0))]) hx hb dX5_found_8 rfl hl (by decide) rfl (fun ls hl => ?_)
  refine lv_iload_n hx hb dX5_found_9 rfl (lv_at hl 0 rfl) ?_
  refine xr_iconst hx hb dX5_found_10 ?_
  refine xr_icmp_ne (a := r_1) (b := (-1)) (tgt := 24) hx hb dX5_found_11 (by decide) (fun c_3 => ?_) (fun c_3 => ?_) (by omega) (by omega)
  · skip
    -- 11 t
    refine lv_iload_n hx hb dX5_found_24 rfl (lv_at hl 0 rfl) ?_
    exact W.iret (v := iI r_1) hx hb hr (fun t ht9 hW => ⟨r_1, rfl, (by omega), ht9⟩) t_nil dX5_found_25
  · skip
    -- 11 f
    exfalso; omega
set_option maxHeartbeats 4000000 in
set_option maxRecDepth 100000 in
theorem t_X5_found (l : Launch) (hfl : l.flags = flags0) (D : va_G) (a : Nat → Nat) (k : Nat → ClassId) (I : Nat → Int) (F : Nat → Int → Int) (p0 : Int) (bI : -2147483648 ≤ I 0 ∧ I 0 < 2147483648) (b0 : -2147483648 ≤ p0 ∧ p0 < 2147483648) (hith : ith (fun k => bt (I 0) k) 30 p0 (-1)) : tm_M l yX5_found cX5_found 3 (some .int) [.ref (a 0), .int (iI p0)] D (xT k) (xW a k I F) := by
  refine me_startT (by decide) (Nat.le_of_ble_eq_true rfl) rfl ?_
  intro p e s m below meth c hx hb hml hown hlocks hex hG hK hP hA ls hl
  have hown : s.vm.findClass RX5 = some m.cls := hown
  have hl : lv_has ls 3 [(0, .ref (a 0)), (1, .int (iI p0))] := hl
  refine lv_aload_n hx hb dX5_found_0 rfl (lv_at hl 0 rfl) ?_
  refine va_get (D := D) (cl := vwC) (ci := 6) (v := .int (iI (I 0))) (C := RX5) (T := TX5) (N := 7) hx hb hG.use i_X5 hown hK hP 0 rfl rfl 6 (by decide) (hG.use _ lf_X5_54) (fun _ h9 => h9) rfl dX5_found_1 ?_
  refine lv_iload_n hx hb dX5_found_4 rfl (lv_at hl 1 rfl) ?_
  refine ro_call (g_runS (rest := []) hx hb hml hown hG (hK.sub (tys' := []) [] rfl) (va_P0) mS_X5_formatInSet (c_X5_formatInSet l D (I 0) p0 (by omega) (by omega)) lk_X5_106 rfl hl.1 rfl (Nat.le_of_ble_eq_true rfl) ⟨(Nat.le_of_ble_eq_true rfl), (Nat.le_of_ble_eq_true rfl)⟩ ⟨(Nat.le_of_ble_eq_true rfl), (Nat.le_of_ble_eq_true rfl)⟩ dX5_found_5) (fun r_1 q_2 => ?_)
  have e_v := ith_un q_2 hith
  refine lv_istore_n (lv' := [(2, .int (iI r_1)), (0, .ref (a 0)), (1, .int (iI p0))]) hx hb dX5_found_8 rfl hl (by decide) rfl (fun ls hl => ?_)
  refine lv_iload_n hx hb dX5_found_9 rfl (lv_at hl 0 rfl) ?_
  refine xr_iconst hx hb dX5_found_10 ?_
  refine xr_icmp_ne (a := r_1) (b := (-1)) (tgt := 24) hx hb dX5_found_11 (by decide) (fun c_3 => ?_) (fun c_3 => ?_) (by omega) (by omega)
  · skip
    -- 11 t
    exfalso; omega
  · skip
    -- 11 f
    exact W_throw hx hb hfl hown hG hA hlocks hex (hml.trans hl.1.symm) 111 hA.2.1 dX5_found_14 dX5_found_17 dX5_found_18 dX5_found_20 dX5_found_23 ⟨(Nat.le_of_ble_eq_true rfl), (Nat.le_of_ble_eq_true rfl)⟩ ⟨(Nat.le_of_ble_eq_true rfl), (Nat.le_of_ble_eq_true rfl)⟩
set_option maxHeartbeats 4000000 in
set_option maxRecDepth 100000 in
theorem c_X5_pattern (l : Launch) (D : va_G) (a : Nat → Nat) (k : Nat → ClassId) (I : Nat → Int) (F : Nat → Int → Int) (p0 p1 : Int) (hv : xInv I F) (b0 : -2147483648 ≤ p0 ∧ p0 < 2147483648) (b1 : -2147483648 ≤ p1 ∧ p1 < 2147483648) (hok : (0 ≤ p0 ∧ p0 < I 8) → 0 ≤ p1 ∧ p1 < F 13 p0) : ro_M l yX5_pattern cX5_pattern 3 (some .int) 1 [.ref (a 0), .int (iI p0), .int (iI p1)] D (xT k) (xW a k I F) (fun r => (¬ (0 ≤ p0 ∧ p0 < I 8) ∧ r = -1) ∨ ((0 ≤ p0 ∧ p0 < I 8) ∧ r = F 14 (p0 * 12 + p1))) := by
  refine me_start (by decide) (Nat.le_of_ble_eq_true rfl) rfl ?_
  intro p e s m below meth c hx hb hml hr hown hlocks hnm hG hK hP ls hl
  have hown : s.vm.findClass RX5 = some m.cls := hown
  have hl : lv_has ls 3 [(0, .ref (a 0)), (1, .int (iI p0)), (2, .int (iI p1))] := hl
  have f_n := hv.n
  refine lv_aload_n hx hb dX5_pattern_0 rfl (lv_at hl 0 rfl) ?_
  refine va_get (D := D) (cl := vwC) (ci := 6) (v := .ref (a 2)) (C := RX5) (T := TX5) (N := 7) hx hb hG.use i_X5 hown hK hP 0 rfl rfl 1 (by decide) (hG.use _ lf_X5_19) (fun _ h9 => h9) rfl dX5_pattern_1 ?_
  refine lv_iload_n hx hb dX5_pattern_4 rfl (lv_at hl 1 rfl) ?_
  refine ro_call (g_runV (rest := []) hx hb hml hown hG hK hP mV_X4_has (c_X4_has l D a k I F p0 (by omega) (by omega)) lk_X5_116 (va_recv hK hP (ci := 5) (q0 := 2) rfl rfl) rfl hl.1 rfl (Nat.le_of_ble_eq_true rfl) ⟨(Nat.le_of_ble_eq_true rfl), (Nat.le_of_ble_eq_true rfl)⟩ ⟨(Nat.le_of_ble_eq_true rfl), (Nat.le_of_ble_eq_true rfl)⟩ dX5_pattern_5) (fun r_1 q_2 => ?_)
  refine xr_if_neZ (tgt := 13) hx hb q_2 dX5_pattern_8 (by decide) (fun c_3 => ?_) (fun c_3 => ?_)
  · skip
    -- 8 t
    have f_ok := hok (by omega)
    have f_rw := hv.rw p0 (by omega) (by omega)
    refine lv_iload_n hx hb dX5_pattern_13 rfl (lv_at hl 2 rfl) ?_
    refine xr_if_lt (a := p1) (tgt := 30) hx hb dX5_pattern_14 (by decide) (fun c_4 => ?_) (fun c_4 => ?_) (by omega)
    · skip
      -- 14 t
      exfalso; omega
    · skip
      -- 14 f
      refine lv_iload_n hx hb dX5_pattern_17 rfl (lv_at hl 2 rfl) ?_
      refine lv_aload_n hx hb dX5_pattern_18 rfl (lv_at hl 0 rfl) ?_
      refine va_get (D := D) (cl := vwC) (ci := 6) (v := .ref (a 2)) (C := RX5) (T := TX5) (N := 7) hx hb hG.use i_X5 hown hK hP 0 rfl rfl 1 (by decide) (hG.use _ lf_X5_19) (fun _ h9 => h9) rfl dX5_pattern_19 ?_
      refine va_getN (host := "FormatRows") (D := D) (cl := vwC) (ci := 5) (v := .ref (a 13)) (C := RX4) (T := TX4) (N := 7) hx hb hG.use i_X4 hown hK hP 2 rfl rfl 5 (by decide) (hG.use _ lf_X5_146) (fun _ h9 => h9) rfl dX5_pattern_22 ?_
      refine lv_iload_n hx hb dX5_pattern_25 rfl (lv_at hl 1 rfl) ?_
      refine xr_iald (f := F 13) (z := p0) hx hb hK hP 13 7 rfl rfl (by omega) (by omega) (by decide) dX5_pattern_26 ?_
      refine xr_icmp_lt (a := p1) (b := (F 13) p0) (tgt := 40) hx hb dX5_pattern_27 (by decide) (fun c_5 => ?_) (fun c_5 => ?_) (by omega) (by omega)
      · skip
        -- 27 t
        refine lv_aload_n hx hb dX5_pattern_40 rfl (lv_at hl 0 rfl) ?_
        refine va_get (D := D) (cl := vwC) (ci := 6) (v := .ref (a 2)) (C := RX5) (T := TX5) (N := 7) hx hb hG.use i_X5 hown hK hP 0 rfl rfl 1 (by decide) (hG.use _ lf_X5_19) (fun _ h9 => h9) rfl dX5_pattern_41 ?_
        refine lv_iload_n hx hb dX5_pattern_44 rfl (lv_at hl 1 rfl) ?_
        refine lv_iload_n hx hb dX5_pattern_45 rfl (lv_at hl 2 rfl) ?_
        refine ro_call (g_runV (rest := []) hx hb hml hown hG hK hP mV_X4_placeAt (c_X4_placeAt l D a k I F p0 p1 (by omega) (by omega)) lk_X5_151 (va_recv hK hP (ci := 5) (q0 := 2) rfl rfl) rfl hl.1 rfl (Nat.le_of_ble_eq_true rfl) ⟨(Nat.le_of_ble_eq_true rfl), (Nat.le_of_ble_eq_true rfl)⟩ ⟨(Nat.le_of_ble_eq_true rfl), (Nat.le_of_ble_eq_true rfl)⟩ dX5_pattern_46) (fun r_6 q_7 => ?_)
        exact W.iret (v := iI r_6) hx hb hr (fun t ht9 hW => ⟨r_6, rfl, (by right; exact ⟨by omega, by assumption⟩), ht9⟩) t_nil dX5_pattern_49
      · skip
        -- 27 f
        exfalso; omega
  · skip
    -- 8 f
    refine xr_iconst hx hb dX5_pattern_11 ?_
    exact W.iret (v := iI (-1)) hx hb hr (fun t ht9 hW => ⟨(-1), rfl, (by left; exact ⟨by omega, rfl⟩), ht9⟩) t_nil dX5_pattern_12
set_option maxHeartbeats 4000000 in
set_option maxRecDepth 100000 in
theorem t_X5_pattern (l : Launch) (hfl : l.flags = flags0) (D : va_G) (a : Nat → Nat) (k : Nat → ClassId) (I : Nat → Int) (F : Nat → Int → Int) (p0 p1 : Int) (hv : xInv I F) (b0 : -2147483648 ≤ p0 ∧ p0 < 2147483648) (b1 : -2147483648 ≤ p1 ∧ p1 < 2147483648) (hrow : 0 ≤ p0 ∧ p0 < I 8) (hno : ¬ (0 ≤ p1 ∧ p1 < F 13 p0)) : tm_M l yX5_pattern cX5_pattern 3 (some .int) [.ref (a 0), .int (iI p0), .int (iI p1)] D (xT k) (xW a k I F) := by
  refine me_startT (by decide) (Nat.le_of_ble_eq_true rfl) rfl ?_
  intro p e s m below meth c hx hb hml hown hlocks hex hG hK hP hA ls hl
  have hown : s.vm.findClass RX5 = some m.cls := hown
  have hl : lv_has ls 3 [(0, .ref (a 0)), (1, .int (iI p0)), (2, .int (iI p1))] := hl
  have f_n := hv.n
  have f_rw := hv.rw p0 (by omega) (by omega)
  refine lv_aload_n hx hb dX5_pattern_0 rfl (lv_at hl 0 rfl) ?_
  refine va_get (D := D) (cl := vwC) (ci := 6) (v := .ref (a 2)) (C := RX5) (T := TX5) (N := 7) hx hb hG.use i_X5 hown hK hP 0 rfl rfl 1 (by decide) (hG.use _ lf_X5_19) (fun _ h9 => h9) rfl dX5_pattern_1 ?_
  refine lv_iload_n hx hb dX5_pattern_4 rfl (lv_at hl 1 rfl) ?_
  refine ro_call (g_runV (rest := []) hx hb hml hown hG hK hP mV_X4_has (c_X4_has l D a k I F p0 (by omega) (by omega)) lk_X5_116 (va_recv hK hP (ci := 5) (q0 := 2) rfl rfl) rfl hl.1 rfl (Nat.le_of_ble_eq_true rfl) ⟨(Nat.le_of_ble_eq_true rfl), (Nat.le_of_ble_eq_true rfl)⟩ ⟨(Nat.le_of_ble_eq_true rfl), (Nat.le_of_ble_eq_true rfl)⟩ dX5_pattern_5) (fun r_1 q_2 => ?_)
  refine xr_if_neZ (tgt := 13) hx hb q_2 dX5_pattern_8 (by decide) (fun c_3 => ?_) (fun c_3 => ?_)
  · skip
    -- 8 t
    refine lv_iload_n hx hb dX5_pattern_13 rfl (lv_at hl 2 rfl) ?_
    refine xr_if_lt (a := p1) (tgt := 30) hx hb dX5_pattern_14 (by decide) (fun c_4 => ?_) (fun c_4 => ?_) (by omega)
    · skip
      -- 14 t
      exact W_throw hx hb hfl hown hG hA hlocks hex (hml.trans hl.1.symm) 149 hA.2.2 dX5_pattern_30 dX5_pattern_33 dX5_pattern_34 dX5_pattern_36 dX5_pattern_39 ⟨(Nat.le_of_ble_eq_true rfl), (Nat.le_of_ble_eq_true rfl)⟩ ⟨(Nat.le_of_ble_eq_true rfl), (Nat.le_of_ble_eq_true rfl)⟩
    · skip
      -- 14 f
      refine lv_iload_n hx hb dX5_pattern_17 rfl (lv_at hl 2 rfl) ?_
      refine lv_aload_n hx hb dX5_pattern_18 rfl (lv_at hl 0 rfl) ?_
      refine va_get (D := D) (cl := vwC) (ci := 6) (v := .ref (a 2)) (C := RX5) (T := TX5) (N := 7) hx hb hG.use i_X5 hown hK hP 0 rfl rfl 1 (by decide) (hG.use _ lf_X5_19) (fun _ h9 => h9) rfl dX5_pattern_19 ?_
      refine va_getN (host := "FormatRows") (D := D) (cl := vwC) (ci := 5) (v := .ref (a 13)) (C := RX4) (T := TX4) (N := 7) hx hb hG.use i_X4 hown hK hP 2 rfl rfl 5 (by decide) (hG.use _ lf_X5_146) (fun _ h9 => h9) rfl dX5_pattern_22 ?_
      refine lv_iload_n hx hb dX5_pattern_25 rfl (lv_at hl 1 rfl) ?_
      refine xr_iald (f := F 13) (z := p0) hx hb hK hP 13 7 rfl rfl (by omega) (by omega) (by decide) dX5_pattern_26 ?_
      refine xr_icmp_lt (a := p1) (b := (F 13) p0) (tgt := 40) hx hb dX5_pattern_27 (by decide) (fun c_5 => ?_) (fun c_5 => ?_) (by omega) (by omega)
      · skip
        -- 27 t
        exfalso; omega
      · skip
        -- 27 f
        exact W_throw hx hb hfl hown hG hA hlocks hex (hml.trans hl.1.symm) 149 hA.2.2 dX5_pattern_30 dX5_pattern_33 dX5_pattern_34 dX5_pattern_36 dX5_pattern_39 ⟨(Nat.le_of_ble_eq_true rfl), (Nat.le_of_ble_eq_true rfl)⟩ ⟨(Nat.le_of_ble_eq_true rfl), (Nat.le_of_ble_eq_true rfl)⟩
  · skip
    -- 8 f
    exfalso; omega
