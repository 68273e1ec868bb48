set_option maxHeartbeats 4000000 in
set_option maxRecDepth 100000 in
theorem c_L_found0 (l : Launch) (D : va_G) (a : Nat → Nat) (k : Nat → ClassId) (I : Nat → Int) (F : Nat → Int → Int) (o : Nat) (ko : ClassId) (fo : Nat → Int64) (p0 : Int) (hdis : dis 24 a) (ho : ¬ adr 24 a o) (v : Int) (bI : -2147483648 ≤ I 0 ∧ I 0 < 2147483648) (b0 : -2147483648 ≤ p0 ∧ p0 < 2147483648) (hith : ith (fun k => bt (I 0) k) 30 p0 v) (hne : v ≠ -1) : Met l yL_found [.codeWith yL_found cL_found 4 (some .int) [(0, 9, 12, 13)]] (rmd 3) (va_Pc [.ref (a 0), .int (iI p0), .ref o] (pL D a k I F o ko fo)) (lq0 D a k I F o ko v) 0 0 (lA a o) := by
  refine me_startW (by decide) (Nat.le_of_ble_eq_true rfl) rfl ?_
  intro p e s m below meth c hx hb hml hr hown hlocks hex hB ls hl
  obtain ⟨hG, hK, hP, hA⟩ := hB
  have hown : s.vm.findClass RL = some m.cls := hown
  have hl : lv_has ls 4 [(0, .ref (a 0)), (1, .int (iI p0)), (2, .ref o)] := hl
  have hS : va_S (lA a o) s.heap s.heap [] := va_S.rf
  refine lv_aload_n hx hb dL_found_0 rfl (lv_at hl 2 rfl) ?_
  refine xr_iconst hx hb dL_found_1 ?_
  refine lv_aload_n hx hb dL_found_2 rfl (lv_at hl 0 rfl) ?_
  refine lv_iload_n hx hb dL_found_3 rfl (lv_at hl 1 rfl) ?_
  refine ro_call (g_runV (rest := [.int (iI 0), .ref o]) hx hb hml hown hG (hK.sub (tys' := xT k) [0, 1, 2, 3, 4, 5, 6, 7, 8, 9, 10, 11, 12, 13, 14, 15, 16, 17] rfl) (hP.sub (ws' := xW a k I F) [0, 1, 2, 3, 4, 5, 6, 7, 8, 9, 10, 11, 12, 13, 14, 15, 16, 17, 18, 19, 20, 21, 22, 23] rfl) mV_X5_found (c_X5_found l D a k I F p0 v bI b0 hith hne) lk_L_7 (va_recv hK hP (ci := 6) (q0 := 0) rfl rfl) rfl hl.1 rfl (Nat.le_of_ble_eq_true rfl) ⟨(Nat.le_of_ble_eq_true rfl), (Nat.le_of_ble_eq_true rfl)⟩ ⟨(Nat.le_of_ble_eq_true rfl), (Nat.le_of_ble_eq_true rfl)⟩ dL_found_4) (fun r_1 q_1 => ?_)
  refine lv_i2l hx hb dL_found_7 rfl ?_
  refine va_last hx hb hK hP (lD hdis ho) hS 24 18 rfl rfl (iI_in (z := 0) (by omega) (by decide) (by decide)) dL_found_8 (fun H locs hP _ hS => ?_)
  have hP : va_P D vwC (lW a k I F o ko (vp_updL fo (iI 0).toNatClampNeg (iI r_1).toInt64)) H := hP
  refine lv_goto (tgt := 15) hx hb dL_found_9 (by decide) ?_
  refine xr_iconst hx hb dL_found_15 ?_
  exact W.iret (v := iI 0) hx hb hr (fun t ht9 hW => ⟨rfl, ⟨vp_updL fo (iI 0).toNatClampNeg (iI r_1).toInt64, by rw [show (iI 0).toNatClampNeg = 0 from rfl, pk_uLs, q_1], by rw [ht9]; exact hP⟩, hS.F ht9⟩) hS.2.2 dL_found_16
set_option maxHeartbeats 4000000 in
set_option maxRecDepth 100000 in
theorem c_L_found1 (l : Launch) (D : va_G) (a : Nat → Nat) (k : Nat → ClassId) (I : Nat → Int) (F : Nat → Int → Int) (o : Nat) (ko : ClassId) (fo : Nat → Int64) (p0 : Int) (hfl : l.flags = flags0) (bI : -2147483648 ≤ I 0 ∧ I 0 < 2147483648) (b0 : -2147483648 ≤ p0 ∧ p0 < 2147483648) (hith : ith (fun k => bt (I 0) k) 30 p0 (-1)) : Met l yL_found [.codeWith yL_found cL_found 4 (some .int) [(0, 9, 12, 13)]] rmL (va_Pc [.ref (a 0), .int (iI p0), .ref o] (pL D a k I F o ko fo)) (lq1) 1 6 (fun _ => False) := by
  refine me_startW (by decide) (Nat.le_of_ble_eq_true rfl) rfl ?_
  intro p e s m below meth c hx hb hml hr hown hlocks hex hB ls hl
  obtain ⟨hG, hK, hP, hA⟩ := hB
  obtain ⟨x, hone, hx9⟩ := hex
  simp only [Prod.mk.injEq] at hx9
  obtain ⟨e1, e2, e3, e4⟩ := hx9
  have hown : s.vm.findClass RL = some m.cls := hown
  have hl : lv_has ls 4 [(0, .ref (a 0)), (1, .int (iI p0)), (2, .ref o)] := hl
  refine lv_aload_n hx hb dL_found_0 rfl (lv_at hl 2 rfl) ?_
  refine xr_iconst hx hb dL_found_1 ?_
  refine lv_aload_n hx hb dL_found_2 rfl (lv_at hl 0 rfl) ?_
  refine lv_iload_n hx hb dL_found_3 rfl (lv_at hl 1 rfl) ?_
  refine W_callT (rest := [.int (iI 0), .ref o]) hx hb hml hown hG (hK.sub (tys' := xT k) [0, 1, 2, 3, 4, 5, 6, 7, 8, 9, 10, 11, 12, 13, 14, 15, 16, 17] rfl) (hP.sub (ws' := xW a k I F) [0, 1, 2, 3, 4, 5, 6, 7, 8, 9, 10, 11, 12, 13, 14, 15, 16, 17, 18, 19, 20, 21, 22, 23] rfl) hA (fun _ _ => rfl) mV_X5_found (t_X5_found l hfl D a k I F p0 bI b0 hith) lk_L_7 (va_recv hK hP (ci := 6) (q0 := 0) rfl rfl) rfl hl.1 rfl (Nat.le_of_ble_eq_true rfl) ⟨(Nat.le_of_ble_eq_true rfl), (Nat.le_of_ble_eq_true rfl)⟩ ⟨(Nat.le_of_ble_eq_true rfl), (Nat.le_of_ble_eq_true rfl)⟩ dL_found_4 hone (by unfold covers; rw [e1, e2]; decide) (by rw [e4]; decide) (by rw [e4]; exact lc_L_13) (fun xa H1 hz hk => ?_)
  rw [e3]
  refine lv_astore_n (lv' := [(3, .ref xa), (0, .ref (a 0)), (1, .int (iI p0)), (2, .ref o)]) hx hb dL_found_12 rfl hl (by decide) rfl (fun ls hl => ?_)
  refine xr_iconst hx hb dL_found_13 ?_
  exact W.iret (v := iI 1) hx hb hr (fun t ht9 hW => ⟨rfl, ⟨by rw [ht9]; exact hz, fun q h1 _ => by rw [ht9]; exact hk q h1⟩⟩) t_nil dL_found_14
set_option maxHeartbeats 4000000 in
set_option maxRecDepth 100000 in
theorem c_L_pattern0 (l : Launch) (D : va_G) (a : Nat → Nat) (k : Nat → ClassId) (I : Nat → Int) (F : Nat → Int → Int) (o : Nat) (ko : ClassId) (fo : Nat → Int64) (p0 p1 : Int) (hdis : dis 24 a) (ho : ¬ adr 24 a o) (v : Int) (hv : xInv I F) (b0 : -2147483648 ≤ p0 ∧ p0 < 2147483648) (b1 : -2147483648 ≤ p1 ∧ p1 < 2147483648) (hok : (0 ≤ p0 ∧ p0 < I 8) → 0 ≤ p1 ∧ p1 < F 13 p0) (hval : ∀ r, ((¬ (0 ≤ p0 ∧ p0 < I 8) ∧ r = -1) ∨ ((0 ≤ p0 ∧ p0 < I 8) ∧ r = F 14 (p0 * 12 + p1))) → r = v) : Met l yL_pattern [.codeWith yL_pattern cL_pattern 5 (some .int) [(0, 10, 13, 13)]] (rmd 3) (va_Pc [.ref (a 0), .int (iI p0), .int (iI p1), .ref o] (pL D a k I F o ko fo)) (lq0 D a k I F o ko v) 0 0 (lA a o) := by
  refine me_startW (by decide) (Nat.le_of_ble_eq_true rfl) rfl ?_
  intro p e s m below meth c hx hb hml hr hown hlocks hex hB ls hl
  obtain ⟨hG, hK, hP, hA⟩ := hB
  have hown : s.vm.findClass RL = some m.cls := hown
  have hl : lv_has ls 5 [(0, .ref (a 0)), (1, .int (iI p0)), (2, .int (iI p1)), (3, .ref o)] := hl
  have hS : va_S (lA a o) s.heap s.heap [] := va_S.rf
  refine lv_aload_n hx hb dL_pattern_0 rfl (lv_at hl 3 rfl) ?_
  refine xr_iconst hx hb dL_pattern_1 ?_
  refine lv_aload_n hx hb dL_pattern_2 rfl (lv_at hl 0 rfl) ?_
  refine lv_iload_n hx hb dL_pattern_3 rfl (lv_at hl 1 rfl) ?_
  refine lv_iload_n hx hb dL_pattern_4 rfl (lv_at hl 2 rfl) ?_
  refine ro_call (g_runV (rest := [.int (iI 0), .ref o]) hx hb hml hown hG (hK.sub (tys' := xT k) [0, 1, 2, 3, 4, 5, 6, 7, 8, 9, 10, 11, 12, 13, 14, 15, 16, 17] rfl) (hP.sub (ws' := xW a k I F) [0, 1, 2, 3, 4, 5, 6, 7, 8, 9, 10, 11, 12, 13, 14, 15, 16, 17, 18, 19, 20, 21, 22, 23] rfl) mV_X5_pattern (c_X5_pattern l D a k I F p0 p1 hv b0 b1 hok) lk_L_15 (va_recv hK hP (ci := 6) (q0 := 0) rfl rfl) rfl hl.1 rfl (Nat.le_of_ble_eq_true rfl) ⟨(Nat.le_of_ble_eq_true rfl), (Nat.le_of_ble_eq_true rfl)⟩ ⟨(Nat.le_of_ble_eq_true rfl), (Nat.le_of_ble_eq_true rfl)⟩ dL_pattern_5) (fun r_1 q_1 => ?_)
  refine lv_i2l hx hb dL_pattern_8 rfl ?_
  refine va_last hx hb hK hP (lD hdis ho) hS 24 18 rfl rfl (iI_in (z := 0) (by omega) (by decide) (by decide)) dL_pattern_9 (fun H locs hP _ hS => ?_)
  have hP : va_P D vwC (lW a k I F o ko (vp_updL fo (iI 0).toNatClampNeg (iI r_1).toInt64)) H := hP
  refine lv_goto (tgt := 17) hx hb dL_pattern_10 (by decide) ?_
  refine xr_iconst hx hb dL_pattern_17 ?_
  exact W.iret (v := iI 0) hx hb hr (fun t ht9 hW => ⟨rfl, ⟨vp_updL fo (iI 0).toNatClampNeg (iI r_1).toInt64, by rw [show (iI 0).toNatClampNeg = 0 from rfl, pk_uLs, hval r_1 q_1], by rw [ht9]; exact hP⟩, hS.F ht9⟩) hS.2.2 dL_pattern_18
set_option maxHeartbeats 4000000 in
set_option maxRecDepth 100000 in
theorem c_L_pattern1 (l : Launch) (D : va_G) (a : Nat → Nat) (k : Nat → ClassId) (I : Nat → Int) (F : Nat → Int → Int) (o : Nat) (ko : ClassId) (fo : Nat → Int64) (p0 p1 : Int) (hfl : l.flags = flags0) (hv : xInv I F) (b0 : -2147483648 ≤ p0 ∧ p0 < 2147483648) (b1 : -2147483648 ≤ p1 ∧ p1 < 2147483648) (hrow : 0 ≤ p0 ∧ p0 < I 8) (hno : ¬ (0 ≤ p1 ∧ p1 < F 13 p0)) : Met l yL_pattern [.codeWith yL_pattern cL_pattern 5 (some .int) [(0, 10, 13, 13)]] rmL (va_Pc [.ref (a 0), .int (iI p0), .int (iI p1), .ref o] (pL D a k I F o ko fo)) (lq1) 1 6 (fun _ => False) := by
  refine me_startW (by decide) (Nat.le_of_ble_eq_true rfl) rfl ?_
  intro p e s m below meth c hx hb hml hr hown hlocks hex hB ls hl
  obtain ⟨hG, hK, hP, hA⟩ := hB
  obtain ⟨x, hone, hx9⟩ := hex
  simp only [Prod.mk.injEq] at hx9
  obtain ⟨e1, e2, e3, e4⟩ := hx9
  have hown : s.vm.findClass RL = some m.cls := hown
  have hl : lv_has ls 5 [(0, .ref (a 0)), (1, .int (iI p0)), (2, .int (iI p1)), (3, .ref o)] := hl
  refine lv_aload_n hx hb dL_pattern_0 rfl (lv_at hl 3 rfl) ?_
  refine xr_iconst hx hb dL_pattern_1 ?_
  refine lv_aload_n hx hb dL_pattern_2 rfl (lv_at hl 0 rfl) ?_
  refine lv_iload_n hx hb dL_pattern_3 rfl (lv_at hl 1 rfl) ?_
  refine lv_iload_n hx hb dL_pattern_4 rfl (lv_at hl 2 rfl) ?_
  refine W_callT (rest := [.int (iI 0), .ref o]) hx hb hml hown hG (hK.sub (tys' := xT k) [0, 1, 2, 3, 4, 5, 6, 7, 8, 9, 10, 11, 12, 13, 14, 15, 16, 17] rfl) (hP.sub (ws' := xW a k I F) [0, 1, 2, 3, 4, 5, 6, 7, 8, 9, 10, 11, 12, 13, 14, 15, 16, 17, 18, 19, 20, 21, 22, 23] rfl) hA (fun _ _ => rfl) mV_X5_pattern (t_X5_pattern l hfl D a k I F p0 p1 hv b0 b1 hrow hno) lk_L_15 (va_recv hK hP (ci := 6) (q0 := 0) rfl rfl) rfl hl.1 rfl (Nat.le_of_ble_eq_true rfl) ⟨(Nat.le_of_ble_eq_true rfl), (Nat.le_of_ble_eq_true rfl)⟩ ⟨(Nat.le_of_ble_eq_true rfl), (Nat.le_of_ble_eq_true rfl)⟩ dL_pattern_5 hone (by unfold covers; rw [e1, e2]; decide) (by rw [e4]; decide) (by rw [e4]; exact lc_L_13) (fun xa H1 hz hk => ?_)
  rw [e3]
  refine lv_astore (lv' := [(4, .ref xa), (0, .ref (a 0)), (1, .int (iI p0)), (2, .int (iI p1)), (3, .ref o)]) hx hb dL_pattern_13 hl (by decide) rfl (fun ls hl => ?_)
  refine xr_iconst hx hb dL_pattern_15 ?_
  exact W.iret (v := iI 1) hx hb hr (fun t ht9 hW => ⟨rfl, ⟨by rw [ht9]; exact hz, fun q h1 _ => by rw [ht9]; exact hk q h1⟩⟩) t_nil dL_pattern_16
