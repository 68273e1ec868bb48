set_option maxHeartbeats 4000000 in
set_option maxRecDepth 100000 in
theorem c_X5_meets (l : Launch) (D : va_G) (a : Nat → Nat) (k : Nat → ClassId) (I : Nat → Int) (F : Nat → Int → Int) (p0 p1 : Int) (hv : xInv I F) (b0 : -2147483648 ≤ p0 ∧ p0 < 2147483648) (b1 : -2147483648 ≤ p1 ∧ p1 < 2147483648) : ro_M l yX5_meets cX5_meets 3 (some .int) 2 [.ref (a 0), .int (iI p0), .int (iI p1)] D (xT k) (xW a k I F) (fun r => (¬ ((0 ≤ p0 ∧ p0 < I 8) ∧ (0 ≤ p1 ∧ p1 < I 9)) ∧ r = -1) ∨ ((0 ≤ p0 ∧ p0 < I 8) ∧ (0 ≤ p1 ∧ p1 < I 9) ∧ bz (xfit F p0 p1) r)) := by
  refine me_start (by decide) (Nat.le_of_ble_eq_true rfl) rfl ?_
  intro p e s m below meth c hx hb hml hr hown hlocks hnm hG hK hP ls hl
  have hown : s.vm.findClass RX5 = some m.cls := hown
  have hl : lv_has ls 3 [(0, .ref (a 0)), (1, .int (iI p0)), (2, .int (iI p1))] := hl
  have f_n := hv.n
  refine lv_aload_n hx hb dX5_meets_0 rfl (lv_at hl 0 rfl) ?_
  refine va_get (D := D) (cl := vwC) (ci := 6) (v := .ref (a 2)) (C := RX5) (T := TX5) (N := 7) hx hb hG.use i_X5 hown hK hP 0 rfl rfl 1 (by decide) (hG.use _ lf_X5_19) (fun _ h9 => h9) rfl dX5_meets_1 ?_
  refine lv_iload_n hx hb dX5_meets_4 rfl (lv_at hl 1 rfl) ?_
  refine ro_call (g_runV (rest := []) hx hb hml hown hG hK hP mV_X4_has (c_X4_has l D a k I F p0 (by omega) (by omega)) lk_X5_116 (va_recv hK hP (ci := 5) (q0 := 2) rfl rfl) rfl hl.1 rfl (Nat.le_of_ble_eq_true rfl) ⟨(Nat.le_of_ble_eq_true rfl), (Nat.le_of_ble_eq_true rfl)⟩ ⟨(Nat.le_of_ble_eq_true rfl), (Nat.le_of_ble_eq_true rfl)⟩ dX5_meets_5) (fun r_1 q_2 => ?_)
  refine xr_if_eqZ (tgt := 22) hx hb q_2 dX5_meets_8 (by decide) (fun c_3 => ?_) (fun c_3 => ?_)
  · skip
    -- 8 t
    refine xr_iconst hx hb dX5_meets_22 ?_
    exact W.iret (v := iI (-1)) hx hb hr (fun t ht9 hW => ⟨(-1), rfl, (by left; exact ⟨by omega, rfl⟩), ht9⟩) t_nil dX5_meets_23
  · skip
    -- 8 f
    refine lv_aload_n hx hb dX5_meets_11 rfl (lv_at hl 0 rfl) ?_
    refine va_get (D := D) (cl := vwC) (ci := 6) (v := .ref (a 3)) (C := RX5) (T := TX5) (N := 7) hx hb hG.use i_X5 hown hK hP 0 rfl rfl 2 (by decide) (hG.use _ lf_X5_26) (fun _ h9 => h9) rfl dX5_meets_12 ?_
    refine lv_iload_n hx hb dX5_meets_15 rfl (lv_at hl 2 rfl) ?_
    refine ro_call (g_runV (rest := []) hx hb hml hown hG hK hP mV_X1_has (c_X1_has l D a k I F p1 (by omega) (by omega)) lk_X5_75 (va_recv hK hP (ci := 2) (q0 := 3) rfl rfl) rfl hl.1 rfl (Nat.le_of_ble_eq_true rfl) ⟨(Nat.le_of_ble_eq_true rfl), (Nat.le_of_ble_eq_true rfl)⟩ ⟨(Nat.le_of_ble_eq_true rfl), (Nat.le_of_ble_eq_true rfl)⟩ dX5_meets_16) (fun r_4 q_5 => ?_)
    refine xr_if_neZ (tgt := 24) hx hb q_5 dX5_meets_19 (by decide) (fun c_6 => ?_) (fun c_6 => ?_)
    · skip
      -- 19 t
      refine lv_aload_n hx hb dX5_meets_24 rfl (lv_at hl 0 rfl) ?_
      refine lv_iload_n hx hb dX5_meets_25 rfl (lv_at hl 1 rfl) ?_
      refine lv_iload_n hx hb dX5_meets_26 rfl (lv_at hl 2 rfl) ?_
      refine ro_call (g_runV (rest := []) hx hb hml hown hG hK hP mV_X5_fits (c_X5_fits l D a k I F p0 p1 hv (by omega) (by omega)) lk_X5_117 (va_recv hK hP (ci := 6) (q0 := 0) rfl rfl) rfl hl.1 rfl (Nat.le_of_ble_eq_true rfl) ⟨(Nat.le_of_ble_eq_true rfl), (Nat.le_of_ble_eq_true rfl)⟩ ⟨(Nat.le_of_ble_eq_true rfl), (Nat.le_of_ble_eq_true rfl)⟩ dX5_meets_27) (fun r_7 q_8 => ?_)
      refine xr_if_eqZ (tgt := 37) hx hb q_8 dX5_meets_30 (by decide) (fun c_9 => ?_) (fun c_9 => ?_)
      · skip
        -- 30 t
        refine xr_iconst hx hb dX5_meets_37 ?_
        exact W.iret (v := iI 0) hx hb hr (fun t ht9 hW => ⟨0, rfl, (by right; refine ⟨by omega, by omega, ?_⟩; first | exact bz_t (by assumption) | exact bz_f (by assumption)), ht9⟩) t_nil dX5_meets_38
      · skip
        -- 30 f
        refine xr_iconst hx hb dX5_meets_33 ?_
        refine lv_goto (tgt := 38) hx hb dX5_meets_34 (by decide) ?_
        exact W.iret (v := iI 1) hx hb hr (fun t ht9 hW => ⟨1, rfl, (by right; refine ⟨by omega, by omega, ?_⟩; first | exact bz_t (by assumption) | exact bz_f (by assumption)), ht9⟩) t_nil dX5_meets_38
    · skip
      -- 19 f
      refine xr_iconst hx hb dX5_meets_22 ?_
      exact W.iret (v := iI (-1)) hx hb hr (fun t ht9 hW => ⟨(-1), rfl, (by left; exact ⟨by omega, rfl⟩), ht9⟩) t_nil dX5_meets_23
set_option maxHeartbeats 4000000 in
set_option maxRecDepth 100000 in
theorem c_X5_deep (l : Launch) (D : va_G) (a : Nat → Nat) (k : Nat → ClassId) (I : Nat → Int) (F : Nat → Int → Int) (p0 : Int) (hv : xInv I F) (b0 : -2147483648 ≤ p0 ∧ p0 < 2147483648) : ro_M l yX5_deep cX5_deep 2 (some .int) 8 [.ref (a 0), .int (iI p0)] D (xT k) (xW a k I F) (fun r => (¬ (0 ≤ p0 ∧ p0 < I 9) ∧ r = -2) ∨ ((0 ≤ p0 ∧ p0 < I 9) ∧ r = xdv I F 3 p0)) := by
  refine me_start (by decide) (Nat.le_of_ble_eq_true rfl) rfl ?_
  intro p e s m below meth c hx hb hml hr hown hlocks hnm hG hK hP ls hl
  have hown : s.vm.findClass RX5 = some m.cls := hown
  have hl : lv_has ls 2 [(0, .ref (a 0)), (1, .int (iI p0))] := hl
  have f_n := hv.n
  refine lv_aload_n hx hb dX5_deep_0 rfl (lv_at hl 0 rfl) ?_
  refine va_get (D := D) (cl := vwC) (ci := 6) (v := .ref (a 3)) (C := RX5) (T := TX5) (N := 7) hx hb hG.use i_X5 hown hK hP 0 rfl rfl 2 (by decide) (hG.use _ lf_X5_26) (fun _ h9 => h9) rfl dX5_deep_1 ?_
  refine lv_iload_n hx hb dX5_deep_4 rfl (lv_at hl 1 rfl) ?_
  refine ro_call (g_runV (rest := []) hx hb hml hown hG hK hP mV_X1_has (c_X1_has l D a k I F p0 (by omega) (by omega)) lk_X5_75 (va_recv hK hP (ci := 2) (q0 := 3) rfl rfl) rfl hl.1 rfl (Nat.le_of_ble_eq_true rfl) ⟨(Nat.le_of_ble_eq_true rfl), (Nat.le_of_ble_eq_true rfl)⟩ ⟨(Nat.le_of_ble_eq_true rfl), (Nat.le_of_ble_eq_true rfl)⟩ dX5_deep_5) (fun r_1 q_2 => ?_)
  refine xr_if_neZ (tgt := 14) hx hb q_2 dX5_deep_8 (by decide) (fun c_3 => ?_) (fun c_3 => ?_)
  · skip
    -- 8 t
    refine lv_aload_n hx hb dX5_deep_14 rfl (lv_at hl 0 rfl) ?_
    refine lv_iload_n hx hb dX5_deep_15 rfl (lv_at hl 1 rfl) ?_
    refine xr_iconst hx hb dX5_deep_16 ?_
    refine ro_call (g_runV (rest := []) hx hb hml hown hG hK hP mV_X5_deepFormat (c_X5_deep3 l D a k I F p0 hv (by omega)) lk_X5_126 (va_recv hK hP (ci := 6) (q0 := 0) rfl rfl) rfl hl.1 rfl (Nat.le_of_ble_eq_true rfl) ⟨(Nat.le_of_ble_eq_true rfl), (Nat.le_of_ble_eq_true rfl)⟩ ⟨(Nat.le_of_ble_eq_true rfl), (Nat.le_of_ble_eq_true rfl)⟩ dX5_deep_17) (fun r_4 q_5 => ?_)
    exact W.iret (v := iI r_4) hx hb hr (fun t ht9 hW => ⟨r_4, rfl, (by right; exact ⟨by omega, by assumption⟩), ht9⟩) t_nil dX5_deep_20
  · skip
    -- 8 f
    refine xr_bipush hx hb dX5_deep_11 (by decide +kernel) ?_
    exact W.iret (v := iI (-2)) hx hb hr (fun t ht9 hW => ⟨(-2), rfl, (by left; exact ⟨by omega, rfl⟩), ht9⟩) t_nil dX5_deep_13
set_option maxHeartbeats 4000000 in
set_option maxRecDepth 100000 in
theorem c_X5_becomes (l : Launch) (D : va_G) (a : Nat → Nat) (k : Nat → ClassId) (I : Nat → Int) (F : Nat → Int → Int) (p0 : Int) (hv : xInv I F) (b0 : -2147483648 ≤ p0 ∧ p0 < 2147483648) : ro_M l yX5_becomes cX5_becomes 2 (some .int) 1 [.ref (a 0), .int (iI p0)] D (xT k) (xW a k I F) (fun r => (¬ (0 ≤ p0 ∧ p0 < 30) ∧ r = -2) ∨ ((0 ≤ p0 ∧ p0 < 30) ∧ ((bc (F 22) (F 23) p0 30 = p0 ∧ r = -1) ∨ (bc (F 22) (F 23) p0 30 ≠ p0 ∧ r = bc (F 22) (F 23) p0 30)))) := by
  refine me_start (by decide) (Nat.le_of_ble_eq_true rfl) rfl ?_
  intro p e s m below meth c hx hb hml hr hown hlocks hnm hG hK hP ls hl
  have hown : s.vm.findClass RX5 = some m.cls := hown
  have hl : lv_has ls 2 [(0, .ref (a 0)), (1, .int (iI p0))] := hl
  have f_n := hv.n
  refine lv_iload_n hx hb dX5_becomes_0 rfl (lv_at hl 1 rfl) ?_
  refine ro_call (g_runS (rest := []) hx hb hml hown hG (hK.sub (tys' := []) [] rfl) (va_P0) mS_X5_isFormat (c_X5_isFormat l D p0 (by omega)) lk_X5_120 rfl hl.1 rfl (Nat.le_of_ble_eq_true rfl) ⟨(Nat.le_of_ble_eq_true rfl), (Nat.le_of_ble_eq_true rfl)⟩ ⟨(Nat.le_of_ble_eq_true rfl), (Nat.le_of_ble_eq_true rfl)⟩ dX5_becomes_1) (fun r_1 q_2 => ?_)
  refine xr_if_neZ (tgt := 10) hx hb q_2 dX5_becomes_4 (by decide) (fun c_3 => ?_) (fun c_3 => ?_)
  · skip
    -- 4 t
    refine lv_aload_n hx hb dX5_becomes_10 rfl (lv_at hl 0 rfl) ?_
    refine va_get (D := D) (cl := vwC) (ci := 6) (v := .ref (a 5)) (C := RX5) (T := TX5) (N := 7) hx hb hG.use i_X5 hown hK hP 0 rfl rfl 4 (by decide) (hG.use _ lf_X5_40) (fun _ h9 => h9) rfl dX5_becomes_11 ?_
    refine lv_iload_n hx hb dX5_becomes_14 rfl (lv_at hl 1 rfl) ?_
    refine ro_call (g_runV (rest := []) hx hb hml hown hG hK hP mV_X2_endFrom (c_X2_endFrom l D a k I F p0 (by omega) hv.mg) lk_X5_139 (va_recv hK hP (ci := 3) (q0 := 5) rfl rfl) rfl hl.1 rfl (Nat.le_of_ble_eq_true rfl) ⟨(Nat.le_of_ble_eq_true rfl), (Nat.le_of_ble_eq_true rfl)⟩ ⟨(Nat.le_of_ble_eq_true rfl), (Nat.le_of_ble_eq_true rfl)⟩ dX5_becomes_15) (fun r_4 q_5 => ?_)
    exact W.iret (v := iI r_4) hx hb hr (fun t ht9 hW => ⟨r_4, rfl, (by right; exact ⟨by omega, by assumption⟩), ht9⟩) t_nil dX5_becomes_18
  · skip
    -- 4 f
    refine xr_bipush hx hb dX5_becomes_7 (by decide +kernel) ?_
    exact W.iret (v := iI (-2)) hx hb hr (fun t ht9 hW => ⟨(-2), rfl, (by left; exact ⟨by omega, rfl⟩), ht9⟩) t_nil dX5_becomes_9
set_option maxHeartbeats 4000000 in
set_option maxRecDepth 100000 in
theorem c_X5_changed (l : Launch) (D : va_G) (a : Nat → Nat) (k : Nat → ClassId) (I : Nat → Int) (F : Nat → Int → Int) (p0 : Int) (hv : xInv I F) (b0 : -2147483648 ≤ p0 ∧ p0 < 2147483648) : ro_M l yX5_changed cX5_changed 4 (some .int) 4 [.ref (a 0), .int (iI p0)] D (xT k) (xW a k I F) (fun r => ith (fun f => xfm I F f ≠ F 6 f) (I 9) p0 r) := by
  refine me_start (by decide) (Nat.le_of_ble_eq_true rfl) rfl ?_
  intro p e s m below meth c hx hb hml hr hown hlocks hnm hG hK hP ls hl
  have hown : s.vm.findClass RX5 = some m.cls := hown
  have hl : lv_has ls 4 [(0, .ref (a 0)), (1, .int (iI p0))] := hl
  have f_n := hv.n
  refine xr_iconst hx hb dX5_changed_0 ?_
  refine lv_istore_n (lv' := [(2, .int (iI 0)), (0, .ref (a 0)), (1, .int (iI p0))]) hx hb dX5_changed_1 rfl hl (by decide) rfl (fun ls hl => ?_)
  refine xr_iconst hx hb dX5_changed_2 ?_
  refine lv_istore_n (lv' := [(3, .int (iI 0)), (2, .int (iI 0)), (0, .ref (a 0)), (1, .int (iI p0))]) hx hb dX5_changed_3 rfl hl (by decide) rfl (fun ls hl => ?_)
  have lp_4 : ∀ (nz : Nat) (bf : Int) (fi : Int), (I 9 - fi).toNat < nz → (0 ≤ fi ∧ fi ≤ I 9) → (bf = cnt (fun f => xfm I F f ≠ F 6 f) fi.toNat) → (∀ j, 0 ≤ j → j < fi → (fun f => xfm I F f ≠ F 6 f) j → cnt (fun f => xfm I F f ≠ F 6 f) j.toNat ≠ p0) → ∀ ls : Array Slot, lv_has ls 4 [(2, .int (iI bf)), (3, .int (iI fi)), (0, .ref (a 0)), (1, .int (iI p0))] → W p l e (rmd 4) s m ([.ref (a 0), .int (iI p0)] : List Value).toArray below meth c s.heap [] 0 0 (MQ below (ro_Q (fun r => ith (fun f => xfm I F f ≠ F 6 f) (I 9) p0 r)) ([.ref (a 0), .int (iI p0)] : List Value).toArray s 0 0 (fun _ => False)) (F0 m 4 ls []) := by
    clear hl
    intro nz
    induction nz with
    | zero =>
      intro bf fi hn
      exact absurd hn (Nat.not_lt_zero _)
    | succ n_4 ih_4 =>
      intro bf fi hn_4 i0 i1 i2 ls hl
      have f_0 := cnt_in (fun f => xfm I F f ≠ F 6 f) fi.toNat
      refine lv_iload_n hx hb dX5_changed_4 rfl (lv_at hl 1 rfl) ?_
      refine lv_aload_n hx hb dX5_changed_5 rfl (lv_at hl 2 rfl) ?_
      refine va_get (D := D) (cl := vwC) (ci := 6) (v := .ref (a 3)) (C := RX5) (T := TX5) (N := 7) hx hb hG.use i_X5 hown hK hP 0 rfl rfl 2 (by decide) (hG.use _ lf_X5_26) (fun _ h9 => h9) rfl dX5_changed_6 ?_
      refine va_getN (host := "FormatRows") (D := D) (cl := vwC) (ci := 2) (v := .int (iI (I 9))) (C := RX1) (T := TX1) (N := 5) hx hb hG.use i_X1 hown hK hP 3 rfl rfl 0 (by decide) (hG.use _ lf_X5_142) (fun _ h9 => h9) rfl dX5_changed_9 ?_
      refine xr_icmp_ge (a := fi) (b := I 9) (tgt := 52) hx hb dX5_changed_12 (by decide) (fun c_1 => ?_) (fun c_1 => ?_) (by omega) (by omega)
      · skip
        -- 12 t
        refine xr_iconst hx hb dX5_changed_52 ?_
        exact W.iret (v := iI (-1)) hx hb hr (fun t ht9 hW => ⟨(-1), rfl, (by exact Or.inr ⟨rfl, fun j h0 h1 h2 => i2 j h0 (by omega) h2⟩), ht9⟩) t_nil dX5_changed_53
      · skip
        -- 12 f
        refine lv_aload_n hx hb dX5_changed_15 rfl (lv_at hl 2 rfl) ?_
        refine lv_iload_n hx hb dX5_changed_16 rfl (lv_at hl 1 rfl) ?_
        refine lv_aload_n hx hb dX5_changed_17 rfl (lv_at hl 2 rfl) ?_
        refine va_get (D := D) (cl := vwC) (ci := 6) (v := .ref (a 2)) (C := RX5) (T := TX5) (N := 7) hx hb hG.use i_X5 hown hK hP 0 rfl rfl 1 (by decide) (hG.use _ lf_X5_19) (fun _ h9 => h9) rfl dX5_changed_18 ?_
        refine va_getN (host := "FormatRows") (D := D) (cl := vwC) (ci := 5) (v := .int (iI (I 8))) (C := RX4) (T := TX4) (N := 7) hx hb hG.use i_X4 hown hK hP 2 rfl rfl 0 (by decide) (hG.use _ lf_X5_96) (fun _ h9 => h9) rfl dX5_changed_21 ?_
        refine ro_call (g_runV (rest := []) hx hb hml hown hG hK hP mV_X5_formatOf (c_X5_formatOf l D a k I F fi (I 8) hv (by omega) (by omega)) lk_X5_143 (va_recv hK hP (ci := 6) (q0 := 0) rfl rfl) rfl hl.1 rfl (Nat.le_of_ble_eq_true rfl) ⟨(Nat.le_of_ble_eq_true rfl), (Nat.le_of_ble_eq_true rfl)⟩ ⟨(Nat.le_of_ble_eq_true rfl), (Nat.le_of_ble_eq_true rfl)⟩ dX5_changed_24) (fun r_2 q_3 => ?_)
        have f_m := xfm_in hv fi
        have e_m : r_2 = xfm I F fi := q_3
        have f_k := hv.kp fi (by omega) (by omega)
        refine lv_aload_n hx hb dX5_changed_27 rfl (lv_at hl 2 rfl) ?_
        refine va_get (D := D) (cl := vwC) (ci := 6) (v := .ref (a 6)) (C := RX5) (T := TX5) (N := 7) hx hb hG.use i_X5 hown hK hP 0 rfl rfl 5 (by decide) (hG.use _ lf_X5_44) (fun _ h9 => h9) rfl dX5_changed_28 ?_
        refine lv_iload_n hx hb dX5_changed_31 rfl (lv_at hl 1 rfl) ?_
        refine xr_iald (f := F 6) (z := fi) hx hb hK hP 6 0 rfl rfl (by omega) (by omega) (by decide) dX5_changed_32 ?_
        refine xr_icmp_eq (a := r_2) (b := (F 6) fi) (tgt := 46) hx hb dX5_changed_33 (by decide) (fun c_4 => ?_) (fun c_4 => ?_) (by omega) (by omega)
        · skip
          -- 33 t
          refine xr_iinc (z := fi) (lv' := [(3, .int (iI (fi + 1))), (2, .int (iI bf)), (0, .ref (a 0)), (1, .int (iI p0))]) hx hb dX5_changed_46 hl (k := 1) rfl (by decide) rfl (fun ls hl => ?_)
          refine lv_goto (tgt := 4) hx hb dX5_changed_49 (by decide) ?_
          exact ih_4 bf (fi + 1) (by omega) (by omega) (by first | (rw [cnt_zt (P := (fun f => xfm I F f ≠ F 6 f)) (by omega) (by show xfm I F fi ≠ F 6 fi; omega), i1]; done) | (rw [cnt_zf (P := (fun f => xfm I F f ≠ F 6 f)) (by omega) (by show ¬ (xfm I F fi ≠ F 6 fi); omega), i1]; done)) (by intro j h0 h1 h2; by_cases e : j = fi; (subst e; have h3 : xfm I F j ≠ F 6 j := h2; first | (rw [← i1]; omega) | omega); exact i2 j h0 (by omega) h2) ls (lv_sub hl [1, 0, 2, 3] rfl)
        · skip
          -- 33 f
          refine lv_iload_n hx hb dX5_changed_36 rfl (lv_at hl 0 rfl) ?_
          refine lv_iload_n hx hb dX5_changed_37 rfl (lv_at hl 3 rfl) ?_
          refine xr_icmp_ne (a := bf) (b := p0) (tgt := 43) hx hb dX5_changed_38 (by decide) (fun c_5 => ?_) (fun c_5 => ?_) (by omega) (by omega)
          · skip
            -- 38 t
            refine xr_iinc (z := bf) (lv' := [(2, .int (iI (bf + 1))), (3, .int (iI fi)), (0, .ref (a 0)), (1, .int (iI p0))]) hx hb dX5_changed_43 hl (k := 0) rfl (by decide) rfl (fun ls hl => ?_)
            refine xr_iinc (z := fi) (lv' := [(3, .int (iI (fi + 1))), (2, .int (iI (bf + 1))), (0, .ref (a 0)), (1, .int (iI p0))]) hx hb dX5_changed_46 hl (k := 1) rfl (by decide) rfl (fun ls hl => ?_)
            refine lv_goto (tgt := 4) hx hb dX5_changed_49 (by decide) ?_
            exact ih_4 (bf + 1) (fi + 1) (by omega) (by omega) (by first | (rw [cnt_zt (P := (fun f => xfm I F f ≠ F 6 f)) (by omega) (by show xfm I F fi ≠ F 6 fi; omega), i1]; done) | (rw [cnt_zf (P := (fun f => xfm I F f ≠ F 6 f)) (by omega) (by show ¬ (xfm I F fi ≠ F 6 fi); omega), i1]; done)) (by intro j h0 h1 h2; by_cases e : j = fi; (subst e; have h3 : xfm I F j ≠ F 6 j := h2; first | (rw [← i1]; omega) | omega); exact i2 j h0 (by omega) h2) ls (lv_sub hl [1, 0, 2, 3] rfl)
          · skip
            -- 38 f
            refine lv_iload_n hx hb dX5_changed_41 rfl (lv_at hl 1 rfl) ?_
            exact W.iret (v := iI fi) hx hb hr (fun t ht9 hW => ⟨fi, rfl, (by exact Or.inl ⟨by omega, by omega, by show xfm I F fi ≠ F 6 fi; omega, by rw [← i1]; omega⟩), ht9⟩) t_nil dX5_changed_42
  exact lp_4 _ 0 0 (Nat.lt_succ_self _) (by omega) (by rfl) (by intro j h0 h1; omega) ls (lv_sub hl [1, 0, 2, 3] rfl)
set_option maxHeartbeats 4000000 in
set_option maxRecDepth 100000 in
theorem c_X5_count (l : Launch) (D : va_G) (a : Nat → Nat) (k : Nat → ClassId) (I : Nat → Int) (F : Nat → Int → Int) (p0 p1 : Int) (hv : xInv I F) (b0 : -2147483648 ≤ p0 ∧ p0 < 2147483648) (b1 : -2147483648 ≤ p1 ∧ p1 < 2147483648) : ro_M l yX5_count cX5_count 6 (some .int) 4 [.ref (a 0), .int (iI p0), .int (iI p1)] D (xT k) (xW a k I F) (fun r => (¬ (((0 ≤ p0 ∧ p0 < 30) ∨ p0 = -1 ∨ p0 = -5) ∧ (0 ≤ p1 ∧ p1 ≤ I 8)) ∧ r = -2) ∨ ((((0 ≤ p0 ∧ p0 < 30) ∨ p0 = -1 ∨ p0 = -5) ∧ (0 ≤ p1 ∧ p1 ≤ I 8)) ∧ r = cnt (fun f => fv (xset F f p1) = p0) (I 9).toNat)) := by
  refine me_start (by decide) (Nat.le_of_ble_eq_true rfl) rfl ?_
  intro p e s m below meth c hx hb hml hr hown hlocks hnm hG hK hP ls hl
  have hown : s.vm.findClass RX5 = some m.cls := hown
  have hl : lv_has ls 6 [(0, .ref (a 0)), (1, .int (iI p0)), (2, .int (iI p1))] := hl
  have f_n := hv.n
  refine lv_iload_n hx hb dX5_count_0 rfl (lv_at hl 1 rfl) ?_
  refine ro_call (g_runS (rest := []) hx hb hml hown hG (hK.sub (tys' := []) [] rfl) (va_P0) mS_X5_isFormat (c_X5_isFormat l D p0 (by omega)) lk_X5_120 rfl hl.1 rfl (Nat.le_of_ble_eq_true rfl) ⟨(Nat.le_of_ble_eq_true rfl), (Nat.le_of_ble_eq_true rfl)⟩ ⟨(Nat.le_of_ble_eq_true rfl), (Nat.le_of_ble_eq_true rfl)⟩ dX5_count_1) (fun r_1 q_2 => ?_)
  refine xr_if_neZ (tgt := 18) hx hb q_2 dX5_count_4 (by decide) (fun c_3 => ?_) (fun c_3 => ?_)
  · skip
    -- 4 t
    refine xr_iconst hx hb dX5_count_18 ?_
    refine lv_goto (tgt := 23) hx hb dX5_count_19 (by decide) ?_
    refine lv_istore_n (lv' := [(3, .int (iI 1)), (0, .ref (a 0)), (1, .int (iI p0)), (2, .int (iI p1))]) hx hb dX5_count_23 rfl hl (by decide) rfl (fun ls hl => ?_)
    refine lv_iload_n hx hb dX5_count_24 rfl (lv_at hl 0 rfl) ?_
    refine xr_if_eq (a := 1) (tgt := 43) hx hb dX5_count_25 (by decide) (fun c_4 => ?_) (fun c_4 => ?_) (by omega)
    · exact absurd c_4 (by omega)
    · skip
      -- 25 f
      refine lv_iload_n hx hb dX5_count_28 rfl (lv_at hl 3 rfl) ?_
      refine xr_if_lt (a := p1) (tgt := 43) hx hb dX5_count_29 (by decide) (fun c_5 => ?_) (fun c_5 => ?_) (by omega)
      · skip
        -- 29 t
        refine xr_bipush hx hb dX5_count_43 (by decide +kernel) ?_
        exact W.iret (v := iI (-2)) hx hb hr (fun t ht9 hW => ⟨(-2), rfl, (by left; exact ⟨by omega, rfl⟩), ht9⟩) t_nil dX5_count_45
      · skip
        -- 29 f
        refine lv_iload_n hx hb dX5_count_32 rfl (lv_at hl 3 rfl) ?_
        refine lv_aload_n hx hb dX5_count_33 rfl (lv_at hl 1 rfl) ?_
        refine va_get (D := D) (cl := vwC) (ci := 6) (v := .ref (a 2)) (C := RX5) (T := TX5) (N := 7) hx hb hG.use i_X5 hown hK hP 0 rfl rfl 1 (by decide) (hG.use _ lf_X5_19) (fun _ h9 => h9) rfl dX5_count_34 ?_
        refine va_getN (host := "FormatRows") (D := D) (cl := vwC) (ci := 5) (v := .int (iI (I 8))) (C := RX4) (T := TX4) (N := 7) hx hb hG.use i_X4 hown hK hP 2 rfl rfl 0 (by decide) (hG.use _ lf_X5_96) (fun _ h9 => h9) rfl dX5_count_37 ?_
        refine xr_icmp_le (a := p1) (b := I 8) (tgt := 46) hx hb dX5_count_40 (by decide) (fun c_6 => ?_) (fun c_6 => ?_) (by omega) (by omega)
        · skip
          -- 40 t
          refine xr_iconst hx hb dX5_count_46 ?_
          refine lv_istore (lv' := [(4, .int (iI 0)), (3, .int (iI 1)), (0, .ref (a 0)), (1, .int (iI p0)), (2, .int (iI p1))]) hx hb dX5_count_47 hl (by decide) rfl (fun ls hl => ?_)
          refine xr_iconst hx hb dX5_count_49 ?_
          refine lv_istore (lv' := [(5, .int (iI 0)), (4, .int (iI 0)), (3, .int (iI 1)), (0, .ref (a 0)), (1, .int (iI p0)), (2, .int (iI p1))]) hx hb dX5_count_50 hl (by decide) rfl (fun ls hl => ?_)
          have lp_52 : ∀ (nz : Nat) (mn : Int) (fi : Int), (I 9 - fi).toNat < nz → (0 ≤ fi ∧ fi ≤ I 9) → (mn = cnt (fun f => fv (xset F f p1) = p0) fi.toNat) → ∀ ls : Array Slot, lv_has ls 6 [(4, .int (iI mn)), (5, .int (iI fi)), (0, .ref (a 0)), (1, .int (iI p0)), (2, .int (iI p1))] → W p l e (rmd 4) s m ([.ref (a 0), .int (iI p0), .int (iI p1)] : List Value).toArray below meth c s.heap [] 0 0 (MQ below (ro_Q (fun r => (¬ (((0 ≤ p0 ∧ p0 < 30) ∨ p0 = -1 ∨ p0 = -5) ∧ (0 ≤ p1 ∧ p1 ≤ I 8)) ∧ r = -2) ∨ ((((0 ≤ p0 ∧ p0 < 30) ∨ p0 = -1 ∨ p0 = -5) ∧ (0 ≤ p1 ∧ p1 ≤ I 8)) ∧ r = cnt (fun f => fv (xset F f p1) = p0) (I 9).toNat))) ([.ref (a 0), .int (iI p0), .int (iI p1)] : List Value).toArray s 0 0 (fun _ => False)) (F0 m 52 ls []) := by
            clear hl
            intro nz
            induction nz with
            | zero =>
              intro mn fi hn
              exact absurd hn (Nat.not_lt_zero _)
            | succ n_52 ih_52 =>
              intro mn fi hn_52 i0 i1 ls hl
              have f_0 := cnt_in (fun f => fv (xset F f p1) = p0) fi.toNat
              refine lv_iload hx hb dX5_count_52 (lv_at hl 1 rfl) ?_
              refine lv_aload_n hx hb dX5_count_54 rfl (lv_at hl 2 rfl) ?_
              refine va_get (D := D) (cl := vwC) (ci := 6) (v := .ref (a 3)) (C := RX5) (T := TX5) (N := 7) hx hb hG.use i_X5 hown hK hP 0 rfl rfl 2 (by decide) (hG.use _ lf_X5_26) (fun _ h9 => h9) rfl dX5_count_55 ?_
              refine va_getN (host := "FormatRows") (D := D) (cl := vwC) (ci := 2) (v := .int (iI (I 9))) (C := RX1) (T := TX1) (N := 5) hx hb hG.use i_X1 hown hK hP 3 rfl rfl 0 (by decide) (hG.use _ lf_X5_142) (fun _ h9 => h9) rfl dX5_count_58 ?_
              refine xr_icmp_ge (a := fi) (b := I 9) (tgt := 84) hx hb dX5_count_61 (by decide) (fun c_7 => ?_) (fun c_7 => ?_) (by omega) (by omega)
              · skip
                -- 61 t
                refine lv_iload hx hb dX5_count_84 (lv_at hl 0 rfl) ?_
                exact W.iret (v := iI mn) hx hb hr (fun t ht9 hW => ⟨mn, rfl, (by right; refine ⟨by omega, ?_⟩; rw [i1, show fi = I 9 by omega]), ht9⟩) t_nil dX5_count_86
              · skip
                -- 61 f
                refine lv_aload_n hx hb dX5_count_64 rfl (lv_at hl 2 rfl) ?_
                refine lv_iload hx hb dX5_count_65 (lv_at hl 1 rfl) ?_
                refine lv_iload_n hx hb dX5_count_67 rfl (lv_at hl 4 rfl) ?_
                refine ro_call (g_runV (rest := []) hx hb hml hown hG hK hP mV_X5_formatOf (c_X5_formatOf l D a k I F fi p1 hv (by omega) (by omega)) lk_X5_143 (va_recv hK hP (ci := 6) (q0 := 0) rfl rfl) rfl hl.1 rfl (Nat.le_of_ble_eq_true rfl) ⟨(Nat.le_of_ble_eq_true rfl), (Nat.le_of_ble_eq_true rfl)⟩ ⟨(Nat.le_of_ble_eq_true rfl), (Nat.le_of_ble_eq_true rfl)⟩ dX5_count_68) (fun r_8 q_9 => ?_)
                have f_m := fv_in (xset_in hv (f := fi) (n := p1) (by omega))
                refine lv_iload_n hx hb dX5_count_71 rfl (lv_at hl 3 rfl) ?_
                refine xr_icmp_ne (a := r_8) (b := p0) (tgt := 78) hx hb dX5_count_72 (by decide) (fun c_10 => ?_) (fun c_10 => ?_) (by omega) (by omega)
                · skip
                  -- 72 t
                  refine xr_iinc (z := fi) (lv' := [(5, .int (iI (fi + 1))), (4, .int (iI mn)), (0, .ref (a 0)), (1, .int (iI p0)), (2, .int (iI p1))]) hx hb dX5_count_78 hl (k := 1) rfl (by decide) rfl (fun ls hl => ?_)
                  refine lv_goto (tgt := 52) hx hb dX5_count_81 (by decide) ?_
                  exact ih_52 mn (fi + 1) (by omega) (by omega) (by first | (rw [cnt_zt (P := (fun f => fv (xset F f p1) = p0)) (by omega) (by show fv (xset F fi p1) = p0; omega), i1]; done) | (rw [cnt_zf (P := (fun f => fv (xset F f p1) = p0)) (by omega) (by show ¬ (fv (xset F fi p1) = p0); omega), i1]; done)) ls (lv_sub hl [1, 0, 2, 3, 4] rfl)
                · skip
                  -- 72 f
                  refine xr_iinc (z := mn) (lv' := [(4, .int (iI (mn + 1))), (5, .int (iI fi)), (0, .ref (a 0)), (1, .int (iI p0)), (2, .int (iI p1))]) hx hb dX5_count_75 hl (k := 0) rfl (by decide) rfl (fun ls hl => ?_)
                  refine xr_iinc (z := fi) (lv' := [(5, .int (iI (fi + 1))), (4, .int (iI (mn + 1))), (0, .ref (a 0)), (1, .int (iI p0)), (2, .int (iI p1))]) hx hb dX5_count_78 hl (k := 1) rfl (by decide) rfl (fun ls hl => ?_)
                  refine lv_goto (tgt := 52) hx hb dX5_count_81 (by decide) ?_
                  exact ih_52 (mn + 1) (fi + 1) (by omega) (by omega) (by first | (rw [cnt_zt (P := (fun f => fv (xset F f p1) = p0)) (by omega) (by show fv (xset F fi p1) = p0; omega), i1]; done) | (rw [cnt_zf (P := (fun f => fv (xset F f p1) = p0)) (by omega) (by show ¬ (fv (xset F fi p1) = p0); omega), i1]; done)) ls (lv_sub hl [1, 0, 2, 3, 4] rfl)
          exact lp_52 _ 0 0 (Nat.lt_succ_self _) (by omega) (by rfl) ls (lv_sub hl [1, 0, 3, 4, 5] rfl)
        · skip
          -- 40 f
          refine xr_bipush hx hb dX5_count_43 (by decide +kernel) ?_
          exact W.iret (v := iI (-2)) hx hb hr (fun t ht9 hW => ⟨(-2), rfl, (by left; exact ⟨by omega, rfl⟩), ht9⟩) t_nil dX5_count_45
  · skip
    -- 4 f
    refine lv_iload_n hx hb dX5_count_7 rfl (lv_at hl 1 rfl) ?_
    refine xr_iconst hx hb dX5_count_8 ?_
    refine xr_icmp_eq (a := p0) (b := (-1)) (tgt := 18) hx hb dX5_count_9 (by decide) (fun c_11 => ?_) (fun c_11 => ?_) (by omega) (by omega)
    · skip
      -- 9 t
      refine xr_iconst hx hb dX5_count_18 ?_
      refine lv_goto (tgt := 23) hx hb dX5_count_19 (by decide) ?_
      refine lv_istore_n (lv' := [(3, .int (iI 1)), (0, .ref (a 0)), (1, .int (iI p0)), (2, .int (iI p1))]) hx hb dX5_count_23 rfl hl (by decide) rfl (fun ls hl => ?_)
      refine lv_iload_n hx hb dX5_count_24 rfl (lv_at hl 0 rfl) ?_
      refine xr_if_eq (a := 1) (tgt := 43) hx hb dX5_count_25 (by decide) (fun c_12 => ?_) (fun c_12 => ?_) (by omega)
      · exact absurd c_12 (by omega)
      · skip
        -- 25 f
        refine lv_iload_n hx hb dX5_count_28 rfl (lv_at hl 3 rfl) ?_
        refine xr_if_lt (a := p1) (tgt := 43) hx hb dX5_count_29 (by decide) (fun c_13 => ?_) (fun c_13 => ?_) (by omega)
        · skip
          -- 29 t
          refine xr_bipush hx hb dX5_count_43 (by decide +kernel) ?_
          exact W.iret (v := iI (-2)) hx hb hr (fun t ht9 hW => ⟨(-2), rfl, (by left; exact ⟨by omega, rfl⟩), ht9⟩) t_nil dX5_count_45
        · skip
          -- 29 f
          refine lv_iload_n hx hb dX5_count_32 rfl (lv_at hl 3 rfl) ?_
          refine lv_aload_n hx hb dX5_count_33 rfl (lv_at hl 1 rfl) ?_
          refine va_get (D := D) (cl := vwC) (ci := 6) (v := .ref (a 2)) (C := RX5) (T := TX5) (N := 7) hx hb hG.use i_X5 hown hK hP 0 rfl rfl 1 (by decide) (hG.use _ lf_X5_19) (fun _ h9 => h9) rfl dX5_count_34 ?_
          refine va_getN (host := "FormatRows") (D := D) (cl := vwC) (ci := 5) (v := .int (iI (I 8))) (C := RX4) (T := TX4) (N := 7) hx hb hG.use i_X4 hown hK hP 2 rfl rfl 0 (by decide) (hG.use _ lf_X5_96) (fun _ h9 => h9) rfl dX5_count_37 ?_
          refine xr_icmp_le (a := p1) (b := I 8) (tgt := 46) hx hb dX5_count_40 (by decide) (fun c_14 => ?_) (fun c_14 => ?_) (by omega) (by omega)
          · skip
            -- 40 t
            refine xr_iconst hx hb dX5_count_46 ?_
            refine lv_istore (lv' := [(4, .int (iI 0)), (3, .int (iI 1)), (0, .ref (a 0)), (1, .int (iI p0)), (2, .int (iI p1))]) hx hb dX5_count_47 hl (by decide) rfl (fun ls hl => ?_)
            refine xr_iconst hx hb dX5_count_49 ?_
            refine lv_istore (lv' := [(5, .int (iI 0)), (4, .int (iI 0)), (3, .int (iI 1)), (0, .ref (a 0)), (1, .int (iI p0)), (2, .int (iI p1))]) hx hb dX5_count_50 hl (by decide) rfl (fun ls hl => ?_)
            have lp_52 : ∀ (nz : Nat) (mn : Int) (fi : Int), (I 9 - fi).toNat < nz → (0 ≤ fi ∧ fi ≤ I 9) → (mn = cnt (fun f => fv (xset F f p1) = p0) fi.toNat) → ∀ ls : Array Slot, lv_has ls 6 [(4, .int (iI mn)), (5, .int (iI fi)), (0, .ref (a 0)), (1, .int (iI p0)), (2, .int (iI p1))] → W p l e (rmd 4) s m ([.ref (a 0), .int (iI p0), .int (iI p1)] : List Value).toArray below meth c s.heap [] 0 0 (MQ below (ro_Q (fun r => (¬ (((0 ≤ p0 ∧ p0 < 30) ∨ p0 = -1 ∨ p0 = -5) ∧ (0 ≤ p1 ∧ p1 ≤ I 8)) ∧ r = -2) ∨ ((((0 ≤ p0 ∧ p0 < 30) ∨ p0 = -1 ∨ p0 = -5) ∧ (0 ≤ p1 ∧ p1 ≤ I 8)) ∧ r = cnt (fun f => fv (xset F f p1) = p0) (I 9).toNat))) ([.ref (a 0), .int (iI p0), .int (iI p1)] : List Value).toArray s 0 0 (fun _ => False)) (F0 m 52 ls []) := by
              clear hl
              intro nz
              induction nz with
              | zero =>
                intro mn fi hn
                exact absurd hn (Nat.not_lt_zero _)
              | succ n_52 ih_52 =>
                intro mn fi hn_52 i0 i1 ls hl
                have f_0 := cnt_in (fun f => fv (xset F f p1) = p0) fi.toNat
                refine lv_iload hx hb dX5_count_52 (lv_at hl 1 rfl) ?_
                refine lv_aload_n hx hb dX5_count_54 rfl (lv_at hl 2 rfl) ?_
                refine va_get (D := D) (cl := vwC) (ci := 6) (v := .ref (a 3)) (C := RX5) (T := TX5) (N := 7) hx hb hG.use i_X5 hown hK hP 0 rfl rfl 2 (by decide) (hG.use _ lf_X5_26) (fun _ h9 => h9) rfl dX5_count_55 ?_
                refine va_getN (host := "FormatRows") (D := D) (cl := vwC) (ci := 2) (v := .int (iI (I 9))) (C := RX1) (T := TX1) (N := 5) hx hb hG.use i_X1 hown hK hP 3 rfl rfl 0 (by decide) (hG.use _ lf_X5_142) (fun _ h9 => h9) rfl dX5_count_58 ?_
                refine xr_icmp_ge (a := fi) (b := I 9) (tgt := 84) hx hb dX5_count_61 (by decide) (fun c_15 => ?_) (fun c_15 => ?_) (by omega) (by omega)
                · skip
                  -- 61 t
                  refine lv_iload hx hb dX5_count_84 (lv_at hl 0 rfl) ?_
                  exact W.iret (v := iI mn) hx hb hr (fun t ht9 hW => ⟨mn, rfl, (by right; refine ⟨by omega, ?_⟩; rw [i1, show fi = I 9 by omega]), ht9⟩) t_nil dX5_count_86
                · skip
                  -- 61 f
                  refine lv_aload_n hx hb dX5_count_64 rfl (lv_at hl 2 rfl) ?_
                  refine lv_iload hx hb dX5_count_65 (lv_at hl 1 rfl) ?_
                  refine lv_iload_n hx hb dX5_count_67 rfl (lv_at hl 4 rfl) ?_
                  refine ro_call (g_runV (rest := []) hx hb hml hown hG hK hP mV_X5_formatOf (c_X5_formatOf l D a k I F fi p1 hv (by omega) (by omega)) lk_X5_143 (va_recv hK hP (ci := 6) (q0 := 0) rfl rfl) rfl hl.1 rfl (Nat.le_of_ble_eq_true rfl) ⟨(Nat.le_of_ble_eq_true rfl), (Nat.le_of_ble_eq_true rfl)⟩ ⟨(Nat.le_of_ble_eq_true rfl), (Nat.le_of_ble_eq_true rfl)⟩ dX5_count_68) (fun r_16 q_17 => ?_)
                  have f_m := fv_in (xset_in hv (f := fi) (n := p1) (by omega))
                  refine lv_iload_n hx hb dX5_count_71 rfl (lv_at hl 3 rfl) ?_
                  refine xr_icmp_ne (a := r_16) (b := p0) (tgt := 78) hx hb dX5_count_72 (by decide) (fun c_18 => ?_) (fun c_18 => ?_) (by omega) (by omega)
                  · skip
                    -- 72 t
                    refine xr_iinc (z := fi) (lv' := [(5, .int (iI (fi + 1))), (4, .int (iI mn)), (0, .ref (a 0)), (1, .int (iI p0)), (2, .int (iI p1))]) hx hb dX5_count_78 hl (k := 1) rfl (by decide) rfl (fun ls hl => ?_)
                    refine lv_goto (tgt := 52) hx hb dX5_count_81 (by decide) ?_
                    exact ih_52 mn (fi + 1) (by omega) (by omega) (by first | (rw [cnt_zt (P := (fun f => fv (xset F f p1) = p0)) (by omega) (by show fv (xset F fi p1) = p0; omega), i1]; done) | (rw [cnt_zf (P := (fun f => fv (xset F f p1) = p0)) (by omega) (by show ¬ (fv (xset F fi p1) = p0); omega), i1]; done)) ls (lv_sub hl [1, 0, 2, 3, 4] rfl)
                  · skip
                    -- 72 f
                    refine xr_iinc (z := mn) (lv' := [(4, .int (iI (mn + 1))), (5, .int (iI fi)), (0, .ref (a 0)), (1, .int (iI p0)), (2, .int (iI p1))]) hx hb dX5_count_75 hl (k := 0) rfl (by decide) rfl (fun ls hl => ?_)
                    refine xr_iinc (z := fi) (lv' := [(5, .int (iI (fi + 1))), (4, .int (iI (mn + 1))), (0, .ref (a 0)), (1, .int (iI p0)), (2, .int (iI p1))]) hx hb dX5_count_78 hl (k := 1) rfl (by decide) rfl (fun ls hl => ?_)
                    refine lv_goto (tgt := 52) hx hb dX5_count_81 (by decide) ?_
                    exact ih_52 (mn + 1) (fi + 1) (by omega) (by omega) (by first | (rw [cnt_zt (P := (fun f => fv (xset F f p1) = p0)) (by omega) (by show fv (xset F fi p1) = p0; omega), i1]; done) | (rw [cnt_zf (P := (fun f => fv (xset F f p1) = p0)) (by omega) (by show ¬ (fv (xset F fi p1) = p0); omega), i1]; done)) ls (lv_sub hl [1, 0, 2, 3, 4] rfl)
            exact lp_52 _ 0 0 (Nat.lt_succ_self _) (by omega) (by rfl) ls (lv_sub hl [1, 0, 3, 4, 5] rfl)
          · skip
            -- 40 f
            refine xr_bipush hx hb dX5_count_43 (by decide +kernel) ?_
            exact W.iret (v := iI (-2)) hx hb hr (fun t ht9 hW => ⟨(-2), rfl, (by left; exact ⟨by omega, rfl⟩), ht9⟩) t_nil dX5_count_45
    · skip
      -- 9 f
      refine lv_iload_n hx hb dX5_count_12 rfl (lv_at hl 1 rfl) ?_
      refine xr_bipush hx hb dX5_count_13 (by decide +kernel) ?_
      refine xr_icmp_ne (a := p0) (b := (-5)) (tgt := 22) hx hb dX5_count_15 (by decide) (fun c_19 => ?_) (fun c_19 => ?_) (by omega) (by omega)
      · skip
        -- 15 t
        refine xr_iconst hx hb dX5_count_22 ?_
        refine lv_istore_n (lv' := [(3, .int (iI 0)), (0, .ref (a 0)), (1, .int (iI p0)), (2, .int (iI p1))]) hx hb dX5_count_23 rfl hl (by decide) rfl (fun ls hl => ?_)
        refine lv_iload_n hx hb dX5_count_24 rfl (lv_at hl 0 rfl) ?_
        refine xr_if_eq (a := 0) (tgt := 43) hx hb dX5_count_25 (by decide) (fun c_20 => ?_) (fun c_20 => ?_) (by omega)
        · skip
          -- 25 t
          refine xr_bipush hx hb dX5_count_43 (by decide +kernel) ?_
          exact W.iret (v := iI (-2)) hx hb hr (fun t ht9 hW => ⟨(-2), rfl, (by left; exact ⟨by omega, rfl⟩), ht9⟩) t_nil dX5_count_45
        · exact absurd c_20 (by omega)
      · skip
        -- 15 f
        refine xr_iconst hx hb dX5_count_18 ?_
        refine lv_goto (tgt := 23) hx hb dX5_count_19 (by decide) ?_
        refine lv_istore_n (lv' := [(3, .int (iI 1)), (0, .ref (a 0)), (1, .int (iI p0)), (2, .int (iI p1))]) hx hb dX5_count_23 rfl hl (by decide) rfl (fun ls hl => ?_)
        refine lv_iload_n hx hb dX5_count_24 rfl (lv_at hl 0 rfl) ?_
        refine xr_if_eq (a := 1) (tgt := 43) hx hb dX5_count_25 (by decide) (fun c_21 => ?_) (fun c_21 => ?_) (by omega)
        · exact absurd c_21 (by omega)
        · skip
          -- 25 f
          refine lv_iload_n hx hb dX5_count_28 rfl (lv_at hl 3 rfl) ?_
          refine xr_if_lt (a := p1) (tgt := 43) hx hb dX5_count_29 (by decide) (fun c_22 => ?_) (fun c_22 => ?_) (by omega)
          · skip
            -- 29 t
            refine xr_bipush hx hb dX5_count_43 (by decide +kernel) ?_
            exact W.iret (v := iI (-2)) hx hb hr (fun t ht9 hW => ⟨(-2), rfl, (by left; exact ⟨by omega, rfl⟩), ht9⟩) t_nil dX5_count_45
          · skip
            -- 29 f
            refine lv_iload_n hx hb dX5_count_32 rfl (lv_at hl 3 rfl) ?_
            refine lv_aload_n hx hb dX5_count_33 rfl (lv_at hl 1 rfl) ?_
            refine va_get (D := D) (cl := vwC) (ci := 6) (v := .ref (a 2)) (C := RX5) (T := TX5) (N := 7) hx hb hG.use i_X5 hown hK hP 0 rfl rfl 1 (by decide) (hG.use _ lf_X5_19) (fun _ h9 => h9) rfl dX5_count_34 ?_
            refine va_getN (host := "FormatRows") (D := D) (cl := vwC) (ci := 5) (v := .int (iI (I 8))) (C := RX4) (T := TX4) (N := 7) hx hb hG.use i_X4 hown hK hP 2 rfl rfl 0 (by decide) (hG.use _ lf_X5_96) (fun _ h9 => h9) rfl dX5_count_37 ?_
            refine xr_icmp_le (a := p1) (b := I 8) (tgt := 46) hx hb dX5_count_40 (by decide) (fun c_23 => ?_) (fun c_23 => ?_) (by omega) (by omega)
            · skip
              -- 40 t
              refine xr_iconst hx hb dX5_count_46 ?_
              refine lv_istore (lv' := [(4, .int (iI 0)), (3, .int (iI 1)), (0, .ref (a 0)), (1, .int (iI p0)), (2, .int (iI p1))]) hx hb dX5_count_47 hl (by decide) rfl (fun ls hl => ?_)
              refine xr_iconst hx hb dX5_count_49 ?_
              refine lv_istore (lv' := [(5, .int (iI 0)), (4, .int (iI 0)), (3, .int (iI 1)), (0, .ref (a 0)), (1, .int (iI p0)), (2, .int (iI p1))]) hx hb dX5_count_50 hl (by decide) rfl (fun ls hl => ?_)
              have lp_52 : ∀ (nz : Nat) (mn : Int) (fi : Int), (I 9 - fi).toNat < nz → (0 ≤ fi ∧ fi ≤ I 9) → (mn = cnt (fun f => fv (xset F f p1) = p0) fi.toNat) → ∀ ls : Array Slot, lv_has ls 6 [(4, .int (iI mn)), (5, .int (iI fi)), (0, .ref (a 0)), (1, .int (iI p0)), (2, .int (iI p1))] → W p l e (rmd 4) s m ([.ref (a 0), .int (iI p0), .int (iI p1)] : List Value).toArray below meth c s.heap [] 0 0 (MQ below (ro_Q (fun r => (¬ (((0 ≤ p0 ∧ p0 < 30) ∨ p0 = -1 ∨ p0 = -5) ∧ (0 ≤ p1 ∧ p1 ≤ I 8)) ∧ r = -2) ∨ ((((0 ≤ p0 ∧ p0 < 30) ∨ p0 = -1 ∨ p0 = -5) ∧ (0 ≤ p1 ∧ p1 ≤ I 8)) ∧ r = cnt (fun f => fv (xset F f p1) = p0) (I 9).toNat))) ([.ref (a 0), .int (iI p0), .int (iI p1)] : List Value).toArray s 0 0 (fun _ => False)) (F0 m 52 ls []) := by
                clear hl
                intro nz
                induction nz with
                | zero =>
                  intro mn fi hn
                  exact absurd hn (Nat.not_lt_zero _)
                | succ n_52 ih_52 =>
                  intro mn fi hn_52 i0 i1 ls hl
                  have f_0 := cnt_in (fun f => fv (xset F f p1) = p0) fi.toNat
                  refine lv_iload hx hb dX5_count_52 (lv_at hl 1 rfl) ?_
                  refine lv_aload_n hx hb dX5_count_54 rfl (lv_at hl 2 rfl) ?_
                  refine va_get (D := D) (cl := vwC) (ci := 6) (v := .ref (a 3)) (C := RX5) (T := TX5) (N := 7) hx hb hG.use i_X5 hown hK hP 0 rfl rfl 2 (by decide) (hG.use _ lf_X5_26) (fun _ h9 => h9) rfl dX5_count_55 ?_
                  refine va_getN (host := "FormatRows") (D := D) (cl := vwC) (ci := 2) (v := .int (iI (I 9))) (C := RX1) (T := TX1) (N := 5) hx hb hG.use i_X1 hown hK hP 3 rfl rfl 0 (by decide) (hG.use _ lf_X5_142) (fun _ h9 => h9) rfl dX5_count_58 ?_
                  refine xr_icmp_ge (a := fi) (b := I 9) (tgt := 84) hx hb dX5_count_61 (by decide) (fun c_24 => ?_) (fun c_24 => ?_) (by omega) (by omega)
                  · skip
                    -- 61 t
                    refine lv_iload hx hb dX5_count_84 (lv_at hl 0 rfl) ?_
                    exact W.iret (v := iI mn) hx hb hr (fun t ht9 hW => ⟨mn, rfl, (by right; refine ⟨by omega, ?_⟩; rw [i1, show fi = I 9 by omega]), ht9⟩) t_nil dX5_count_86
                  · skip
                    -- 61 f
                    refine lv_aload_n hx hb dX5_count_64 rfl (lv_at hl 2 rfl) ?_
                    refine lv_iload hx hb dX5_count_65 (lv_at hl 1 rfl) ?_
                    refine lv_iload_n hx hb dX5_count_67 rfl (lv_at hl 4 rfl) ?_
                    refine ro_call (g_runV (rest := []) hx hb hml hown hG hK hP mV_X5_formatOf (c_X5_formatOf l D a k I F fi p1 hv (by omega) (by omega)) lk_X5_143 (va_recv hK hP (ci := 6) (q0 := 0) rfl rfl) rfl hl.1 rfl (Nat.le_of_ble_eq_true rfl) ⟨(Nat.le_of_ble_eq_true rfl), (Nat.le_of_ble_eq_true rfl)⟩ ⟨(Nat.le_of_ble_eq_true rfl), (Nat.le_of_ble_eq_true rfl)⟩ dX5_count_68) (fun r_25 q_26 => ?_)
                    have f_m := fv_in (xset_in hv (f := fi) (n := p1) (by omega))
                    refine lv_iload_n hx hb dX5_count_71 rfl (lv_at hl 3 rfl) ?_
                    refine xr_icmp_ne (a := r_25) (b := p0) (tgt := 78) hx hb dX5_count_72 (by decide) (fun c_27 => ?_) (fun c_27 => ?_) (by omega) (by omega)
                    · skip
                      -- 72 t
                      refine xr_iinc (z := fi) (lv' := [(5, .int (iI (fi + 1))), (4, .int (iI mn)), (0, .ref (a 0)), (1, .int (iI p0)), (2, .int (iI p1))]) hx hb dX5_count_78 hl (k := 1) rfl (by decide) rfl (fun ls hl => ?_)
                      refine lv_goto (tgt := 52) hx hb dX5_count_81 (by decide) ?_
                      exact ih_52 mn (fi + 1) (by omega) (by omega) (by first | (rw [cnt_zt (P := (fun f => fv (xset F f p1) = p0)) (by omega) (by show fv (xset F fi p1) = p0; omega), i1]; done) | (rw [cnt_zf (P := (fun f => fv (xset F f p1) = p0)) (by omega) (by show ¬ (fv (xset F fi p1) = p0); omega), i1]; done)) ls (lv_sub hl [1, 0, 2, 3, 4] rfl)
                    · skip
                      -- 72 f
                      refine xr_iinc (z := mn) (lv' := [(4, .int (iI (mn + 1))), (5, .int (iI fi)), (0, .ref (a 0)), (1, .int (iI p0)), (2, .int (iI p1))]) hx hb dX5_count_75 hl (k := 0) rfl (by decide) rfl (fun ls hl => ?_)
                      refine xr_iinc (z := fi) (lv' := [(5, .int (iI (fi + 1))), (4, .int (iI (mn + 1))), (0, .ref (a 0)), (1, .int (iI p0)), (2, .int (iI p1))]) hx hb dX5_count_78 hl (k := 1) rfl (by decide) rfl (fun ls hl => ?_)
                      refine lv_goto (tgt := 52) hx hb dX5_count_81 (by decide) ?_
                      exact ih_52 (mn + 1) (fi + 1) (by omega) (by omega) (by first | (rw [cnt_zt (P := (fun f => fv (xset F f p1) = p0)) (by omega) (by show fv (xset F fi p1) = p0; omega), i1]; done) | (rw [cnt_zf (P := (fun f => fv (xset F f p1) = p0)) (by omega) (by show ¬ (fv (xset F fi p1) = p0); omega), i1]; done)) ls (lv_sub hl [1, 0, 2, 3, 4] rfl)
              exact lp_52 _ 0 0 (Nat.lt_succ_self _) (by omega) (by rfl) ls (lv_sub hl [1, 0, 3, 4, 5] rfl)
            · skip
              -- 40 f
              refine xr_bipush hx hb dX5_count_43 (by decide +kernel) ?_
              exact W.iret (v := iI (-2)) hx hb hr (fun t ht9 hW => ⟨(-2), rfl, (by left; exact ⟨by omega, rfl⟩), ht9⟩) t_nil dX5_count_45
