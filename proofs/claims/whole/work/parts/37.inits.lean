set_option maxHeartbeats 4000000 in
set_option maxRecDepth 100000 in
theorem c_X0_init (l : Launch) (D : va_G) (h0 sz : Nat) : Met l yX0_init [.code yX0_init cX0_init 1 none] (rmI 2 3 60) (va_Pc [.ref h0] (ci_P D [(h0, .inr (1, [.int (iI 0), .null, .null, .null]))] sz)) (ci_Q (S := (Nat → Nat) × (Nat → ClassId) × (Int → Int)) D [(h0, .inr (1, [.int (iI 0), .null, .null, .null]))] sz (fun u => [(h0, .inr (1, [.int (iI 0), .ref (u.1 0), .ref (u.1 1), .ref (u.1 2)])), ((u.1 0), .inl ((u.2.1 0), 20, .inl (fun q : Nat => iI ((fun _ : Int => 0) q)))), ((u.1 1), .inl ((u.2.1 1), 20, .inl (fun q : Nat => iI ((fun _ : Int => 0) q)))), ((u.1 2), .inl ((u.2.1 2), 20, .inl (fun q : Nat => iI ((fun _ : Int => 0) q))))]) (fun u => [((u.2.1 0), .int), ((u.2.1 1), .int), ((u.2.1 2), .int)]) (fun u => True)) 3 60 (va_A [(h0, .inr (1, [.int (iI 0), .null, .null, .null]))] sz) := by
  refine ci_start (by decide) (by decide) ?_
  intro p e s m below meth c A hx hb hml hr hown hlocks hin hG hK hP hsz hAe hD hA ls hl
  have hown : s.vm.findClass RX0 = some m.cls := hown
  have hin : meth.name = "<init>" := hin
  have hS : va_S A s.heap s.heap [] := va_S.rf
  refine lv_aload_n hx hb dX0_init_0 rfl (lv_at hl 0 rfl) ?_
  refine W.objInit hx hb hown (hG.use _ lk_X0_3) (hG.use _ oi_i) (hG.use _ oi_c) rfl (by rw [hml]; exact hl.1) rfl dX0_init_1 (Nat.le_of_ble_eq_true rfl) (Nat.le_of_ble_eq_true rfl) ?_
  refine W.eq (g2 := F0 m 4 ls []) rfl ?_
  refine lv_aload_n hx hb dX0_init_4 rfl (lv_at hl 0 rfl) ?_
  refine xr_iconst hx hb dX0_init_5 ?_
  refine va_put (D := D) (cl := vwC) (ci := 1) (v := .int (iI 0)) (ty := .int) (C := RX0) (T := TX0) (N := 4) hx hb hG.use i_X0 tyX0 tyX0_ok nmX0 hown hK hP hD hS 0 rfl rfl 0 (by decide) (hG.use _ lf_X0_9) (fun _ h9 => h9) rfl (by decide +kernel) rfl rfl (Nat.le_of_ble_eq_true rfl) dX0_init_6 (fun H locs hP hD hS => ?_)
  have hP : va_P D vwC [(h0, .inr (1, [.int (iI 0), .null, .null, .null]))] H := hP
  have hD : va_D A [(h0, .inr (1, [.int (iI 0), .null, .null, .null]))] := hD
  refine lv_aload_n hx hb dX0_init_9 rfl (lv_at hl 0 rfl) ?_
  refine xr_bipush hx hb dX0_init_10 (by decide +kernel) ?_
  refine va_newa (atype := .int) (ty := .int) (N' := 20) (a0 := (20, .inl (fun q : Nat => iI ((fun _ : Int => 0) q)))) hx hb (hG.use _ ac_int) rfl hK hP hD hS hA (za_int 20) (by decide +kernel) (by decide +kernel) (by decide) (Nat.le_of_ble_eq_true rfl) (Nat.le_of_ble_eq_true rfl) dX0_init_12 (fun q1 k1 H hK hP hD hS => ?_)
  have hP : va_P D vwC [(h0, .inr (1, [.int (iI 0), .null, .null, .null])), (q1, .inl (k1, 20, .inl (fun q : Nat => iI ((fun _ : Int => 0) q))))] H := hP
  have hD : va_D A [(h0, .inr (1, [.int (iI 0), .null, .null, .null])), (q1, .inl (k1, 20, .inl (fun q : Nat => iI ((fun _ : Int => 0) q))))] := hD
  have hK : va_K D vwC [(k1, .int)] s := hK
  refine va_putF (D := D) (cl := vwC) (ci := 1) (v := .ref q1) (ty := .array .int) (C := RX0) (T := TX0) (N := 4) hx hb hG.use i_X0 tyX0 tyX0_ok nmX0 hown hK hP hD hS 0 rfl rfl 1 (by decide) (hG.use _ lf_X0_15) (fun _ h9 => h9) rfl hin rfl (by decide +kernel) rfl rfl (Nat.le_of_ble_eq_true rfl) dX0_init_14 (fun H locs hP hD hS => ?_)
  have hP : va_P D vwC [(h0, .inr (1, [.int (iI 0), .ref q1, .null, .null])), (q1, .inl (k1, 20, .inl (fun q : Nat => iI ((fun _ : Int => 0) q))))] H := hP
  have hD : va_D A [(h0, .inr (1, [.int (iI 0), .ref q1, .null, .null])), (q1, .inl (k1, 20, .inl (fun q : Nat => iI ((fun _ : Int => 0) q))))] := hD
  refine lv_aload_n hx hb dX0_init_17 rfl (lv_at hl 0 rfl) ?_
  refine xr_bipush hx hb dX0_init_18 (by decide +kernel) ?_
  refine va_newa (atype := .int) (ty := .int) (N' := 20) (a0 := (20, .inl (fun q : Nat => iI ((fun _ : Int => 0) q)))) hx hb (hG.use _ ac_int) rfl hK hP hD hS hA (za_int 20) (by decide +kernel) (by decide +kernel) (by decide) (Nat.le_of_ble_eq_true rfl) (Nat.le_of_ble_eq_true rfl) dX0_init_20 (fun q2 k2 H hK hP hD hS => ?_)
  have hP : va_P D vwC [(h0, .inr (1, [.int (iI 0), .ref q1, .null, .null])), (q1, .inl (k1, 20, .inl (fun q : Nat => iI ((fun _ : Int => 0) q)))), (q2, .inl (k2, 20, .inl (fun q : Nat => iI ((fun _ : Int => 0) q))))] H := hP
  have hD : va_D A [(h0, .inr (1, [.int (iI 0), .ref q1, .null, .null])), (q1, .inl (k1, 20, .inl (fun q : Nat => iI ((fun _ : Int => 0) q)))), (q2, .inl (k2, 20, .inl (fun q : Nat => iI ((fun _ : Int => 0) q))))] := hD
  have hK : va_K D vwC [(k1, .int), (k2, .int)] s := hK
  refine va_putF (D := D) (cl := vwC) (ci := 1) (v := .ref q2) (ty := .array .int) (C := RX0) (T := TX0) (N := 4) hx hb hG.use i_X0 tyX0 tyX0_ok nmX0 hown hK hP hD hS 0 rfl rfl 2 (by decide) (hG.use _ lf_X0_19) (fun _ h9 => h9) rfl hin rfl (by decide +kernel) rfl rfl (Nat.le_of_ble_eq_true rfl) dX0_init_22 (fun H locs hP hD hS => ?_)
  have hP : va_P D vwC [(h0, .inr (1, [.int (iI 0), .ref q1, .ref q2, .null])), (q1, .inl (k1, 20, .inl (fun q : Nat => iI ((fun _ : Int => 0) q)))), (q2, .inl (k2, 20, .inl (fun q : Nat => iI ((fun _ : Int => 0) q))))] H := hP
  have hD : va_D A [(h0, .inr (1, [.int (iI 0), .ref q1, .ref q2, .null])), (q1, .inl (k1, 20, .inl (fun q : Nat => iI ((fun _ : Int => 0) q)))), (q2, .inl (k2, 20, .inl (fun q : Nat => iI ((fun _ : Int => 0) q))))] := hD
  refine lv_aload_n hx hb dX0_init_25 rfl (lv_at hl 0 rfl) ?_
  refine xr_bipush hx hb dX0_init_26 (by decide +kernel) ?_
  refine va_newa (atype := .int) (ty := .int) (N' := 20) (a0 := (20, .inl (fun q : Nat => iI ((fun _ : Int => 0) q)))) hx hb (hG.use _ ac_int) rfl hK hP hD hS hA (za_int 20) (by decide +kernel) (by decide +kernel) (by decide) (Nat.le_of_ble_eq_true rfl) (Nat.le_of_ble_eq_true rfl) dX0_init_28 (fun q3 k3 H hK hP hD hS => ?_)
  have hP : va_P D vwC [(h0, .inr (1, [.int (iI 0), .ref q1, .ref q2, .null])), (q1, .inl (k1, 20, .inl (fun q : Nat => iI ((fun _ : Int => 0) q)))), (q2, .inl (k2, 20, .inl (fun q : Nat => iI ((fun _ : Int => 0) q)))), (q3, .inl (k3, 20, .inl (fun q : Nat => iI ((fun _ : Int => 0) q))))] H := hP
  have hD : va_D A [(h0, .inr (1, [.int (iI 0), .ref q1, .ref q2, .null])), (q1, .inl (k1, 20, .inl (fun q : Nat => iI ((fun _ : Int => 0) q)))), (q2, .inl (k2, 20, .inl (fun q : Nat => iI ((fun _ : Int => 0) q)))), (q3, .inl (k3, 20, .inl (fun q : Nat => iI ((fun _ : Int => 0) q))))] := hD
  have hK : va_K D vwC [(k1, .int), (k2, .int), (k3, .int)] s := hK
  refine va_putF (D := D) (cl := vwC) (ci := 1) (v := .ref q3) (ty := .array .int) (C := RX0) (T := TX0) (N := 4) hx hb hG.use i_X0 tyX0 tyX0_ok nmX0 hown hK hP hD hS 0 rfl rfl 3 (by decide) (hG.use _ lf_X0_22) (fun _ h9 => h9) rfl hin rfl (by decide +kernel) rfl rfl (Nat.le_of_ble_eq_true rfl) dX0_init_30 (fun H locs hP hD hS => ?_)
  have hP : va_P D vwC [(h0, .inr (1, [.int (iI 0), .ref q1, .ref q2, .ref q3])), (q1, .inl (k1, 20, .inl (fun q : Nat => iI ((fun _ : Int => 0) q)))), (q2, .inl (k2, 20, .inl (fun q : Nat => iI ((fun _ : Int => 0) q)))), (q3, .inl (k3, 20, .inl (fun q : Nat => iI ((fun _ : Int => 0) q))))] H := hP
  have hD : va_D A [(h0, .inr (1, [.int (iI 0), .ref q1, .ref q2, .ref q3])), (q1, .inl (k1, 20, .inl (fun q : Nat => iI ((fun _ : Int => 0) q)))), (q2, .inl (k2, 20, .inl (fun q : Nat => iI ((fun _ : Int => 0) q)))), (q3, .inl (k3, 20, .inl (fun q : Nat => iI ((fun _ : Int => 0) q))))] := hD
  have hK9 := hK.sub (tys' := [(k1, .int), (k2, .int), (k3, .int)]) [0, 1, 2] rfl
  refine W.widen (k := 3) (n := 60) (Nat.le_of_ble_eq_true rfl) (Nat.le_of_ble_eq_true rfl) ?_
  exact W.vret hx hb hr (fun t ht9 hW => by subst hAe; exact ⟨⟨(fun i => [q1, q2, q3].getD i 0, fun i => [k1, k2, k3].getD i 0, fun _ => 0), rfl, trivial, by rw [ht9]; exact hP, va_K.moved hW.alike hK9, hD⟩, hS.F ht9⟩) (fun q hq => by subst hAe; exact hS.2.2 q hq) dX0_init_33
set_option maxHeartbeats 4000000 in
set_option maxRecDepth 100000 in
theorem c_X1_init (l : Launch) (D : va_G) (h0 sz : Nat) : Met l yX1_init [.code yX1_init cX1_init 1 none] (rmI 2 4 2520) (va_Pc [.ref h0] (ci_P D [(h0, .inr (2, [.int (iI 0), .null, .null, .null, .null]))] sz)) (ci_Q (S := (Nat → Nat) × (Nat → ClassId) × (Int → Int)) D [(h0, .inr (2, [.int (iI 0), .null, .null, .null, .null]))] sz (fun u => [(h0, .inr (2, [.int (iI 0), .ref (u.1 0), .ref (u.1 1), .ref (u.1 2), .ref (u.1 3)])), ((u.1 0), .inl ((u.2.1 0), 40, .inl (fun q : Nat => iI ((fun _ : Int => 0) q)))), ((u.1 1), .inl ((u.2.1 1), 2400, .inl (fun q : Nat => iI ((fun _ : Int => 0) q)))), ((u.1 2), .inl ((u.2.1 2), 40, .inl (fun q : Nat => iI ((fun _ : Int => 0) q)))), ((u.1 3), .inl ((u.2.1 3), 40, .inl (fun q : Nat => iI ((fun _ : Int => 0) q))))]) (fun u => [((u.2.1 0), .int), ((u.2.1 1), .int), ((u.2.1 2), .int), ((u.2.1 3), .int)]) (fun u => True)) 4 2520 (va_A [(h0, .inr (2, [.int (iI 0), .null, .null, .null, .null]))] sz) := by
  refine ci_start (by decide) (by decide) ?_
  intro p e s m below meth c A hx hb hml hr hown hlocks hin hG hK hP hsz hAe hD hA ls hl
  have hown : s.vm.findClass RX1 = some m.cls := hown
  have hin : meth.name = "<init>" := hin
  have hS : va_S A s.heap s.heap [] := va_S.rf
  refine lv_aload_n hx hb dX1_init_0 rfl (lv_at hl 0 rfl) ?_
  refine W.objInit hx hb hown (hG.use _ lk_X1_3) (hG.use _ oi_i) (hG.use _ oi_c) rfl (by rw [hml]; exact hl.1) rfl dX1_init_1 (Nat.le_of_ble_eq_true rfl) (Nat.le_of_ble_eq_true rfl) ?_
  refine W.eq (g2 := F0 m 4 ls []) rfl ?_
  refine lv_aload_n hx hb dX1_init_4 rfl (lv_at hl 0 rfl) ?_
  refine xr_iconst hx hb dX1_init_5 ?_
  refine va_put (D := D) (cl := vwC) (ci := 2) (v := .int (iI 0)) (ty := .int) (C := RX1) (T := TX1) (N := 5) hx hb hG.use i_X1 tyX1 tyX1_ok nmX1 hown hK hP hD hS 0 rfl rfl 0 (by decide) (hG.use _ lf_X1_9) (fun _ h9 => h9) rfl (by decide +kernel) rfl rfl (Nat.le_of_ble_eq_true rfl) dX1_init_6 (fun H locs hP hD hS => ?_)
  have hP : va_P D vwC [(h0, .inr (2, [.int (iI 0), .null, .null, .null, .null]))] H := hP
  have hD : va_D A [(h0, .inr (2, [.int (iI 0), .null, .null, .null, .null]))] := hD
  refine lv_aload_n hx hb dX1_init_9 rfl (lv_at hl 0 rfl) ?_
  refine xr_bipush hx hb dX1_init_10 (by decide +kernel) ?_
  refine va_newa (atype := .int) (ty := .int) (N' := 40) (a0 := (40, .inl (fun q : Nat => iI ((fun _ : Int => 0) q)))) hx hb (hG.use _ ac_int) rfl hK hP hD hS hA (za_int 40) (by decide +kernel) (by decide +kernel) (by decide) (Nat.le_of_ble_eq_true rfl) (Nat.le_of_ble_eq_true rfl) dX1_init_12 (fun q1 k1 H hK hP hD hS => ?_)
  have hP : va_P D vwC [(h0, .inr (2, [.int (iI 0), .null, .null, .null, .null])), (q1, .inl (k1, 40, .inl (fun q : Nat => iI ((fun _ : Int => 0) q))))] H := hP
  have hD : va_D A [(h0, .inr (2, [.int (iI 0), .null, .null, .null, .null])), (q1, .inl (k1, 40, .inl (fun q : Nat => iI ((fun _ : Int => 0) q))))] := hD
  have hK : va_K D vwC [(k1, .int)] s := hK
  refine va_putF (D := D) (cl := vwC) (ci := 2) (v := .ref q1) (ty := .array .int) (C := RX1) (T := TX1) (N := 5) hx hb hG.use i_X1 tyX1 tyX1_ok nmX1 hown hK hP hD hS 0 rfl rfl 1 (by decide) (hG.use _ lf_X1_15) (fun _ h9 => h9) rfl hin rfl (by decide +kernel) rfl rfl (Nat.le_of_ble_eq_true rfl) dX1_init_14 (fun H locs hP hD hS => ?_)
  have hP : va_P D vwC [(h0, .inr (2, [.int (iI 0), .ref q1, .null, .null, .null])), (q1, .inl (k1, 40, .inl (fun q : Nat => iI ((fun _ : Int => 0) q))))] H := hP
  have hD : va_D A [(h0, .inr (2, [.int (iI 0), .ref q1, .null, .null, .null])), (q1, .inl (k1, 40, .inl (fun q : Nat => iI ((fun _ : Int => 0) q))))] := hD
  refine lv_aload_n hx hb dX1_init_17 rfl (lv_at hl 0 rfl) ?_
  refine xr_sipush hx hb dX1_init_18 (by decide +kernel) ?_
  refine va_newa (atype := .int) (ty := .int) (N' := 2400) (a0 := (2400, .inl (fun q : Nat => iI ((fun _ : Int => 0) q)))) hx hb (hG.use _ ac_int) rfl hK hP hD hS hA (za_int 2400) (by decide +kernel) (by decide +kernel) (by decide) (Nat.le_of_ble_eq_true rfl) (Nat.le_of_ble_eq_true rfl) dX1_init_21 (fun q2 k2 H hK hP hD hS => ?_)
  have hP : va_P D vwC [(h0, .inr (2, [.int (iI 0), .ref q1, .null, .null, .null])), (q1, .inl (k1, 40, .inl (fun q : Nat => iI ((fun _ : Int => 0) q)))), (q2, .inl (k2, 2400, .inl (fun q : Nat => iI ((fun _ : Int => 0) q))))] H := hP
  have hD : va_D A [(h0, .inr (2, [.int (iI 0), .ref q1, .null, .null, .null])), (q1, .inl (k1, 40, .inl (fun q : Nat => iI ((fun _ : Int => 0) q)))), (q2, .inl (k2, 2400, .inl (fun q : Nat => iI ((fun _ : Int => 0) q))))] := hD
  have hK : va_K D vwC [(k1, .int), (k2, .int)] s := hK
  refine va_putF (D := D) (cl := vwC) (ci := 2) (v := .ref q2) (ty := .array .int) (C := RX1) (T := TX1) (N := 5) hx hb hG.use i_X1 tyX1 tyX1_ok nmX1 hown hK hP hD hS 0 rfl rfl 2 (by decide) (hG.use _ lf_X1_19) (fun _ h9 => h9) rfl hin rfl (by decide +kernel) rfl rfl (Nat.le_of_ble_eq_true rfl) dX1_init_23 (fun H locs hP hD hS => ?_)
  have hP : va_P D vwC [(h0, .inr (2, [.int (iI 0), .ref q1, .ref q2, .null, .null])), (q1, .inl (k1, 40, .inl (fun q : Nat => iI ((fun _ : Int => 0) q)))), (q2, .inl (k2, 2400, .inl (fun q : Nat => iI ((fun _ : Int => 0) q))))] H := hP
  have hD : va_D A [(h0, .inr (2, [.int (iI 0), .ref q1, .ref q2, .null, .null])), (q1, .inl (k1, 40, .inl (fun q : Nat => iI ((fun _ : Int => 0) q)))), (q2, .inl (k2, 2400, .inl (fun q : Nat => iI ((fun _ : Int => 0) q))))] := hD
  refine lv_aload_n hx hb dX1_init_26 rfl (lv_at hl 0 rfl) ?_
  refine xr_bipush hx hb dX1_init_27 (by decide +kernel) ?_
  refine va_newa (atype := .int) (ty := .int) (N' := 40) (a0 := (40, .inl (fun q : Nat => iI ((fun _ : Int => 0) q)))) hx hb (hG.use _ ac_int) rfl hK hP hD hS hA (za_int 40) (by decide +kernel) (by decide +kernel) (by decide) (Nat.le_of_ble_eq_true rfl) (Nat.le_of_ble_eq_true rfl) dX1_init_29 (fun q3 k3 H hK hP hD hS => ?_)
  have hP : va_P D vwC [(h0, .inr (2, [.int (iI 0), .ref q1, .ref q2, .null, .null])), (q1, .inl (k1, 40, .inl (fun q : Nat => iI ((fun _ : Int => 0) q)))), (q2, .inl (k2, 2400, .inl (fun q : Nat => iI ((fun _ : Int => 0) q)))), (q3, .inl (k3, 40, .inl (fun q : Nat => iI ((fun _ : Int => 0) q))))] H := hP
  have hD : va_D A [(h0, .inr (2, [.int (iI 0), .ref q1, .ref q2, .null, .null])), (q1, .inl (k1, 40, .inl (fun q : Nat => iI ((fun _ : Int => 0) q)))), (q2, .inl (k2, 2400, .inl (fun q : Nat => iI ((fun _ : Int => 0) q)))), (q3, .inl (k3, 40, .inl (fun q : Nat => iI ((fun _ : Int => 0) q))))] := hD
  have hK : va_K D vwC [(k1, .int), (k2, .int), (k3, .int)] s := hK
  refine va_putF (D := D) (cl := vwC) (ci := 2) (v := .ref q3) (ty := .array .int) (C := RX1) (T := TX1) (N := 5) hx hb hG.use i_X1 tyX1 tyX1_ok nmX1 hown hK hP hD hS 0 rfl rfl 3 (by decide) (hG.use _ lf_X1_22) (fun _ h9 => h9) rfl hin rfl (by decide +kernel) rfl rfl (Nat.le_of_ble_eq_true rfl) dX1_init_31 (fun H locs hP hD hS => ?_)
  have hP : va_P D vwC [(h0, .inr (2, [.int (iI 0), .ref q1, .ref q2, .ref q3, .null])), (q1, .inl (k1, 40, .inl (fun q : Nat => iI ((fun _ : Int => 0) q)))), (q2, .inl (k2, 2400, .inl (fun q : Nat => iI ((fun _ : Int => 0) q)))), (q3, .inl (k3, 40, .inl (fun q : Nat => iI ((fun _ : Int => 0) q))))] H := hP
  have hD : va_D A [(h0, .inr (2, [.int (iI 0), .ref q1, .ref q2, .ref q3, .null])), (q1, .inl (k1, 40, .inl (fun q : Nat => iI ((fun _ : Int => 0) q)))), (q2, .inl (k2, 2400, .inl (fun q : Nat => iI ((fun _ : Int => 0) q)))), (q3, .inl (k3, 40, .inl (fun q : Nat => iI ((fun _ : Int => 0) q))))] := hD
  refine lv_aload_n hx hb dX1_init_34 rfl (lv_at hl 0 rfl) ?_
  refine xr_bipush hx hb dX1_init_35 (by decide +kernel) ?_
  refine va_newa (atype := .int) (ty := .int) (N' := 40) (a0 := (40, .inl (fun q : Nat => iI ((fun _ : Int => 0) q)))) hx hb (hG.use _ ac_int) rfl hK hP hD hS hA (za_int 40) (by decide +kernel) (by decide +kernel) (by decide) (Nat.le_of_ble_eq_true rfl) (Nat.le_of_ble_eq_true rfl) dX1_init_37 (fun q4 k4 H hK hP hD hS => ?_)
  have hP : va_P D vwC [(h0, .inr (2, [.int (iI 0), .ref q1, .ref q2, .ref q3, .null])), (q1, .inl (k1, 40, .inl (fun q : Nat => iI ((fun _ : Int => 0) q)))), (q2, .inl (k2, 2400, .inl (fun q : Nat => iI ((fun _ : Int => 0) q)))), (q3, .inl (k3, 40, .inl (fun q : Nat => iI ((fun _ : Int => 0) q)))), (q4, .inl (k4, 40, .inl (fun q : Nat => iI ((fun _ : Int => 0) q))))] H := hP
  have hD : va_D A [(h0, .inr (2, [.int (iI 0), .ref q1, .ref q2, .ref q3, .null])), (q1, .inl (k1, 40, .inl (fun q : Nat => iI ((fun _ : Int => 0) q)))), (q2, .inl (k2, 2400, .inl (fun q : Nat => iI ((fun _ : Int => 0) q)))), (q3, .inl (k3, 40, .inl (fun q : Nat => iI ((fun _ : Int => 0) q)))), (q4, .inl (k4, 40, .inl (fun q : Nat => iI ((fun _ : Int => 0) q))))] := hD
  have hK : va_K D vwC [(k1, .int), (k2, .int), (k3, .int), (k4, .int)] s := hK
  refine va_putF (D := D) (cl := vwC) (ci := 2) (v := .ref q4) (ty := .array .int) (C := RX1) (T := TX1) (N := 5) hx hb hG.use i_X1 tyX1 tyX1_ok nmX1 hown hK hP hD hS 0 rfl rfl 4 (by decide) (hG.use _ lf_X1_25) (fun _ h9 => h9) rfl hin rfl (by decide +kernel) rfl rfl (Nat.le_of_ble_eq_true rfl) dX1_init_39 (fun H locs hP hD hS => ?_)
  have hP : va_P D vwC [(h0, .inr (2, [.int (iI 0), .ref q1, .ref q2, .ref q3, .ref q4])), (q1, .inl (k1, 40, .inl (fun q : Nat => iI ((fun _ : Int => 0) q)))), (q2, .inl (k2, 2400, .inl (fun q : Nat => iI ((fun _ : Int => 0) q)))), (q3, .inl (k3, 40, .inl (fun q : Nat => iI ((fun _ : Int => 0) q)))), (q4, .inl (k4, 40, .inl (fun q : Nat => iI ((fun _ : Int => 0) q))))] H := hP
  have hD : va_D A [(h0, .inr (2, [.int (iI 0), .ref q1, .ref q2, .ref q3, .ref q4])), (q1, .inl (k1, 40, .inl (fun q : Nat => iI ((fun _ : Int => 0) q)))), (q2, .inl (k2, 2400, .inl (fun q : Nat => iI ((fun _ : Int => 0) q)))), (q3, .inl (k3, 40, .inl (fun q : Nat => iI ((fun _ : Int => 0) q)))), (q4, .inl (k4, 40, .inl (fun q : Nat => iI ((fun _ : Int => 0) q))))] := hD
  have hK9 := hK.sub (tys' := [(k1, .int), (k2, .int), (k3, .int), (k4, .int)]) [0, 1, 2, 3] rfl
  refine W.widen (k := 4) (n := 2520) (Nat.le_of_ble_eq_true rfl) (Nat.le_of_ble_eq_true rfl) ?_
  exact W.vret hx hb hr (fun t ht9 hW => by subst hAe; exact ⟨⟨(fun i => [q1, q2, q3, q4].getD i 0, fun i => [k1, k2, k3, k4].getD i 0, fun _ => 0), rfl, trivial, by rw [ht9]; exact hP, va_K.moved hW.alike hK9, hD⟩, hS.F ht9⟩) (fun q hq => by subst hAe; exact hS.2.2 q hq) dX1_init_42
set_option maxHeartbeats 4000000 in
set_option maxRecDepth 100000 in
theorem c_X2_init (l : Launch) (D : va_G) (h0 sz : Nat) : Met l yX2_init [.code yX2_init cX2_init 1 none] (rmI 2 2 60) (va_Pc [.ref h0] (ci_P D [(h0, .inr (3, [.null, .null]))] sz)) (ci_Q (S := (Nat → Nat) × (Nat → ClassId) × (Int → Int)) D [(h0, .inr (3, [.null, .null]))] sz (fun u => [(h0, .inr (3, [.ref (u.1 0), .ref (u.1 1)])), ((u.1 0), .inl ((u.2.1 0), 30, .inl (fun q : Nat => iI ((fun _ : Int => 0) q)))), ((u.1 1), .inl ((u.2.1 1), 30, .inl (fun q : Nat => iI (u.2.2 q))))]) (fun u => [((u.2.1 0), .boolean), ((u.2.1 1), .int)]) (fun u => ∀ q : Int, 0 ≤ q → q < 30 → u.2.2 q = -1)) 2 60 (va_A [(h0, .inr (3, [.null, .null]))] sz) := by
  refine ci_start (by decide) (by decide) ?_
  intro p e s m below meth c A hx hb hml hr hown hlocks hin hG hK hP hsz hAe hD hA ls hl
  have hown : s.vm.findClass RX2 = some m.cls := hown
  have hin : meth.name = "<init>" := hin
  have hS : va_S A s.heap s.heap [] := va_S.rf
  refine lv_aload_n hx hb dX2_init_0 rfl (lv_at hl 0 rfl) ?_
  refine W.objInit hx hb hown (hG.use _ lk_X2_3) (hG.use _ oi_i) (hG.use _ oi_c) rfl (by rw [hml]; exact hl.1) rfl dX2_init_1 (Nat.le_of_ble_eq_true rfl) (Nat.le_of_ble_eq_true rfl) ?_
  refine W.eq (g2 := F0 m 4 ls []) rfl ?_
  refine lv_aload_n hx hb dX2_init_4 rfl (lv_at hl 0 rfl) ?_
  refine xr_bipush hx hb dX2_init_5 (by decide +kernel) ?_
  refine va_newa (atype := .boolean) (ty := .boolean) (N' := 30) (a0 := (30, .inl (fun q : Nat => iI ((fun _ : Int => 0) q)))) hx hb (hG.use _ ac_boolean) rfl hK hP hD hS hA (za_boolean 30) (by decide +kernel) (by decide +kernel) (by decide) (Nat.le_of_ble_eq_true rfl) (Nat.le_of_ble_eq_true rfl) dX2_init_7 (fun q1 k1 H hK hP hD hS => ?_)
  have hP : va_P D vwC [(h0, .inr (3, [.null, .null])), (q1, .inl (k1, 30, .inl (fun q : Nat => iI ((fun _ : Int => 0) q))))] H := hP
  have hD : va_D A [(h0, .inr (3, [.null, .null])), (q1, .inl (k1, 30, .inl (fun q : Nat => iI ((fun _ : Int => 0) q))))] := hD
  have hK : va_K D vwC [(k1, .boolean)] s := hK
  refine va_putF (D := D) (cl := vwC) (ci := 3) (v := .ref q1) (ty := .array .boolean) (C := RX2) (T := TX2) (N := 2) hx hb hG.use i_X2 tyX2 tyX2_ok nmX2 hown hK hP hD hS 0 rfl rfl 0 (by decide) (hG.use _ lf_X2_9) (fun _ h9 => h9) rfl hin rfl (by decide +kernel) rfl rfl (Nat.le_of_ble_eq_true rfl) dX2_init_9 (fun H locs hP hD hS => ?_)
  have hP : va_P D vwC [(h0, .inr (3, [.ref q1, .null])), (q1, .inl (k1, 30, .inl (fun q : Nat => iI ((fun _ : Int => 0) q))))] H := hP
  have hD : va_D A [(h0, .inr (3, [.ref q1, .null])), (q1, .inl (k1, 30, .inl (fun q : Nat => iI ((fun _ : Int => 0) q))))] := hD
  refine lv_aload_n hx hb dX2_init_12 rfl (lv_at hl 0 rfl) ?_
  refine xr_bipush hx hb dX2_init_13 (by decide +kernel) ?_
  refine va_newa (atype := .int) (ty := .int) (N' := 30) (a0 := (30, .inl (fun q : Nat => iI ((fun _ : Int => 0) q)))) hx hb (hG.use _ ac_int) rfl hK hP hD hS hA (za_int 30) (by decide +kernel) (by decide +kernel) (by decide) (Nat.le_of_ble_eq_true rfl) (Nat.le_of_ble_eq_true rfl) dX2_init_15 (fun q2 k2 H hK hP hD hS => ?_)
  have hP : va_P D vwC [(h0, .inr (3, [.ref q1, .null])), (q1, .inl (k1, 30, .inl (fun q : Nat => iI ((fun _ : Int => 0) q)))), (q2, .inl (k2, 30, .inl (fun q : Nat => iI ((fun _ : Int => 0) q))))] H := hP
  have hD : va_D A [(h0, .inr (3, [.ref q1, .null])), (q1, .inl (k1, 30, .inl (fun q : Nat => iI ((fun _ : Int => 0) q)))), (q2, .inl (k2, 30, .inl (fun q : Nat => iI ((fun _ : Int => 0) q))))] := hD
  have hK : va_K D vwC [(k1, .boolean), (k2, .int)] s := hK
  refine va_putF (D := D) (cl := vwC) (ci := 3) (v := .ref q2) (ty := .array .int) (C := RX2) (T := TX2) (N := 2) hx hb hG.use i_X2 tyX2 tyX2_ok nmX2 hown hK hP hD hS 0 rfl rfl 1 (by decide) (hG.use _ lf_X2_15) (fun _ h9 => h9) rfl hin rfl (by decide +kernel) rfl rfl (Nat.le_of_ble_eq_true rfl) dX2_init_17 (fun H locs hP hD hS => ?_)
  have hP : va_P D vwC [(h0, .inr (3, [.ref q1, .ref q2])), (q1, .inl (k1, 30, .inl (fun q : Nat => iI ((fun _ : Int => 0) q)))), (q2, .inl (k2, 30, .inl (fun q : Nat => iI ((fun _ : Int => 0) q))))] H := hP
  have hD : va_D A [(h0, .inr (3, [.ref q1, .ref q2])), (q1, .inl (k1, 30, .inl (fun q : Nat => iI ((fun _ : Int => 0) q)))), (q2, .inl (k2, 30, .inl (fun q : Nat => iI ((fun _ : Int => 0) q))))] := hD
  refine lv_aload_n hx hb dX2_init_20 rfl (lv_at hl 0 rfl) ?_
  refine va_get (D := D) (cl := vwC) (ci := 3) (v := .ref q2) (C := RX2) (T := TX2) (N := 2) hx hb hG.use i_X2 hown hK hP 0 rfl rfl 1 (by decide) (hG.use _ lf_X2_15) (fun _ h9 => h9) rfl dX2_init_21 ?_
  refine xr_iconst hx hb dX2_init_24 ?_
  have hPc := hP.sub (ws' := [(q2, .inl (k2, 30, .inl (fun q : Nat => iI ((fun _ : Int => 0) q))))]) [2] rfl
  refine mv_call (g_runS (rest := []) hx hb hml hown hG (hK.sub (tys' := [(k2, .int)]) [1] rfl) hPc mS_J7_fill_53178 (c_J7_fill l D q2 k2 30 (fun _ : Int => 0) (-1) (by decide)) lk_X2_19 rfl hl.1 rfl (Nat.le_of_ble_eq_true rfl) ⟨(Nat.le_of_ble_eq_true rfl), (Nat.le_of_ble_eq_true rfl)⟩ ⟨(Nat.le_of_ble_eq_true rfl), (Nat.le_of_ble_eq_true rfl)⟩ dX2_init_25) hS (fun q h => by rw [h]; exact hD.2 2 _ rfl) (fun g3 H1 locs eg3 hP1 _ hk1 hS => ?_)
  have hP := fl_join (i := 2) (isR := [0, 1]) (wr := [(h0, .inr (3, [.ref q1, .ref q2])), (q1, .inl (k1, 30, .inl (fun q : Nat => iI ((fun _ : Int => 0) q))))]) (c0 := (q2, .inl (k2, 30, .inl (fun q : Nat => iI ((fun _ : Int => 0) q))))) (c1 := (q2, .inl (k2, 30, .inl (fun q : Nat => iI (g3 q))))) hP hD rfl rfl (by decide) (by decide) rfl hk1 hP1
  have hD : va_D A [(h0, .inr (3, [.ref q1, .ref q2])), (q1, .inl (k1, 30, .inl (fun q : Nat => iI ((fun _ : Int => 0) q)))), (q2, .inl (k2, 30, .inl (fun q : Nat => iI (g3 q))))] := fl_D (wr := [(h0, .inr (3, [.ref q1, .ref q2])), (q1, .inl (k1, 30, .inl (fun q : Nat => iI ((fun _ : Int => 0) q))))]) (c0 := (q2, .inl (k2, 30, .inl (fun q : Nat => iI ((fun _ : Int => 0) q))))) (c1 := (q2, .inl (k2, 30, .inl (fun q : Nat => iI (g3 q))))) (hD.sub (ws' := [(h0, .inr (3, [.ref q1, .ref q2])), (q1, .inl (k1, 30, .inl (fun q : Nat => iI ((fun _ : Int => 0) q)))), (q2, .inl (k2, 30, .inl (fun q : Nat => iI ((fun _ : Int => 0) q))))]) [0, 1, 2] (by decide) rfl) rfl
  generalize H1 = H at hP hS ⊢
  have hP : va_P D vwC [(h0, .inr (3, [.ref q1, .ref q2])), (q1, .inl (k1, 30, .inl (fun q : Nat => iI ((fun _ : Int => 0) q)))), (q2, .inl (k2, 30, .inl (fun q : Nat => iI (g3 q))))] H := hP
  have hD : va_D A [(h0, .inr (3, [.ref q1, .ref q2])), (q1, .inl (k1, 30, .inl (fun q : Nat => iI ((fun _ : Int => 0) q)))), (q2, .inl (k2, 30, .inl (fun q : Nat => iI (g3 q))))] := hD
  have hK9 := hK.sub (tys' := [(k1, .boolean), (k2, .int)]) [0, 1] rfl
  refine W.widen (k := 2) (n := 60) (Nat.le_of_ble_eq_true rfl) (Nat.le_of_ble_eq_true rfl) ?_
  exact W.vret hx hb hr (fun t ht9 hW => by subst hAe; exact ⟨⟨(fun i => [q1, q2].getD i 0, fun i => [k1, k2].getD i 0, g3), rfl, eg3, by rw [ht9]; exact hP, va_K.moved hW.alike hK9, hD⟩, hS.F ht9⟩) (fun q hq => by subst hAe; exact hS.2.2 q hq) dX2_init_28
set_option maxHeartbeats 4000000 in
set_option maxRecDepth 100000 in
theorem c_X3_init (l : Launch) (D : va_G) (h0 sz : Nat) : Met l yX3_init [.code yX3_init cX3_init 1 none] (rmI 2 2 72) (va_Pc [.ref h0] (ci_P D [(h0, .inr (4, [.null, .int (iI 0), .int (iI 0), .int (iI 0), .int (iI 0), .int (iI 0), .int (iI 0), .null, .int (iI 0)]))] sz)) (ci_Q (S := (Nat → Nat) × (Nat → ClassId) × (Int → Int)) D [(h0, .inr (4, [.null, .int (iI 0), .int (iI 0), .int (iI 0), .int (iI 0), .int (iI 0), .int (iI 0), .null, .int (iI 0)]))] sz (fun u => [(h0, .inr (4, [.ref (u.1 0), .int (iI 0), .int (iI 0), .int (iI 0), .int (iI 0), .int (iI 0), .int (iI 0), .ref (u.1 1), .int (iI 0)])), ((u.1 0), .inl ((u.2.1 0), 60, .inl (fun q : Nat => iI ((fun _ : Int => 0) q)))), ((u.1 1), .inl ((u.2.1 1), 12, .inl (fun q : Nat => iI ((fun _ : Int => 0) q))))]) (fun u => [((u.2.1 0), .int), ((u.2.1 1), .int)]) (fun u => True)) 2 72 (va_A [(h0, .inr (4, [.null, .int (iI 0), .int (iI 0), .int (iI 0), .int (iI 0), .int (iI 0), .int (iI 0), .null, .int (iI 0)]))] sz) := by
  refine ci_start (by decide) (by decide) ?_
  intro p e s m below meth c A hx hb hml hr hown hlocks hin hG hK hP hsz hAe hD hA ls hl
  have hown : s.vm.findClass RX3 = some m.cls := hown
  have hin : meth.name = "<init>" := hin
  have hS : va_S A s.heap s.heap [] := va_S.rf
  refine lv_aload_n hx hb dX3_init_0 rfl (lv_at hl 0 rfl) ?_
  refine W.objInit hx hb hown (hG.use _ lk_X3_3) (hG.use _ oi_i) (hG.use _ oi_c) rfl (by rw [hml]; exact hl.1) rfl dX3_init_1 (Nat.le_of_ble_eq_true rfl) (Nat.le_of_ble_eq_true rfl) ?_
  refine W.eq (g2 := F0 m 4 ls []) rfl ?_
  refine lv_aload_n hx hb dX3_init_4 rfl (lv_at hl 0 rfl) ?_
  refine xr_bipush hx hb dX3_init_5 (by decide +kernel) ?_
  refine va_newa (atype := .int) (ty := .int) (N' := 60) (a0 := (60, .inl (fun q : Nat => iI ((fun _ : Int => 0) q)))) hx hb (hG.use _ ac_int) rfl hK hP hD hS hA (za_int 60) (by decide +kernel) (by decide +kernel) (by decide) (Nat.le_of_ble_eq_true rfl) (Nat.le_of_ble_eq_true rfl) dX3_init_7 (fun q1 k1 H hK hP hD hS => ?_)
  have hP : va_P D vwC [(h0, .inr (4, [.null, .int (iI 0), .int (iI 0), .int (iI 0), .int (iI 0), .int (iI 0), .int (iI 0), .null, .int (iI 0)])), (q1, .inl (k1, 60, .inl (fun q : Nat => iI ((fun _ : Int => 0) q))))] H := hP
  have hD : va_D A [(h0, .inr (4, [.null, .int (iI 0), .int (iI 0), .int (iI 0), .int (iI 0), .int (iI 0), .int (iI 0), .null, .int (iI 0)])), (q1, .inl (k1, 60, .inl (fun q : Nat => iI ((fun _ : Int => 0) q))))] := hD
  have hK : va_K D vwC [(k1, .int)] s := hK
  refine va_putF (D := D) (cl := vwC) (ci := 4) (v := .ref q1) (ty := .array .int) (C := RX3) (T := TX3) (N := 9) hx hb hG.use i_X3 tyX3 tyX3_ok nmX3 hown hK hP hD hS 0 rfl rfl 0 (by decide) (hG.use _ lf_X3_9) (fun _ h9 => h9) rfl hin rfl (by decide +kernel) rfl rfl (Nat.le_of_ble_eq_true rfl) dX3_init_9 (fun H locs hP hD hS => ?_)
  have hP : va_P D vwC [(h0, .inr (4, [.ref q1, .int (iI 0), .int (iI 0), .int (iI 0), .int (iI 0), .int (iI 0), .int (iI 0), .null, .int (iI 0)])), (q1, .inl (k1, 60, .inl (fun q : Nat => iI ((fun _ : Int => 0) q))))] H := hP
  have hD : va_D A [(h0, .inr (4, [.ref q1, .int (iI 0), .int (iI 0), .int (iI 0), .int (iI 0), .int (iI 0), .int (iI 0), .null, .int (iI 0)])), (q1, .inl (k1, 60, .inl (fun q : Nat => iI ((fun _ : Int => 0) q))))] := hD
  refine lv_aload_n hx hb dX3_init_12 rfl (lv_at hl 0 rfl) ?_
  refine xr_iconst hx hb dX3_init_13 ?_
  refine va_put (D := D) (cl := vwC) (ci := 4) (v := .int (iI 0)) (ty := .int) (C := RX3) (T := TX3) (N := 9) hx hb hG.use i_X3 tyX3 tyX3_ok nmX3 hown hK hP hD hS 0 rfl rfl 1 (by decide) (hG.use _ lf_X3_15) (fun _ h9 => h9) rfl (by decide +kernel) rfl rfl (Nat.le_of_ble_eq_true rfl) dX3_init_14 (fun H locs hP hD hS => ?_)
  have hP : va_P D vwC [(h0, .inr (4, [.ref q1, .int (iI 0), .int (iI 0), .int (iI 0), .int (iI 0), .int (iI 0), .int (iI 0), .null, .int (iI 0)])), (q1, .inl (k1, 60, .inl (fun q : Nat => iI ((fun _ : Int => 0) q))))] H := hP
  have hD : va_D A [(h0, .inr (4, [.ref q1, .int (iI 0), .int (iI 0), .int (iI 0), .int (iI 0), .int (iI 0), .int (iI 0), .null, .int (iI 0)])), (q1, .inl (k1, 60, .inl (fun q : Nat => iI ((fun _ : Int => 0) q))))] := hD
  refine lv_aload_n hx hb dX3_init_17 rfl (lv_at hl 0 rfl) ?_
  refine xr_iconst hx hb dX3_init_18 ?_
  refine va_put (D := D) (cl := vwC) (ci := 4) (v := .int (iI 0)) (ty := .int) (C := RX3) (T := TX3) (N := 9) hx hb hG.use i_X3 tyX3 tyX3_ok nmX3 hown hK hP hD hS 0 rfl rfl 2 (by decide) (hG.use _ lf_X3_19) (fun _ h9 => h9) rfl (by decide +kernel) rfl rfl (Nat.le_of_ble_eq_true rfl) dX3_init_19 (fun H locs hP hD hS => ?_)
  have hP : va_P D vwC [(h0, .inr (4, [.ref q1, .int (iI 0), .int (iI 0), .int (iI 0), .int (iI 0), .int (iI 0), .int (iI 0), .null, .int (iI 0)])), (q1, .inl (k1, 60, .inl (fun q : Nat => iI ((fun _ : Int => 0) q))))] H := hP
  have hD : va_D A [(h0, .inr (4, [.ref q1, .int (iI 0), .int (iI 0), .int (iI 0), .int (iI 0), .int (iI 0), .int (iI 0), .null, .int (iI 0)])), (q1, .inl (k1, 60, .inl (fun q : Nat => iI ((fun _ : Int => 0) q))))] := hD
  refine lv_aload_n hx hb dX3_init_22 rfl (lv_at hl 0 rfl) ?_
  refine xr_iconst hx hb dX3_init_23 ?_
  refine va_put (D := D) (cl := vwC) (ci := 4) (v := .int (iI 0)) (ty := .int) (C := RX3) (T := TX3) (N := 9) hx hb hG.use i_X3 tyX3 tyX3_ok nmX3 hown hK hP hD hS 0 rfl rfl 3 (by decide) (hG.use _ lf_X3_22) (fun _ h9 => h9) rfl (by decide +kernel) rfl rfl (Nat.le_of_ble_eq_true rfl) dX3_init_24 (fun H locs hP hD hS => ?_)
  have hP : va_P D vwC [(h0, .inr (4, [.ref q1, .int (iI 0), .int (iI 0), .int (iI 0), .int (iI 0), .int (iI 0), .int (iI 0), .null, .int (iI 0)])), (q1, .inl (k1, 60, .inl (fun q : Nat => iI ((fun _ : Int => 0) q))))] H := hP
  have hD : va_D A [(h0, .inr (4, [.ref q1, .int (iI 0), .int (iI 0), .int (iI 0), .int (iI 0), .int (iI 0), .int (iI 0), .null, .int (iI 0)])), (q1, .inl (k1, 60, .inl (fun q : Nat => iI ((fun _ : Int => 0) q))))] := hD
  refine lv_aload_n hx hb dX3_init_27 rfl (lv_at hl 0 rfl) ?_
  refine xr_iconst hx hb dX3_init_28 ?_
  refine va_put (D := D) (cl := vwC) (ci := 4) (v := .int (iI 0)) (ty := .int) (C := RX3) (T := TX3) (N := 9) hx hb hG.use i_X3 tyX3 tyX3_ok nmX3 hown hK hP hD hS 0 rfl rfl 4 (by decide) (hG.use _ lf_X3_25) (fun _ h9 => h9) rfl (by decide +kernel) rfl rfl (Nat.le_of_ble_eq_true rfl) dX3_init_29 (fun H locs hP hD hS => ?_)
  have hP : va_P D vwC [(h0, .inr (4, [.ref q1, .int (iI 0), .int (iI 0), .int (iI 0), .int (iI 0), .int (iI 0), .int (iI 0), .null, .int (iI 0)])), (q1, .inl (k1, 60, .inl (fun q : Nat => iI ((fun _ : Int => 0) q))))] H := hP
  have hD : va_D A [(h0, .inr (4, [.ref q1, .int (iI 0), .int (iI 0), .int (iI 0), .int (iI 0), .int (iI 0), .int (iI 0), .null, .int (iI 0)])), (q1, .inl (k1, 60, .inl (fun q : Nat => iI ((fun _ : Int => 0) q))))] := hD
  refine lv_aload_n hx hb dX3_init_32 rfl (lv_at hl 0 rfl) ?_
  refine xr_iconst hx hb dX3_init_33 ?_
  refine va_put (D := D) (cl := vwC) (ci := 4) (v := .int (iI 0)) (ty := .boolean) (C := RX3) (T := TX3) (N := 9) hx hb hG.use i_X3 tyX3 tyX3_ok nmX3 hown hK hP hD hS 0 rfl rfl 5 (by decide) (hG.use _ lf_X3_28) (fun _ h9 => h9) rfl (by decide +kernel) (bz_nar (Or.inl rfl)) (bz_fit (Or.inl rfl)) (Nat.le_of_ble_eq_true rfl) dX3_init_34 (fun H locs hP hD hS => ?_)
  have hP : va_P D vwC [(h0, .inr (4, [.ref q1, .int (iI 0), .int (iI 0), .int (iI 0), .int (iI 0), .int (iI 0), .int (iI 0), .null, .int (iI 0)])), (q1, .inl (k1, 60, .inl (fun q : Nat => iI ((fun _ : Int => 0) q))))] H := hP
  have hD : va_D A [(h0, .inr (4, [.ref q1, .int (iI 0), .int (iI 0), .int (iI 0), .int (iI 0), .int (iI 0), .int (iI 0), .null, .int (iI 0)])), (q1, .inl (k1, 60, .inl (fun q : Nat => iI ((fun _ : Int => 0) q))))] := hD
  refine lv_aload_n hx hb dX3_init_37 rfl (lv_at hl 0 rfl) ?_
  refine xr_iconst hx hb dX3_init_38 ?_
  refine va_put (D := D) (cl := vwC) (ci := 4) (v := .int (iI 0)) (ty := .int) (C := RX3) (T := TX3) (N := 9) hx hb hG.use i_X3 tyX3 tyX3_ok nmX3 hown hK hP hD hS 0 rfl rfl 6 (by decide) (hG.use _ lf_X3_32) (fun _ h9 => h9) rfl (by decide +kernel) rfl rfl (Nat.le_of_ble_eq_true rfl) dX3_init_39 (fun H locs hP hD hS => ?_)
  have hP : va_P D vwC [(h0, .inr (4, [.ref q1, .int (iI 0), .int (iI 0), .int (iI 0), .int (iI 0), .int (iI 0), .int (iI 0), .null, .int (iI 0)])), (q1, .inl (k1, 60, .inl (fun q : Nat => iI ((fun _ : Int => 0) q))))] H := hP
  have hD : va_D A [(h0, .inr (4, [.ref q1, .int (iI 0), .int (iI 0), .int (iI 0), .int (iI 0), .int (iI 0), .int (iI 0), .null, .int (iI 0)])), (q1, .inl (k1, 60, .inl (fun q : Nat => iI ((fun _ : Int => 0) q))))] := hD
  refine lv_aload_n hx hb dX3_init_42 rfl (lv_at hl 0 rfl) ?_
  refine xr_bipush hx hb dX3_init_43 (by decide +kernel) ?_
  refine va_newa (atype := .int) (ty := .int) (N' := 12) (a0 := (12, .inl (fun q : Nat => iI ((fun _ : Int => 0) q)))) hx hb (hG.use _ ac_int) rfl hK hP hD hS hA (za_int 12) (by decide +kernel) (by decide +kernel) (by decide) (Nat.le_of_ble_eq_true rfl) (Nat.le_of_ble_eq_true rfl) dX3_init_45 (fun q2 k2 H hK hP hD hS => ?_)
  have hP : va_P D vwC [(h0, .inr (4, [.ref q1, .int (iI 0), .int (iI 0), .int (iI 0), .int (iI 0), .int (iI 0), .int (iI 0), .null, .int (iI 0)])), (q1, .inl (k1, 60, .inl (fun q : Nat => iI ((fun _ : Int => 0) q)))), (q2, .inl (k2, 12, .inl (fun q : Nat => iI ((fun _ : Int => 0) q))))] H := hP
  have hD : va_D A [(h0, .inr (4, [.ref q1, .int (iI 0), .int (iI 0), .int (iI 0), .int (iI 0), .int (iI 0), .int (iI 0), .null, .int (iI 0)])), (q1, .inl (k1, 60, .inl (fun q : Nat => iI ((fun _ : Int => 0) q)))), (q2, .inl (k2, 12, .inl (fun q : Nat => iI ((fun _ : Int => 0) q))))] := hD
  have hK : va_K D vwC [(k1, .int), (k2, .int)] s := hK
  refine va_putF (D := D) (cl := vwC) (ci := 4) (v := .ref q2) (ty := .array .int) (C := RX3) (T := TX3) (N := 9) hx hb hG.use i_X3 tyX3 tyX3_ok nmX3 hown hK hP hD hS 0 rfl rfl 7 (by decide) (hG.use _ lf_X3_35) (fun _ h9 => h9) rfl hin rfl (by decide +kernel) rfl rfl (Nat.le_of_ble_eq_true rfl) dX3_init_47 (fun H locs hP hD hS => ?_)
  have hP : va_P D vwC [(h0, .inr (4, [.ref q1, .int (iI 0), .int (iI 0), .int (iI 0), .int (iI 0), .int (iI 0), .int (iI 0), .ref q2, .int (iI 0)])), (q1, .inl (k1, 60, .inl (fun q : Nat => iI ((fun _ : Int => 0) q)))), (q2, .inl (k2, 12, .inl (fun q : Nat => iI ((fun _ : Int => 0) q))))] H := hP
  have hD : va_D A [(h0, .inr (4, [.ref q1, .int (iI 0), .int (iI 0), .int (iI 0), .int (iI 0), .int (iI 0), .int (iI 0), .ref q2, .int (iI 0)])), (q1, .inl (k1, 60, .inl (fun q : Nat => iI ((fun _ : Int => 0) q)))), (q2, .inl (k2, 12, .inl (fun q : Nat => iI ((fun _ : Int => 0) q))))] := hD
  refine lv_aload_n hx hb dX3_init_50 rfl (lv_at hl 0 rfl) ?_
  refine xr_iconst hx hb dX3_init_51 ?_
  refine va_put (D := D) (cl := vwC) (ci := 4) (v := .int (iI 0)) (ty := .int) (C := RX3) (T := TX3) (N := 9) hx hb hG.use i_X3 tyX3 tyX3_ok nmX3 hown hK hP hD hS 0 rfl rfl 8 (by decide) (hG.use _ lf_X3_38) (fun _ h9 => h9) rfl (by decide +kernel) rfl rfl (Nat.le_of_ble_eq_true rfl) dX3_init_52 (fun H locs hP hD hS => ?_)
  have hP : va_P D vwC [(h0, .inr (4, [.ref q1, .int (iI 0), .int (iI 0), .int (iI 0), .int (iI 0), .int (iI 0), .int (iI 0), .ref q2, .int (iI 0)])), (q1, .inl (k1, 60, .inl (fun q : Nat => iI ((fun _ : Int => 0) q)))), (q2, .inl (k2, 12, .inl (fun q : Nat => iI ((fun _ : Int => 0) q))))] H := hP
  have hD : va_D A [(h0, .inr (4, [.ref q1, .int (iI 0), .int (iI 0), .int (iI 0), .int (iI 0), .int (iI 0), .int (iI 0), .ref q2, .int (iI 0)])), (q1, .inl (k1, 60, .inl (fun q : Nat => iI ((fun _ : Int => 0) q)))), (q2, .inl (k2, 12, .inl (fun q : Nat => iI ((fun _ : Int => 0) q))))] := hD
  have hK9 := hK.sub (tys' := [(k1, .int), (k2, .int)]) [0, 1] rfl
  refine W.widen (k := 2) (n := 72) (Nat.le_of_ble_eq_true rfl) (Nat.le_of_ble_eq_true rfl) ?_
  exact W.vret hx hb hr (fun t ht9 hW => by subst hAe; exact ⟨⟨(fun i => [q1, q2].getD i 0, fun i => [k1, k2].getD i 0, fun _ => 0), rfl, trivial, by rw [ht9]; exact hP, va_K.moved hW.alike hK9, hD⟩, hS.F ht9⟩) (fun q hq => by subst hAe; exact hS.2.2 q hq) dX3_init_55
set_option maxHeartbeats 4000000 in
set_option maxRecDepth 100000 in
theorem c_X4_init (l : Launch) (D : va_G) (h0 sz : Nat) : Met l yX4_init [.code yX4_init cX4_init 1 none] (rmI 2 6 1020) (va_Pc [.ref h0] (ci_P D [(h0, .inr (5, [.int (iI 0), .null, .null, .null, .null, .null, .null]))] sz)) (ci_Q (S := (Nat → Nat) × (Nat → ClassId) × (Int → Int)) D [(h0, .inr (5, [.int (iI 0), .null, .null, .null, .null, .null, .null]))] sz (fun u => [(h0, .inr (5, [.int (iI 0), .ref (u.1 0), .ref (u.1 1), .ref (u.1 2), .ref (u.1 3), .ref (u.1 4), .ref (u.1 5)])), ((u.1 0), .inl ((u.2.1 0), 60, .inl (fun q : Nat => iI ((fun _ : Int => 0) q)))), ((u.1 1), .inl ((u.2.1 1), 60, .inl (fun q : Nat => iI ((fun _ : Int => 0) q)))), ((u.1 2), .inl ((u.2.1 2), 60, .inl (fun q : Nat => iI ((fun _ : Int => 0) q)))), ((u.1 3), .inl ((u.2.1 3), 60, .inl (fun q : Nat => iI ((fun _ : Int => 0) q)))), ((u.1 4), .inl ((u.2.1 4), 60, .inl (fun q : Nat => iI ((fun _ : Int => 0) q)))), ((u.1 5), .inl ((u.2.1 5), 720, .inl (fun q : Nat => iI ((fun _ : Int => 0) q))))]) (fun u => [((u.2.1 0), .int), ((u.2.1 1), .int), ((u.2.1 2), .boolean), ((u.2.1 3), .int), ((u.2.1 4), .int), ((u.2.1 5), .int)]) (fun u => True)) 6 1020 (va_A [(h0, .inr (5, [.int (iI 0), .null, .null, .null, .null, .null, .null]))] sz) := by
  refine ci_start (by decide) (by decide) ?_
  intro p e s m below meth c A hx hb hml hr hown hlocks hin hG hK hP hsz hAe hD hA ls hl
  have hown : s.vm.findClass RX4 = some m.cls := hown
  have hin : meth.name = "<init>" := hin
  have hS : va_S A s.heap s.heap [] := va_S.rf
  refine lv_aload_n hx hb dX4_init_0 rfl (lv_at hl 0 rfl) ?_
  refine W.objInit hx hb hown (hG.use _ lk_X4_3) (hG.use _ oi_i) (hG.use _ oi_c) rfl (by rw [hml]; exact hl.1) rfl dX4_init_1 (Nat.le_of_ble_eq_true rfl) (Nat.le_of_ble_eq_true rfl) ?_
  refine W.eq (g2 := F0 m 4 ls []) rfl ?_
  refine lv_aload_n hx hb dX4_init_4 rfl (lv_at hl 0 rfl) ?_
  refine xr_iconst hx hb dX4_init_5 ?_
  refine va_put (D := D) (cl := vwC) (ci := 5) (v := .int (iI 0)) (ty := .int) (C := RX4) (T := TX4) (N := 7) hx hb hG.use i_X4 tyX4 tyX4_ok nmX4 hown hK hP hD hS 0 rfl rfl 0 (by decide) (hG.use _ lf_X4_9) (fun _ h9 => h9) rfl (by decide +kernel) rfl rfl (Nat.le_of_ble_eq_true rfl) dX4_init_6 (fun H locs hP hD hS => ?_)
  have hP : va_P D vwC [(h0, .inr (5, [.int (iI 0), .null, .null, .null, .null, .null, .null]))] H := hP
  have hD : va_D A [(h0, .inr (5, [.int (iI 0), .null, .null, .null, .null, .null, .null]))] := hD
  refine lv_aload_n hx hb dX4_init_9 rfl (lv_at hl 0 rfl) ?_
  refine xr_bipush hx hb dX4_init_10 (by decide +kernel) ?_
  refine va_newa (atype := .int) (ty := .int) (N' := 60) (a0 := (60, .inl (fun q : Nat => iI ((fun _ : Int => 0) q)))) hx hb (hG.use _ ac_int) rfl hK hP hD hS hA (za_int 60) (by decide +kernel) (by decide +kernel) (by decide) (Nat.le_of_ble_eq_true rfl) (Nat.le_of_ble_eq_true rfl) dX4_init_12 (fun q1 k1 H hK hP hD hS => ?_)
  have hP : va_P D vwC [(h0, .inr (5, [.int (iI 0), .null, .null, .null, .null, .null, .null])), (q1, .inl (k1, 60, .inl (fun q : Nat => iI ((fun _ : Int => 0) q))))] H := hP
  have hD : va_D A [(h0, .inr (5, [.int (iI 0), .null, .null, .null, .null, .null, .null])), (q1, .inl (k1, 60, .inl (fun q : Nat => iI ((fun _ : Int => 0) q))))] := hD
  have hK : va_K D vwC [(k1, .int)] s := hK
  refine va_putF (D := D) (cl := vwC) (ci := 5) (v := .ref q1) (ty := .array .int) (C := RX4) (T := TX4) (N := 7) hx hb hG.use i_X4 tyX4 tyX4_ok nmX4 hown hK hP hD hS 0 rfl rfl 1 (by decide) (hG.use _ lf_X4_15) (fun _ h9 => h9) rfl hin rfl (by decide +kernel) rfl rfl (Nat.le_of_ble_eq_true rfl) dX4_init_14 (fun H locs hP hD hS => ?_)
  have hP : va_P D vwC [(h0, .inr (5, [.int (iI 0), .ref q1, .null, .null, .null, .null, .null])), (q1, .inl (k1, 60, .inl (fun q : Nat => iI ((fun _ : Int => 0) q))))] H := hP
  have hD : va_D A [(h0, .inr (5, [.int (iI 0), .ref q1, .null, .null, .null, .null, .null])), (q1, .inl (k1, 60, .inl (fun q : Nat => iI ((fun _ : Int => 0) q))))] := hD
  refine lv_aload_n hx hb dX4_init_17 rfl (lv_at hl 0 rfl) ?_
  refine xr_bipush hx hb dX4_init_18 (by decide +kernel) ?_
  refine va_newa (atype := .int) (ty := .int) (N' := 60) (a0 := (60, .inl (fun q : Nat => iI ((fun _ : Int => 0) q)))) hx hb (hG.use _ ac_int) rfl hK hP hD hS hA (za_int 60) (by decide +kernel) (by decide +kernel) (by decide) (Nat.le_of_ble_eq_true rfl) (Nat.le_of_ble_eq_true rfl) dX4_init_20 (fun q2 k2 H hK hP hD hS => ?_)
  have hP : va_P D vwC [(h0, .inr (5, [.int (iI 0), .ref q1, .null, .null, .null, .null, .null])), (q1, .inl (k1, 60, .inl (fun q : Nat => iI ((fun _ : Int => 0) q)))), (q2, .inl (k2, 60, .inl (fun q : Nat => iI ((fun _ : Int => 0) q))))] H := hP
  have hD : va_D A [(h0, .inr (5, [.int (iI 0), .ref q1, .null, .null, .null, .null, .null])), (q1, .inl (k1, 60, .inl (fun q : Nat => iI ((fun _ : Int => 0) q)))), (q2, .inl (k2, 60, .inl (fun q : Nat => iI ((fun _ : Int => 0) q))))] := hD
  have hK : va_K D vwC [(k1, .int), (k2, .int)] s := hK
  refine va_putF (D := D) (cl := vwC) (ci := 5) (v := .ref q2) (ty := .array .int) (C := RX4) (T := TX4) (N := 7) hx hb hG.use i_X4 tyX4 tyX4_ok nmX4 hown hK hP hD hS 0 rfl rfl 2 (by decide) (hG.use _ lf_X4_19) (fun _ h9 => h9) rfl hin rfl (by decide +kernel) rfl rfl (Nat.le_of_ble_eq_true rfl) dX4_init_22 (fun H locs hP hD hS => ?_)
  have hP : va_P D vwC [(h0, .inr (5, [.int (iI 0), .ref q1, .ref q2, .null, .null, .null, .null])), (q1, .inl (k1, 60, .inl (fun q : Nat => iI ((fun _ : Int => 0) q)))), (q2, .inl (k2, 60, .inl (fun q : Nat => iI ((fun _ : Int => 0) q))))] H := hP
  have hD : va_D A [(h0, .inr (5, [.int (iI 0), .ref q1, .ref q2, .null, .null, .null, .null])), (q1, .inl (k1, 60, .inl (fun q : Nat => iI ((fun _ : Int => 0) q)))), (q2, .inl (k2, 60, .inl (fun q : Nat => iI ((fun _ : Int => 0) q))))] := hD
  refine lv_aload_n hx hb dX4_init_25 rfl (lv_at hl 0 rfl) ?_
  refine xr_bipush hx hb dX4_init_26 (by decide +kernel) ?_
  refine va_newa (atype := .boolean) (ty := .boolean) (N' := 60) (a0 := (60, .inl (fun q : Nat => iI ((fun _ : Int => 0) q)))) hx hb (hG.use _ ac_boolean) rfl hK hP hD hS hA (za_boolean 60) (by decide +kernel) (by decide +kernel) (by decide) (Nat.le_of_ble_eq_true rfl) (Nat.le_of_ble_eq_true rfl) dX4_init_28 (fun q3 k3 H hK hP hD hS => ?_)
  have hP : va_P D vwC [(h0, .inr (5, [.int (iI 0), .ref q1, .ref q2, .null, .null, .null, .null])), (q1, .inl (k1, 60, .inl (fun q : Nat => iI ((fun _ : Int => 0) q)))), (q2, .inl (k2, 60, .inl (fun q : Nat => iI ((fun _ : Int => 0) q)))), (q3, .inl (k3, 60, .inl (fun q : Nat => iI ((fun _ : Int => 0) q))))] H := hP
  have hD : va_D A [(h0, .inr (5, [.int (iI 0), .ref q1, .ref q2, .null, .null, .null, .null])), (q1, .inl (k1, 60, .inl (fun q : Nat => iI ((fun _ : Int => 0) q)))), (q2, .inl (k2, 60, .inl (fun q : Nat => iI ((fun _ : Int => 0) q)))), (q3, .inl (k3, 60, .inl (fun q : Nat => iI ((fun _ : Int => 0) q))))] := hD
  have hK : va_K D vwC [(k1, .int), (k2, .int), (k3, .boolean)] s := hK
  refine va_putF (D := D) (cl := vwC) (ci := 5) (v := .ref q3) (ty := .array .boolean) (C := RX4) (T := TX4) (N := 7) hx hb hG.use i_X4 tyX4 tyX4_ok nmX4 hown hK hP hD hS 0 rfl rfl 3 (by decide) (hG.use _ lf_X4_22) (fun _ h9 => h9) rfl hin rfl (by decide +kernel) rfl rfl (Nat.le_of_ble_eq_true rfl) dX4_init_30 (fun H locs hP hD hS => ?_)
  have hP : va_P D vwC [(h0, .inr (5, [.int (iI 0), .ref q1, .ref q2, .ref q3, .null, .null, .null])), (q1, .inl (k1, 60, .inl (fun q : Nat => iI ((fun _ : Int => 0) q)))), (q2, .inl (k2, 60, .inl (fun q : Nat => iI ((fun _ : Int => 0) q)))), (q3, .inl (k3, 60, .inl (fun q : Nat => iI ((fun _ : Int => 0) q))))] H := hP
  have hD : va_D A [(h0, .inr (5, [.int (iI 0), .ref q1, .ref q2, .ref q3, .null, .null, .null])), (q1, .inl (k1, 60, .inl (fun q : Nat => iI ((fun _ : Int => 0) q)))), (q2, .inl (k2, 60, .inl (fun q : Nat => iI ((fun _ : Int => 0) q)))), (q3, .inl (k3, 60, .inl (fun q : Nat => iI ((fun _ : Int => 0) q))))] := hD
  refine lv_aload_n hx hb dX4_init_33 rfl (lv_at hl 0 rfl) ?_
  refine xr_bipush hx hb dX4_init_34 (by decide +kernel) ?_
  refine va_newa (atype := .int) (ty := .int) (N' := 60) (a0 := (60, .inl (fun q : Nat => iI ((fun _ : Int => 0) q)))) hx hb (hG.use _ ac_int) rfl hK hP hD hS hA (za_int 60) (by decide +kernel) (by decide +kernel) (by decide) (Nat.le_of_ble_eq_true rfl) (Nat.le_of_ble_eq_true rfl) dX4_init_36 (fun q4 k4 H hK hP hD hS => ?_)
  have hP : va_P D vwC [(h0, .inr (5, [.int (iI 0), .ref q1, .ref q2, .ref q3, .null, .null, .null])), (q1, .inl (k1, 60, .inl (fun q : Nat => iI ((fun _ : Int => 0) q)))), (q2, .inl (k2, 60, .inl (fun q : Nat => iI ((fun _ : Int => 0) q)))), (q3, .inl (k3, 60, .inl (fun q : Nat => iI ((fun _ : Int => 0) q)))), (q4, .inl (k4, 60, .inl (fun q : Nat => iI ((fun _ : Int => 0) q))))] H := hP
  have hD : va_D A [(h0, .inr (5, [.int (iI 0), .ref q1, .ref q2, .ref q3, .null, .null, .null])), (q1, .inl (k1, 60, .inl (fun q : Nat => iI ((fun _ : Int => 0) q)))), (q2, .inl (k2, 60, .inl (fun q : Nat => iI ((fun _ : Int => 0) q)))), (q3, .inl (k3, 60, .inl (fun q : Nat => iI ((fun _ : Int => 0) q)))), (q4, .inl (k4, 60, .inl (fun q : Nat => iI ((fun _ : Int => 0) q))))] := hD
  have hK : va_K D vwC [(k1, .int), (k2, .int), (k3, .boolean), (k4, .int)] s := hK
  refine va_putF (D := D) (cl := vwC) (ci := 5) (v := .ref q4) (ty := .array .int) (C := RX4) (T := TX4) (N := 7) hx hb hG.use i_X4 tyX4 tyX4_ok nmX4 hown hK hP hD hS 0 rfl rfl 4 (by decide) (hG.use _ lf_X4_26) (fun _ h9 => h9) rfl hin rfl (by decide +kernel) rfl rfl (Nat.le_of_ble_eq_true rfl) dX4_init_38 (fun H locs hP hD hS => ?_)
  have hP : va_P D vwC [(h0, .inr (5, [.int (iI 0), .ref q1, .ref q2, .ref q3, .ref q4, .null, .null])), (q1, .inl (k1, 60, .inl (fun q : Nat => iI ((fun _ : Int => 0) q)))), (q2, .inl (k2, 60, .inl (fun q : Nat => iI ((fun _ : Int => 0) q)))), (q3, .inl (k3, 60, .inl (fun q : Nat => iI ((fun _ : Int => 0) q)))), (q4, .inl (k4, 60, .inl (fun q : Nat => iI ((fun _ : Int => 0) q))))] H := hP
  have hD : va_D A [(h0, .inr (5, [.int (iI 0), .ref q1, .ref q2, .ref q3, .ref q4, .null, .null])), (q1, .inl (k1, 60, .inl (fun q : Nat => iI ((fun _ : Int => 0) q)))), (q2, .inl (k2, 60, .inl (fun q : Nat => iI ((fun _ : Int => 0) q)))), (q3, .inl (k3, 60, .inl (fun q : Nat => iI ((fun _ : Int => 0) q)))), (q4, .inl (k4, 60, .inl (fun q : Nat => iI ((fun _ : Int => 0) q))))] := hD
  refine lv_aload_n hx hb dX4_init_41 rfl (lv_at hl 0 rfl) ?_
  refine xr_bipush hx hb dX4_init_42 (by decide +kernel) ?_
  refine va_newa (atype := .int) (ty := .int) (N' := 60) (a0 := (60, .inl (fun q : Nat => iI ((fun _ : Int => 0) q)))) hx hb (hG.use _ ac_int) rfl hK hP hD hS hA (za_int 60) (by decide +kernel) (by decide +kernel) (by decide) (Nat.le_of_ble_eq_true rfl) (Nat.le_of_ble_eq_true rfl) dX4_init_44 (fun q5 k5 H hK hP hD hS => ?_)
  have hP : va_P D vwC [(h0, .inr (5, [.int (iI 0), .ref q1, .ref q2, .ref q3, .ref q4, .null, .null])), (q1, .inl (k1, 60, .inl (fun q : Nat => iI ((fun _ : Int => 0) q)))), (q2, .inl (k2, 60, .inl (fun q : Nat => iI ((fun _ : Int => 0) q)))), (q3, .inl (k3, 60, .inl (fun q : Nat => iI ((fun _ : Int => 0) q)))), (q4, .inl (k4, 60, .inl (fun q : Nat => iI ((fun _ : Int => 0) q)))), (q5, .inl (k5, 60, .inl (fun q : Nat => iI ((fun _ : Int => 0) q))))] H := hP
  have hD : va_D A [(h0, .inr (5, [.int (iI 0), .ref q1, .ref q2, .ref q3, .ref q4, .null, .null])), (q1, .inl (k1, 60, .inl (fun q : Nat => iI ((fun _ : Int => 0) q)))), (q2, .inl (k2, 60, .inl (fun q : Nat => iI ((fun _ : Int => 0) q)))), (q3, .inl (k3, 60, .inl (fun q : Nat => iI ((fun _ : Int => 0) q)))), (q4, .inl (k4, 60, .inl (fun q : Nat => iI ((fun _ : Int => 0) q)))), (q5, .inl (k5, 60, .inl (fun q : Nat => iI ((fun _ : Int => 0) q))))] := hD
  have hK : va_K D vwC [(k1, .int), (k2, .int), (k3, .boolean), (k4, .int), (k5, .int)] s := hK
  refine va_putF (D := D) (cl := vwC) (ci := 5) (v := .ref q5) (ty := .array .int) (C := RX4) (T := TX4) (N := 7) hx hb hG.use i_X4 tyX4 tyX4_ok nmX4 hown hK hP hD hS 0 rfl rfl 5 (by decide) (hG.use _ lf_X4_29) (fun _ h9 => h9) rfl hin rfl (by decide +kernel) rfl rfl (Nat.le_of_ble_eq_true rfl) dX4_init_46 (fun H locs hP hD hS => ?_)
  have hP : va_P D vwC [(h0, .inr (5, [.int (iI 0), .ref q1, .ref q2, .ref q3, .ref q4, .ref q5, .null])), (q1, .inl (k1, 60, .inl (fun q : Nat => iI ((fun _ : Int => 0) q)))), (q2, .inl (k2, 60, .inl (fun q : Nat => iI ((fun _ : Int => 0) q)))), (q3, .inl (k3, 60, .inl (fun q : Nat => iI ((fun _ : Int => 0) q)))), (q4, .inl (k4, 60, .inl (fun q : Nat => iI ((fun _ : Int => 0) q)))), (q5, .inl (k5, 60, .inl (fun q : Nat => iI ((fun _ : Int => 0) q))))] H := hP
  have hD : va_D A [(h0, .inr (5, [.int (iI 0), .ref q1, .ref q2, .ref q3, .ref q4, .ref q5, .null])), (q1, .inl (k1, 60, .inl (fun q : Nat => iI ((fun _ : Int => 0) q)))), (q2, .inl (k2, 60, .inl (fun q : Nat => iI ((fun _ : Int => 0) q)))), (q3, .inl (k3, 60, .inl (fun q : Nat => iI ((fun _ : Int => 0) q)))), (q4, .inl (k4, 60, .inl (fun q : Nat => iI ((fun _ : Int => 0) q)))), (q5, .inl (k5, 60, .inl (fun q : Nat => iI ((fun _ : Int => 0) q))))] := hD
  refine lv_aload_n hx hb dX4_init_49 rfl (lv_at hl 0 rfl) ?_
  refine xr_sipush hx hb dX4_init_50 (by decide +kernel) ?_
  refine va_newa (atype := .int) (ty := .int) (N' := 720) (a0 := (720, .inl (fun q : Nat => iI ((fun _ : Int => 0) q)))) hx hb (hG.use _ ac_int) rfl hK hP hD hS hA (za_int 720) (by decide +kernel) (by decide +kernel) (by decide) (Nat.le_of_ble_eq_true rfl) (Nat.le_of_ble_eq_true rfl) dX4_init_53 (fun q6 k6 H hK hP hD hS => ?_)
  have hP : va_P D vwC [(h0, .inr (5, [.int (iI 0), .ref q1, .ref q2, .ref q3, .ref q4, .ref q5, .null])), (q1, .inl (k1, 60, .inl (fun q : Nat => iI ((fun _ : Int => 0) q)))), (q2, .inl (k2, 60, .inl (fun q : Nat => iI ((fun _ : Int => 0) q)))), (q3, .inl (k3, 60, .inl (fun q : Nat => iI ((fun _ : Int => 0) q)))), (q4, .inl (k4, 60, .inl (fun q : Nat => iI ((fun _ : Int => 0) q)))), (q5, .inl (k5, 60, .inl (fun q : Nat => iI ((fun _ : Int => 0) q)))), (q6, .inl (k6, 720, .inl (fun q : Nat => iI ((fun _ : Int => 0) q))))] H := hP
  have hD : va_D A [(h0, .inr (5, [.int (iI 0), .ref q1, .ref q2, .ref q3, .ref q4, .ref q5, .null])), (q1, .inl (k1, 60, .inl (fun q : Nat => iI ((fun _ : Int => 0) q)))), (q2, .inl (k2, 60, .inl (fun q : Nat => iI ((fun _ : Int => 0) q)))), (q3, .inl (k3, 60, .inl (fun q : Nat => iI ((fun _ : Int => 0) q)))), (q4, .inl (k4, 60, .inl (fun q : Nat => iI ((fun _ : Int => 0) q)))), (q5, .inl (k5, 60, .inl (fun q : Nat => iI ((fun _ : Int => 0) q)))), (q6, .inl (k6, 720, .inl (fun q : Nat => iI ((fun _ : Int => 0) q))))] := hD
  have hK : va_K D vwC [(k1, .int), (k2, .int), (k3, .boolean), (k4, .int), (k5, .int), (k6, .int)] s := hK
  refine va_putF (D := D) (cl := vwC) (ci := 5) (v := .ref q6) (ty := .array .int) (C := RX4) (T := TX4) (N := 7) hx hb hG.use i_X4 tyX4 tyX4_ok nmX4 hown hK hP hD hS 0 rfl rfl 6 (by decide) (hG.use _ lf_X4_32) (fun _ h9 => h9) rfl hin rfl (by decide +kernel) rfl rfl (Nat.le_of_ble_eq_true rfl) dX4_init_55 (fun H locs hP hD hS => ?_)
  have hP : va_P D vwC [(h0, .inr (5, [.int (iI 0), .ref q1, .ref q2, .ref q3, .ref q4, .ref q5, .ref q6])), (q1, .inl (k1, 60, .inl (fun q : Nat => iI ((fun _ : Int => 0) q)))), (q2, .inl (k2, 60, .inl (fun q : Nat => iI ((fun _ : Int => 0) q)))), (q3, .inl (k3, 60, .inl (fun q : Nat => iI ((fun _ : Int => 0) q)))), (q4, .inl (k4, 60, .inl (fun q : Nat => iI ((fun _ : Int => 0) q)))), (q5, .inl (k5, 60, .inl (fun q : Nat => iI ((fun _ : Int => 0) q)))), (q6, .inl (k6, 720, .inl (fun q : Nat => iI ((fun _ : Int => 0) q))))] H := hP
  have hD : va_D A [(h0, .inr (5, [.int (iI 0), .ref q1, .ref q2, .ref q3, .ref q4, .ref q5, .ref q6])), (q1, .inl (k1, 60, .inl (fun q : Nat => iI ((fun _ : Int => 0) q)))), (q2, .inl (k2, 60, .inl (fun q : Nat => iI ((fun _ : Int => 0) q)))), (q3, .inl (k3, 60, .inl (fun q : Nat => iI ((fun _ : Int => 0) q)))), (q4, .inl (k4, 60, .inl (fun q : Nat => iI ((fun _ : Int => 0) q)))), (q5, .inl (k5, 60, .inl (fun q : Nat => iI ((fun _ : Int => 0) q)))), (q6, .inl (k6, 720, .inl (fun q : Nat => iI ((fun _ : Int => 0) q))))] := hD
  have hK9 := hK.sub (tys' := [(k1, .int), (k2, .int), (k3, .boolean), (k4, .int), (k5, .int), (k6, .int)]) [0, 1, 2, 3, 4, 5] rfl
  refine W.widen (k := 6) (n := 1020) (Nat.le_of_ble_eq_true rfl) (Nat.le_of_ble_eq_true rfl) ?_
  exact W.vret hx hb hr (fun t ht9 hW => by subst hAe; exact ⟨⟨(fun i => [q1, q2, q3, q4, q5, q6].getD i 0, fun i => [k1, k2, k3, k4, k5, k6].getD i 0, fun _ => 0), rfl, trivial, by rw [ht9]; exact hP, va_K.moved hW.alike hK9, hD⟩, hS.F ht9⟩) (fun q hq => by subst hAe; exact hS.2.2 q hq) dX4_init_58
