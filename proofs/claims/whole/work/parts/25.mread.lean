set_option maxHeartbeats 4000000 in
set_option maxRecDepth 100000 in
theorem c_X6_eat (l : Launch) (D : va_G) (a : Nat → Nat) (k : Nat → ClassId) (I : Nat → Int) (F : Nat → Int → Int) (hdis : dis 21 a) (p0 n ta : Int) (b0 : -2147483648 ≤ p0 ∧ p0 < 2147483648) (e1 : I 1 = n) (e2 : I 2 = ta) (ht : txt (F 1) n) (ha : 0 ≤ ta ∧ ta ≤ n) : mu_M (S := (Nat → Int) × (Nat → Int → Int)) l yX6_eat cX6_eat 2 (some .boolean) 1 [.ref (a 0), .int (iI p0)] D (mT k) (mW a k I F) (fun u => mW a k u.1 u.2) (fun r u => (lk (F 1) n ta = p0 ∧ r = 1 ∧ u = (uI I 2 (ta + 1), F)) ∨ (lk (F 1) n ta ≠ p0 ∧ r = 0 ∧ u = (I, F))) (adr 21 a) := by
  refine me_start (by decide) (Nat.le_of_ble_eq_true rfl) rfl ?_
  intro p e s m below meth c hx hb hml hr hown hlocks hnm hG hK hP ls hl
  have hown : s.vm.findClass RX6 = some m.cls := hown
  have hl : lv_has ls 2 [(0, .ref (a 0)), (1, .int (iI p0))] := hl
  have hS : va_S (adr 21 a) s.heap s.heap [] := va_S.rf
  subst e1
  subst e2
  have hn60 : 0 ≤ I 1 ∧ I 1 ≤ 60 := ht.1
  refine lv_aload_n hx hb dX6_eat_0 rfl (lv_at hl 0 rfl) ?_
  refine ro_call (g_runV (rest := []) hx hb hml hown hG hK hP mV_X6_look (c_X6_look l D a k I F (I 1) (I 2) rfl rfl ht (by omega)) lk_X6_89 (va_recv hK hP (ci := 7) (q0 := 0) rfl rfl) rfl hl.1 rfl (Nat.le_of_ble_eq_true rfl) ⟨(Nat.le_of_ble_eq_true rfl), (Nat.le_of_ble_eq_true rfl)⟩ ⟨(Nat.le_of_ble_eq_true rfl), (Nat.le_of_ble_eq_true rfl)⟩ dX6_eat_1) (fun r_1 q_2 => ?_)
  have q_2 : r_1 = lk (F 1) (I 1) (I 2) := q_2
  have f_l := lk_in ht (I 2)
  rw [← q_2] at f_l
  have e_l := q_2
  refine lv_iload_n hx hb dX6_eat_4 rfl (lv_at hl 1 rfl) ?_
  refine xr_icmp_eq (a := r_1) (b := p0) (tgt := 10) hx hb dX6_eat_5 (by decide) (fun c_3 => ?_) (fun c_3 => ?_) (by omega) (by omega)
  · skip
    -- 5 t
    refine lv_aload_n hx hb dX6_eat_10 rfl (lv_at hl 0 rfl) ?_
    refine lv_dup hx hb dX6_eat_11 rfl ?_
    refine va_get (D := D) (cl := vwC) (ci := 7) (v := .int (iI (I 2))) (C := RX6) (T := TX6) (N := 27) hx hb hG.use i_X6 hown hK hP 0 rfl rfl 3 (by decide) (hG.use _ lf_X6_86) (fun _ h9 => h9) rfl dX6_eat_12 ?_
    refine xr_iconst hx hb dX6_eat_15 ?_
    refine xr_iadd (a := I 2) (b := 1) hx hb dX6_eat_16 ?_
    refine va_put (D := D) (cl := vwC) (ci := 7) (v := .int (iI ((I 2) + 1))) (ty := .int) (C := RX6) (T := TX6) (N := 27) hx hb hG.use i_X6 tyX6 tyX6_ok nmX6 hown hK hP (mD hdis) hS 0 rfl rfl 3 (by decide) (hG.use _ lf_X6_86) (fun _ h9 => h9) rfl (by decide +kernel) rfl rfl (Nat.le_of_ble_eq_true rfl) dX6_eat_17 (fun H locs hP _ hS => ?_)
    have hP : va_P D vwC (mW a k (uI I 2 ((I 2) + 1)) F) H := hP
    refine xr_iconst hx hb dX6_eat_20 ?_
    exact W.zret (v := iI 1) hx hb hr (bz_nar (by omega)) (fun t ht9 hW => ⟨1, (uI I 2 ((I 2) + 1), F), rfl, (by first | exact Or.inl ⟨by omega, rfl, rfl⟩ | exact Or.inr ⟨by omega, rfl, rfl⟩), by rw [ht9]; exact hP, hS.F ht9⟩) hS.2.2 dX6_eat_21
  · skip
    -- 5 f
    refine xr_iconst hx hb dX6_eat_8 ?_
    exact W.zret (v := iI 0) hx hb hr (bz_nar (by omega)) (fun t ht9 hW => ⟨0, (I, F), rfl, (by first | exact Or.inl ⟨by omega, rfl, rfl⟩ | exact Or.inr ⟨by omega, rfl, rfl⟩), by rw [ht9]; exact hP, hS.F ht9⟩) hS.2.2 dX6_eat_9
set_option maxHeartbeats 4000000 in
set_option maxRecDepth 100000 in
theorem c_X6_number2 (l : Launch) (D : va_G) (a : Nat → Nat) (k : Nat → ClassId) (I : Nat → Int) (F : Nat → Int → Int) (hdis : dis 21 a) (mx lim n ta : Int) (e1 : I 1 = n) (e2 : I 2 = ta) (ht : txt (F 1) n) (ha : 0 ≤ ta ∧ ta ≤ n) (hm : 1 ≤ mx ∧ mx ≤ 3) (hl9 : 0 ≤ lim ∧ lim ≤ 1000) (h3 : 0 ≤ I 3 ∧ I 3 ≤ 60) : mu_M (S := (Nat → Int) × (Nat → Int → Int)) l yX6_number cX6_number 7 (some .boolean) 2 [.ref (a 0), .ref (a 2), .int (iI mx), .int (iI lim)] D (mT k) (mW a k I F) (fun u => mW a k u.1 u.2) (fun r u => (nOk (F 1) n ta mx lim ∧ r = 1 ∧ u = (uI I 2 (ta + rl (F 1) n ta), uF F 2 (uA (F 2) (I 3) (nv (F 1) ta (rl (F 1) n ta).toNat)))) ∨ (¬ nOk (F 1) n ta mx lim ∧ r = 0 ∧ ∃ v : Int, u = (uI I 2 (I 2), uF F 2 (uA (F 2) (I 3) v)))) (adr 21 a) := by
  refine me_start (by decide) (Nat.le_of_ble_eq_true rfl) rfl ?_
  intro p e s m below meth c hx hb hml hr hown hlocks hnm hG hK hP ls hl
  have hown : s.vm.findClass RX6 = some m.cls := hown
  have hl : lv_has ls 7 [(0, .ref (a 0)), (1, .ref (a 2)), (2, .int (iI mx)), (3, .int (iI lim))] := hl
  have hS : va_S (adr 21 a) s.heap s.heap [] := va_S.rf
  have hn60 : 0 ≤ I 1 ∧ I 1 ≤ 60 := by rw [e1]; exact ht.1
  refine lv_aload_n hx hb dX6_number_0 rfl (lv_at hl 0 rfl) ?_
  refine va_get (D := D) (cl := vwC) (ci := 7) (v := .int (iI (I 2))) (C := RX6) (T := TX6) (N := 27) hx hb hG.use i_X6 hown hK hP 0 rfl rfl 3 (by decide) (hG.use _ lf_X6_86) (fun _ h9 => h9) rfl dX6_number_1 ?_
  refine lv_istore (lv' := [(4, .int (iI (I 2))), (0, .ref (a 0)), (1, .ref (a 2)), (2, .int (iI mx)), (3, .int (iI lim))]) hx hb dX6_number_4 hl (by decide) rfl (fun ls hl => ?_)
  refine xr_iconst hx hb dX6_number_6 ?_
  refine lv_istore (lv' := [(5, .int (iI 0)), (4, .int (iI (I 2))), (0, .ref (a 0)), (1, .ref (a 2)), (2, .int (iI mx)), (3, .int (iI lim))]) hx hb dX6_number_7 hl (by decide) rfl (fun ls hl => ?_)
  have lp_9 : ∀ (nz : Nat) (va : Int) (en : Int) (H : Heap) (locs : List Loc), (n - en).toNat < nz → (ta ≤ en ∧ en ≤ n) → (∀ j, 0 ≤ j → j < en - ta → dg (lk (F 1) n (ta + j))) → (0 ≤ va ∧ va ≤ 99999) → (en - ta ≤ 4 → va = nv (F 1) ta (en - ta).toNat) → va_P D vwC (mW a k (uI I 2 en) F) H → va_S (adr 21 a) s.heap H locs → ∀ ls : Array Slot, lv_has ls 7 [(5, .int (iI va)), (0, .ref (a 0)), (1, .ref (a 2)), (2, .int (iI mx)), (3, .int (iI lim)), (4, .int (iI (I 2)))] → W p l e (rmd 2) s m ([.ref (a 0), .ref (a 2), .int (iI mx), .int (iI lim)] : List Value).toArray below meth c H locs 0 0 (MQ below (mu_Q (S := (Nat → Int) × (Nat → Int → Int)) (fun u => mW a k u.1 u.2) D (fun r u => (nOk (F 1) n ta mx lim ∧ r = 1 ∧ u = (uI I 2 (ta + rl (F 1) n ta), uF F 2 (uA (F 2) (I 3) (nv (F 1) ta (rl (F 1) n ta).toNat)))) ∨ (¬ nOk (F 1) n ta mx lim ∧ r = 0 ∧ ∃ v : Int, u = (uI I 2 (I 2), uF F 2 (uA (F 2) (I 3) v)))) (adr 21 a)) ([.ref (a 0), .ref (a 2), .int (iI mx), .int (iI lim)] : List Value).toArray s 0 0 (adr 21 a)) (F0 m 9 ls []) := by
    clear hl
    intro nz
    induction nz with
    | zero =>
      intro va en H locs hn
      exact absurd hn (Nat.not_lt_zero _)
    | succ n_9 ih_9 =>
      intro va en H locs hn_9 i0 i1 i2 i3 hP hS ls hl
      have f_nv : en - ta ≤ 3 → va < 1000 := fun h => by
        rw [i3 (by omega)]
        exact (nv_3 (by omega) (fun j j0 j1 => dg_T (i1 j j0 (by omega)))).2
      refine lv_aload_n hx hb dX6_number_9 rfl (lv_at hl 1 rfl) ?_
      refine ro_call (g_runV (rest := []) hx hb hml hown hG hK hP mV_X6_look (c_X6_look l D a k (uI I 2 en) F n en e1 rfl ht (by omega)) lk_X6_89 (va_recv hK hP (ci := 7) (q0 := 0) rfl rfl) rfl hl.1 rfl (Nat.le_of_ble_eq_true rfl) ⟨(Nat.le_of_ble_eq_true rfl), (Nat.le_of_ble_eq_true rfl)⟩ ⟨(Nat.le_of_ble_eq_true rfl), (Nat.le_of_ble_eq_true rfl)⟩ dX6_number_10) (fun r_1 q_2 => ?_)
      have q_2 : r_1 = lk (F 1) n en := q_2
      have f_l := lk_in ht en
      rw [← q_2] at f_l
      have e_l := q_2
      refine ro_call (g_runS (rest := []) hx hb hml hown hG (hK.sub (tys' := []) [] rfl) (va_P0) mS_X6_isDigit (c_X6_isDigit l D r_1 (by omega)) lk_X6_93 rfl hl.1 rfl (Nat.le_of_ble_eq_true rfl) ⟨(Nat.le_of_ble_eq_true rfl), (Nat.le_of_ble_eq_true rfl)⟩ ⟨(Nat.le_of_ble_eq_true rfl), (Nat.le_of_ble_eq_true rfl)⟩ dX6_number_13) (fun r_3 q_4 => ?_)
      refine xr_if_eqZ (tgt := 60) hx hb q_4 dX6_number_16 (by decide) (fun c_5 => ?_) (fun c_5 => ?_)
      · skip
        -- 16 t
        have hrl : rl (F 1) n ta = en - ta := rl_run (by omega) i1 (by
          intro hd
          unfold dg at hd
          rw [show ta + (en - ta) = en by omega] at hd
          omega)
        refine lv_aload_n hx hb dX6_number_60 rfl (lv_at hl 1 rfl) ?_
        refine va_get (D := D) (cl := vwC) (ci := 7) (v := .int (iI en)) (C := RX6) (T := TX6) (N := 27) hx hb hG.use i_X6 hown hK hP 0 rfl rfl 3 (by decide) (hG.use _ lf_X6_86) (fun _ h9 => h9) rfl dX6_number_61 ?_
        refine lv_iload hx hb dX6_number_64 (lv_at hl 5 rfl) ?_
        refine xr_isub (a := en) (b := I 2) hx hb dX6_number_66 ?_
        refine lv_istore (lv' := [(6, .int (iI (en - (I 2)))), (5, .int (iI va)), (0, .ref (a 0)), (1, .ref (a 2)), (2, .int (iI mx)), (3, .int (iI lim)), (4, .int (iI (I 2)))]) hx hb dX6_number_67 hl (by decide) rfl (fun ls hl => ?_)
        refine lv_aload_n hx hb dX6_number_69 rfl (lv_at hl 3 rfl) ?_
        refine lv_aload_n hx hb dX6_number_70 rfl (lv_at hl 2 rfl) ?_
        refine va_get (D := D) (cl := vwC) (ci := 7) (v := .int (iI (I 3))) (C := RX6) (T := TX6) (N := 27) hx hb hG.use i_X6 hown hK hP 0 rfl rfl 4 (by decide) (hG.use _ lf_X6_97) (fun _ h9 => h9) rfl dX6_number_71 ?_
        refine lv_iload hx hb dX6_number_74 (lv_at hl 1 rfl) ?_
        refine xr_iast (f := F 2) (z := I 3) (v := va) hx hb hK hP (mD hdis) hS 2 1 rfl rfl (by omega) (by omega) (by decide) dX6_number_76 (fun H locs hP hS => ?_)
        have hP : va_P D vwC (mW a k (uI I 2 en) (uF F 2 (uA (F 2) (I 3) va))) H := hP
        refine lv_iload hx hb dX6_number_77 (lv_at hl 0 rfl) ?_
        refine xr_iconst hx hb dX6_number_79 ?_
        refine lv_iload_n hx hb dX6_number_80 rfl (lv_at hl 4 rfl) ?_
        refine ro_call (g_runS (rest := []) hx hb hml hown hG (hK.sub (tys' := []) [] rfl) (va_P0) mS_X6_in (c_X6_in l D (en - (I 2)) 1 mx (by omega) (by omega) (by omega)) lk_X6_79 rfl hl.1 rfl (Nat.le_of_ble_eq_true rfl) ⟨(Nat.le_of_ble_eq_true rfl), (Nat.le_of_ble_eq_true rfl)⟩ ⟨(Nat.le_of_ble_eq_true rfl), (Nat.le_of_ble_eq_true rfl)⟩ dX6_number_81) (fun r_6 q_7 => ?_)
        refine xr_if_eqZ (tgt := 95) hx hb q_7 dX6_number_84 (by decide) (fun c_8 => ?_) (fun c_8 => ?_)
        · skip
          -- 84 t
          refine lv_aload_n hx hb dX6_number_95 rfl (lv_at hl 2 rfl) ?_
          refine lv_iload hx hb dX6_number_96 (lv_at hl 6 rfl) ?_
          refine va_put (D := D) (cl := vwC) (ci := 7) (v := .int (iI (I 2))) (ty := .int) (C := RX6) (T := TX6) (N := 27) hx hb hG.use i_X6 tyX6 tyX6_ok nmX6 hown hK hP (mD hdis) hS 0 rfl rfl 3 (by decide) (hG.use _ lf_X6_86) (fun _ h9 => h9) rfl (by decide +kernel) rfl rfl (Nat.le_of_ble_eq_true rfl) dX6_number_98 (fun H locs hP _ hS => ?_)
          have hP : va_P D vwC (mW a k (uI (uI I 2 en) 2 (I 2)) (uF F 2 (uA (F 2) (I 3) va))) H := hP
          refine xr_iconst hx hb dX6_number_101 ?_
          exact W.zret (v := iI 0) hx hb hr (bz_nar (by omega)) (fun t ht9 hW => ⟨0, (uI I 2 (I 2), uF F 2 (uA (F 2) (I 3) va)), rfl, (by right; refine ⟨?_, rfl, va, rfl⟩; unfold nOk; rw [hrl]; first | omega | (rw [← i3 (by omega)]; omega)), by rw [ht9]; exact hP, hS.F ht9⟩) hS.2.2 dX6_number_102
        · skip
          -- 84 f
          have e_v := i3 (by omega)
          refine lv_iload hx hb dX6_number_87 (lv_at hl 1 rfl) ?_
          refine lv_iload_n hx hb dX6_number_89 rfl (lv_at hl 5 rfl) ?_
          refine xr_icmp_ge (a := va) (b := lim) (tgt := 95) hx hb dX6_number_90 (by decide) (fun c_9 => ?_) (fun c_9 => ?_) (by omega) (by omega)
          · skip
            -- 90 t
            refine lv_aload_n hx hb dX6_number_95 rfl (lv_at hl 2 rfl) ?_
            refine lv_iload hx hb dX6_number_96 (lv_at hl 6 rfl) ?_
            refine va_put (D := D) (cl := vwC) (ci := 7) (v := .int (iI (I 2))) (ty := .int) (C := RX6) (T := TX6) (N := 27) hx hb hG.use i_X6 tyX6 tyX6_ok nmX6 hown hK hP (mD hdis) hS 0 rfl rfl 3 (by decide) (hG.use _ lf_X6_86) (fun _ h9 => h9) rfl (by decide +kernel) rfl rfl (Nat.le_of_ble_eq_true rfl) dX6_number_98 (fun H locs hP _ hS => ?_)
            have hP : va_P D vwC (mW a k (uI (uI I 2 en) 2 (I 2)) (uF F 2 (uA (F 2) (I 3) va))) H := hP
            refine xr_iconst hx hb dX6_number_101 ?_
            exact W.zret (v := iI 0) hx hb hr (bz_nar (by omega)) (fun t ht9 hW => ⟨0, (uI I 2 (I 2), uF F 2 (uA (F 2) (I 3) va)), rfl, (by right; refine ⟨?_, rfl, va, rfl⟩; unfold nOk; rw [hrl]; first | omega | (rw [← i3 (by omega)]; omega)), by rw [ht9]; exact hP, hS.F ht9⟩) hS.2.2 dX6_number_102
          · skip
            -- 90 f
            refine xr_iconst hx hb dX6_number_93 ?_
            exact W.zret (v := iI 1) hx hb hr (bz_nar (by omega)) (fun t ht9 hW => ⟨1, (uI I 2 en, uF F 2 (uA (F 2) (I 3) va)), rfl, (by left; unfold nOk; rw [hrl, show ta + (en - ta) = en by omega, ← i3 (by omega)]; exact ⟨⟨by omega, by omega, by omega⟩, rfl, rfl⟩), by rw [ht9]; exact hP, hS.F ht9⟩) hS.2.2 dX6_number_94
      · skip
        -- 16 f
        have hlt := lk_lt (T := F 1) (n := n) (i := en) (by omega)
        refine lv_iload hx hb dX6_number_19 (lv_at hl 0 rfl) ?_
        refine xr_sipush hx hb dX6_number_21 (by decide +kernel) ?_
        refine xr_icmp_le (a := va) (b := 9999) (tgt := 32) hx hb dX6_number_24 (by decide) (fun c_10 => ?_) (fun c_10 => ?_) (by omega) (by omega)
        · skip
          -- 24 t
          refine xr_bipush hx hb dX6_number_32 (by decide +kernel) ?_
          refine lv_iload hx hb dX6_number_34 (lv_at hl 0 rfl) ?_
          refine xr_imul (a := 10) (b := va) hx hb dX6_number_36 ?_
          refine lv_aload_n hx hb dX6_number_37 rfl (lv_at hl 1 rfl) ?_
          refine ro_call (g_runV (rest := [.int (iI (10 * va))]) hx hb hml hown hG hK hP mV_X6_look (c_X6_look l D a k (uI I 2 en) F n en e1 rfl ht (by omega)) lk_X6_89 (va_recv hK hP (ci := 7) (q0 := 0) rfl rfl) rfl hl.1 rfl (Nat.le_of_ble_eq_true rfl) ⟨(Nat.le_of_ble_eq_true rfl), (Nat.le_of_ble_eq_true rfl)⟩ ⟨(Nat.le_of_ble_eq_true rfl), (Nat.le_of_ble_eq_true rfl)⟩ dX6_number_38) (fun r_11 q_12 => ?_)
          have q_12 : r_11 = lk (F 1) n en := q_12
          have f_l := lk_in ht en
          rw [← q_12] at f_l
          have e_l := q_12
          refine xr_iadd (a := 10 * va) (b := r_11) hx hb dX6_number_41 ?_
          refine xr_bipush hx hb dX6_number_42 (by decide +kernel) ?_
          refine xr_isub (a := (10 * va) + r_11) (b := 48) hx hb dX6_number_44 ?_
          refine lv_istore (lv' := [(5, .int (iI (((10 * va) + r_11) - 48))), (0, .ref (a 0)), (1, .ref (a 2)), (2, .int (iI mx)), (3, .int (iI lim)), (4, .int (iI (I 2)))]) hx hb dX6_number_45 hl (by decide) rfl (fun ls hl => ?_)
          refine lv_aload_n hx hb dX6_number_47 rfl (lv_at hl 1 rfl) ?_
          refine lv_dup hx hb dX6_number_48 rfl ?_
          refine va_get (D := D) (cl := vwC) (ci := 7) (v := .int (iI en)) (C := RX6) (T := TX6) (N := 27) hx hb hG.use i_X6 hown hK hP 0 rfl rfl 3 (by decide) (hG.use _ lf_X6_86) (fun _ h9 => h9) rfl dX6_number_49 ?_
          refine xr_iconst hx hb dX6_number_52 ?_
          refine xr_iadd (a := en) (b := 1) hx hb dX6_number_53 ?_
          refine va_put (D := D) (cl := vwC) (ci := 7) (v := .int (iI (en + 1))) (ty := .int) (C := RX6) (T := TX6) (N := 27) hx hb hG.use i_X6 tyX6 tyX6_ok nmX6 hown hK hP (mD hdis) hS 0 rfl rfl 3 (by decide) (hG.use _ lf_X6_86) (fun _ h9 => h9) rfl (by decide +kernel) rfl rfl (Nat.le_of_ble_eq_true rfl) dX6_number_54 (fun H locs hP _ hS => ?_)
          have hP : va_P D vwC (mW a k (uI (uI I 2 en) 2 (en + 1)) F) H := hP
          refine lv_goto (tgt := 9) hx hb dX6_number_57 (by decide) ?_
          exact ih_9 (((10 * va) + r_11) - 48) (en + 1) _ _ (by omega) (by omega) (by intro j j0 j1; by_cases h : j = en - ta; (rw [h, show ta + (en - ta) = en by omega]; unfold dg; omega); exact i1 j j0 (by omega)) (by omega) (by intro h5; have f9 := f_nv (by omega); first | (exfalso; omega) | (have e_T : lk (F 1) n en = F 1 en := if_pos ⟨by omega, by omega⟩; rw [show (en + 1 - ta).toNat = (en - ta).toNat + 1 by omega]; show _ = nv (F 1) ta (en - ta).toNat * 10 + F 1 (ta + (((en - ta).toNat : Nat) : Int)) - 48; rw [show ta + (((en - ta).toNat : Nat) : Int) = en by omega, ← i3 (by omega)]; omega)) hP hS ls (lv_sub hl [0, 1, 2, 3, 4, 5] rfl)
        · skip
          -- 24 f
          refine lv_iload hx hb dX6_number_27 (lv_at hl 0 rfl) ?_
          refine lv_goto (tgt := 45) hx hb dX6_number_29 (by decide) ?_
          refine lv_istore (lv' := [(5, .int (iI va)), (0, .ref (a 0)), (1, .ref (a 2)), (2, .int (iI mx)), (3, .int (iI lim)), (4, .int (iI (I 2)))]) hx hb dX6_number_45 hl (by decide) rfl (fun ls hl => ?_)
          refine lv_aload_n hx hb dX6_number_47 rfl (lv_at hl 1 rfl) ?_
          refine lv_dup hx hb dX6_number_48 rfl ?_
          refine va_get (D := D) (cl := vwC) (ci := 7) (v := .int (iI en)) (C := RX6) (T := TX6) (N := 27) hx hb hG.use i_X6 hown hK hP 0 rfl rfl 3 (by decide) (hG.use _ lf_X6_86) (fun _ h9 => h9) rfl dX6_number_49 ?_
          refine xr_iconst hx hb dX6_number_52 ?_
          refine xr_iadd (a := en) (b := 1) hx hb dX6_number_53 ?_
          refine va_put (D := D) (cl := vwC) (ci := 7) (v := .int (iI (en + 1))) (ty := .int) (C := RX6) (T := TX6) (N := 27) hx hb hG.use i_X6 tyX6 tyX6_ok nmX6 hown hK hP (mD hdis) hS 0 rfl rfl 3 (by decide) (hG.use _ lf_X6_86) (fun _ h9 => h9) rfl (by decide +kernel) rfl rfl (Nat.le_of_ble_eq_true rfl) dX6_number_54 (fun H locs hP _ hS => ?_)
          have hP : va_P D vwC (mW a k (uI (uI I 2 en) 2 (en + 1)) F) H := hP
          refine lv_goto (tgt := 9) hx hb dX6_number_57 (by decide) ?_
          exact ih_9 va (en + 1) _ _ (by omega) (by omega) (by intro j j0 j1; by_cases h : j = en - ta; (rw [h, show ta + (en - ta) = en by omega]; unfold dg; omega); exact i1 j j0 (by omega)) (by omega) (by intro h5; have f9 := f_nv (by omega); first | (exfalso; omega) | (have e_T : lk (F 1) n en = F 1 en := if_pos ⟨by omega, by omega⟩; rw [show (en + 1 - ta).toNat = (en - ta).toNat + 1 by omega]; show _ = nv (F 1) ta (en - ta).toNat * 10 + F 1 (ta + (((en - ta).toNat : Nat) : Int)) - 48; rw [show ta + (((en - ta).toNat : Nat) : Int) = en by omega, ← i3 (by omega)]; omega)) hP hS ls (lv_sub hl [0, 1, 2, 3, 4, 5] rfl)
  exact lp_9 _ 0 (I 2) _ _ (Nat.lt_succ_self _) (by omega) (by intro j j0 j1; omega) (by omega) (by intro _; rw [e2, show ta - ta = 0 by omega]; rfl) hP hS ls (lv_sub hl [0, 2, 3, 4, 5, 1] rfl)
set_option maxHeartbeats 4000000 in
set_option maxRecDepth 100000 in
theorem c_X6_number3 (l : Launch) (D : va_G) (a : Nat → Nat) (k : Nat → ClassId) (I : Nat → Int) (F : Nat → Int → Int) (hdis : dis 21 a) (mx lim n ta : Int) (e1 : I 1 = n) (e2 : I 2 = ta) (ht : txt (F 1) n) (ha : 0 ≤ ta ∧ ta ≤ n) (hm : 1 ≤ mx ∧ mx ≤ 3) (hl9 : 0 ≤ lim ∧ lim ≤ 1000) (h3 : 0 ≤ I 3 ∧ I 3 ≤ 60) : mu_M (S := (Nat → Int) × (Nat → Int → Int)) l yX6_number cX6_number 7 (some .boolean) 2 [.ref (a 0), .ref (a 3), .int (iI mx), .int (iI lim)] D (mT k) (mW a k I F) (fun u => mW a k u.1 u.2) (fun r u => (nOk (F 1) n ta mx lim ∧ r = 1 ∧ u = (uI I 2 (ta + rl (F 1) n ta), uF F 3 (uA (F 3) (I 3) (nv (F 1) ta (rl (F 1) n ta).toNat)))) ∨ (¬ nOk (F 1) n ta mx lim ∧ r = 0 ∧ ∃ v : Int, u = (uI I 2 (I 2), uF F 3 (uA (F 3) (I 3) v)))) (adr 21 a) := by
  refine me_start (by decide) (Nat.le_of_ble_eq_true rfl) rfl ?_
  intro p e s m below meth c hx hb hml hr hown hlocks hnm hG hK hP ls hl
  have hown : s.vm.findClass RX6 = some m.cls := hown
  have hl : lv_has ls 7 [(0, .ref (a 0)), (1, .ref (a 3)), (2, .int (iI mx)), (3, .int (iI lim))] := hl
  have hS : va_S (adr 21 a) s.heap s.heap [] := va_S.rf
  have hn60 : 0 ≤ I 1 ∧ I 1 ≤ 60 := by rw [e1]; exact ht.1
  refine lv_aload_n hx hb dX6_number_0 rfl (lv_at hl 0 rfl) ?_
  refine va_get (D := D) (cl := vwC) (ci := 7) (v := .int (iI (I 2))) (C := RX6) (T := TX6) (N := 27) hx hb hG.use i_X6 hown hK hP 0 rfl rfl 3 (by decide) (hG.use _ lf_X6_86) (fun _ h9 => h9) rfl dX6_number_1 ?_
  refine lv_istore (lv' := [(4, .int (iI (I 2))), (0, .ref (a 0)), (1, .ref (a 3)), (2, .int (iI mx)), (3, .int (iI lim))]) hx hb dX6_number_4 hl (by decide) rfl (fun ls hl => ?_)
  refine xr_iconst hx hb dX6_number_6 ?_
  refine lv_istore (lv' := [(5, .int (iI 0)), (4, .int (iI (I 2))), (0, .ref (a 0)), (1, .ref (a 3)), (2, .int (iI mx)), (3, .int (iI lim))]) hx hb dX6_number_7 hl (by decide) rfl (fun ls hl => ?_)
  have lp_9 : ∀ (nz : Nat) (va : Int) (en : Int) (H : Heap) (locs : List Loc), (n - en).toNat < nz → (ta ≤ en ∧ en ≤ n) → (∀ j, 0 ≤ j → j < en - ta → dg (lk (F 1) n (ta + j))) → (0 ≤ va ∧ va ≤ 99999) → (en - ta ≤ 4 → va = nv (F 1) ta (en - ta).toNat) → va_P D vwC (mW a k (uI I 2 en) F) H → va_S (adr 21 a) s.heap H locs → ∀ ls : Array Slot, lv_has ls 7 [(5, .int (iI va)), (0, .ref (a 0)), (1, .ref (a 3)), (2, .int (iI mx)), (3, .int (iI lim)), (4, .int (iI (I 2)))] → W p l e (rmd 2) s m ([.ref (a 0), .ref (a 3), .int (iI mx), .int (iI lim)] : List Value).toArray below meth c H locs 0 0 (MQ below (mu_Q (S := (Nat → Int) × (Nat → Int → Int)) (fun u => mW a k u.1 u.2) D (fun r u => (nOk (F 1) n ta mx lim ∧ r = 1 ∧ u = (uI I 2 (ta + rl (F 1) n ta), uF F 3 (uA (F 3) (I 3) (nv (F 1) ta (rl (F 1) n ta).toNat)))) ∨ (¬ nOk (F 1) n ta mx lim ∧ r = 0 ∧ ∃ v : Int, u = (uI I 2 (I 2), uF F 3 (uA (F 3) (I 3) v)))) (adr 21 a)) ([.ref (a 0), .ref (a 3), .int (iI mx), .int (iI lim)] : List Value).toArray s 0 0 (adr 21 a)) (F0 m 9 ls []) := by
    clear hl
    intro nz
    induction nz with
    | zero =>
      intro va en H locs hn
      exact absurd hn (Nat.not_lt_zero _)
    | succ n_9 ih_9 =>
      intro va en H locs hn_9 i0 i1 i2 i3 hP hS ls hl
      have f_nv : en - ta ≤ 3 → va < 1000 := fun h => by
        rw [i3 (by omega)]
        exact (nv_3 (by omega) (fun j j0 j1 => dg_T (i1 j j0 (by omega)))).2
      refine lv_aload_n hx hb dX6_number_9 rfl (lv_at hl 1 rfl) ?_
      refine ro_call (g_runV (rest := []) hx hb hml hown hG hK hP mV_X6_look (c_X6_look l D a k (uI I 2 en) F n en e1 rfl ht (by omega)) lk_X6_89 (va_recv hK hP (ci := 7) (q0 := 0) rfl rfl) rfl hl.1 rfl (Nat.le_of_ble_eq_true rfl) ⟨(Nat.le_of_ble_eq_true rfl), (Nat.le_of_ble_eq_true rfl)⟩ ⟨(Nat.le_of_ble_eq_true rfl), (Nat.le_of_ble_eq_true rfl)⟩ dX6_number_10) (fun r_1 q_2 => ?_)
      have q_2 : r_1 = lk (F 1) n en := q_2
      have f_l := lk_in ht en
      rw [← q_2] at f_l
      have e_l := q_2
      refine ro_call (g_runS (rest := []) hx hb hml hown hG (hK.sub (tys' := []) [] rfl) (va_P0) mS_X6_isDigit (c_X6_isDigit l D r_1 (by omega)) lk_X6_93 rfl hl.1 rfl (Nat.le_of_ble_eq_true rfl) ⟨(Nat.le_of_ble_eq_true rfl), (Nat.le_of_ble_eq_true rfl)⟩ ⟨(Nat.le_of_ble_eq_true rfl), (Nat.le_of_ble_eq_true rfl)⟩ dX6_number_13) (fun r_3 q_4 => ?_)
      refine xr_if_eqZ (tgt := 60) hx hb q_4 dX6_number_16 (by decide) (fun c_5 => ?_) (fun c_5 => ?_)
      · skip
        -- 16 t
        have hrl : rl (F 1) n ta = en - ta := rl_run (by omega) i1 (by
          intro hd
          unfold dg at hd
          rw [show ta + (en - ta) = en by omega] at hd
          omega)
        refine lv_aload_n hx hb dX6_number_60 rfl (lv_at hl 1 rfl) ?_
        refine va_get (D := D) (cl := vwC) (ci := 7) (v := .int (iI en)) (C := RX6) (T := TX6) (N := 27) hx hb hG.use i_X6 hown hK hP 0 rfl rfl 3 (by decide) (hG.use _ lf_X6_86) (fun _ h9 => h9) rfl dX6_number_61 ?_
        refine lv_iload hx hb dX6_number_64 (lv_at hl 5 rfl) ?_
        refine xr_isub (a := en) (b := I 2) hx hb dX6_number_66 ?_
        refine lv_istore (lv' := [(6, .int (iI (en - (I 2)))), (5, .int (iI va)), (0, .ref (a 0)), (1, .ref (a 3)), (2, .int (iI mx)), (3, .int (iI lim)), (4, .int (iI (I 2)))]) hx hb dX6_number_67 hl (by decide) rfl (fun ls hl => ?_)
        refine lv_aload_n hx hb dX6_number_69 rfl (lv_at hl 3 rfl) ?_
        refine lv_aload_n hx hb dX6_number_70 rfl (lv_at hl 2 rfl) ?_
        refine va_get (D := D) (cl := vwC) (ci := 7) (v := .int (iI (I 3))) (C := RX6) (T := TX6) (N := 27) hx hb hG.use i_X6 hown hK hP 0 rfl rfl 4 (by decide) (hG.use _ lf_X6_97) (fun _ h9 => h9) rfl dX6_number_71 ?_
        refine lv_iload hx hb dX6_number_74 (lv_at hl 1 rfl) ?_
        refine xr_iast (f := F 3) (z := I 3) (v := va) hx hb hK hP (mD hdis) hS 3 2 rfl rfl (by omega) (by omega) (by decide) dX6_number_76 (fun H locs hP hS => ?_)
        have hP : va_P D vwC (mW a k (uI I 2 en) (uF F 3 (uA (F 3) (I 3) va))) H := hP
        refine lv_iload hx hb dX6_number_77 (lv_at hl 0 rfl) ?_
        refine xr_iconst hx hb dX6_number_79 ?_
        refine lv_iload_n hx hb dX6_number_80 rfl (lv_at hl 4 rfl) ?_
        refine ro_call (g_runS (rest := []) hx hb hml hown hG (hK.sub (tys' := []) [] rfl) (va_P0) mS_X6_in (c_X6_in l D (en - (I 2)) 1 mx (by omega) (by omega) (by omega)) lk_X6_79 rfl hl.1 rfl (Nat.le_of_ble_eq_true rfl) ⟨(Nat.le_of_ble_eq_true rfl), (Nat.le_of_ble_eq_true rfl)⟩ ⟨(Nat.le_of_ble_eq_true rfl), (Nat.le_of_ble_eq_true rfl)⟩ dX6_number_81) (fun r_6 q_7 => ?_)
        refine xr_if_eqZ (tgt := 95) hx hb q_7 dX6_number_84 (by decide) (fun c_8 => ?_) (fun c_8 => ?_)
        · skip
          -- 84 t
          refine lv_aload_n hx hb dX6_number_95 rfl (lv_at hl 2 rfl) ?_
          refine lv_iload hx hb dX6_number_96 (lv_at hl 6 rfl) ?_
          refine va_put (D := D) (cl := vwC) (ci := 7) (v := .int (iI (I 2))) (ty := .int) (C := RX6) (T := TX6) (N := 27) hx hb hG.use i_X6 tyX6 tyX6_ok nmX6 hown hK hP (mD hdis) hS 0 rfl rfl 3 (by decide) (hG.use _ lf_X6_86) (fun _ h9 => h9) rfl (by decide +kernel) rfl rfl (Nat.le_of_ble_eq_true rfl) dX6_number_98 (fun H locs hP _ hS => ?_)
          have hP : va_P D vwC (mW a k (uI (uI I 2 en) 2 (I 2)) (uF F 3 (uA (F 3) (I 3) va))) H := hP
          refine xr_iconst hx hb dX6_number_101 ?_
          exact W.zret (v := iI 0) hx hb hr (bz_nar (by omega)) (fun t ht9 hW => ⟨0, (uI I 2 (I 2), uF F 3 (uA (F 3) (I 3) va)), rfl, (by right; refine ⟨?_, rfl, va, rfl⟩; unfold nOk; rw [hrl]; first | omega | (rw [← i3 (by omega)]; omega)), by rw [ht9]; exact hP, hS.F ht9⟩) hS.2.2 dX6_number_102
        · skip
          -- 84 f
          have e_v := i3 (by omega)
          refine lv_iload hx hb dX6_number_87 (lv_at hl 1 rfl) ?_
          refine lv_iload_n hx hb dX6_number_89 rfl (lv_at hl 5 rfl) ?_
          refine xr_icmp_ge (a := va) (b := lim) (tgt := 95) hx hb dX6_number_90 (by decide) (fun c_9 => ?_) (fun c_9 => ?_) (by omega) (by omega)
          · skip
            -- 90 t
            refine lv_aload_n hx hb dX6_number_95 rfl (lv_at hl 2 rfl) ?_
            refine lv_iload hx hb dX6_number_96 (lv_at hl 6 rfl) ?_
            refine va_put (D := D) (cl := vwC) (ci := 7) (v := .int (iI (I 2))) (ty := .int) (C := RX6) (T := TX6) (N := 27) hx hb hG.use i_X6 tyX6 tyX6_ok nmX6 hown hK hP (mD hdis) hS 0 rfl rfl 3 (by decide) (hG.use _ lf_X6_86) (fun _ h9 => h9) rfl (by decide +kernel) rfl rfl (Nat.le_of_ble_eq_true rfl) dX6_number_98 (fun H locs hP _ hS => ?_)
            have hP : va_P D vwC (mW a k (uI (uI I 2 en) 2 (I 2)) (uF F 3 (uA (F 3) (I 3) va))) H := hP
            refine xr_iconst hx hb dX6_number_101 ?_
            exact W.zret (v := iI 0) hx hb hr (bz_nar (by omega)) (fun t ht9 hW => ⟨0, (uI I 2 (I 2), uF F 3 (uA (F 3) (I 3) va)), rfl, (by right; refine ⟨?_, rfl, va, rfl⟩; unfold nOk; rw [hrl]; first | omega | (rw [← i3 (by omega)]; omega)), by rw [ht9]; exact hP, hS.F ht9⟩) hS.2.2 dX6_number_102
          · skip
            -- 90 f
            refine xr_iconst hx hb dX6_number_93 ?_
            exact W.zret (v := iI 1) hx hb hr (bz_nar (by omega)) (fun t ht9 hW => ⟨1, (uI I 2 en, uF F 3 (uA (F 3) (I 3) va)), rfl, (by left; unfold nOk; rw [hrl, show ta + (en - ta) = en by omega, ← i3 (by omega)]; exact ⟨⟨by omega, by omega, by omega⟩, rfl, rfl⟩), by rw [ht9]; exact hP, hS.F ht9⟩) hS.2.2 dX6_number_94
      · skip
        -- 16 f
        have hlt := lk_lt (T := F 1) (n := n) (i := en) (by omega)
        refine lv_iload hx hb dX6_number_19 (lv_at hl 0 rfl) ?_
        refine xr_sipush hx hb dX6_number_21 (by decide +kernel) ?_
        refine xr_icmp_le (a := va) (b := 9999) (tgt := 32) hx hb dX6_number_24 (by decide) (fun c_10 => ?_) (fun c_10 => ?_) (by omega) (by omega)
        · skip
          -- 24 t
          refine xr_bipush hx hb dX6_number_32 (by decide +kernel) ?_
          refine lv_iload hx hb dX6_number_34 (lv_at hl 0 rfl) ?_
          refine xr_imul (a := 10) (b := va) hx hb dX6_number_36 ?_
          refine lv_aload_n hx hb dX6_number_37 rfl (lv_at hl 1 rfl) ?_
          refine ro_call (g_runV (rest := [.int (iI (10 * va))]) hx hb hml hown hG hK hP mV_X6_look (c_X6_look l D a k (uI I 2 en) F n en e1 rfl ht (by omega)) lk_X6_89 (va_recv hK hP (ci := 7) (q0 := 0) rfl rfl) rfl hl.1 rfl (Nat.le_of_ble_eq_true rfl) ⟨(Nat.le_of_ble_eq_true rfl), (Nat.le_of_ble_eq_true rfl)⟩ ⟨(Nat.le_of_ble_eq_true rfl), (Nat.le_of_ble_eq_true rfl)⟩ dX6_number_38) (fun r_11 q_12 => ?_)
          have q_12 : r_11 = lk (F 1) n en := q_12
          have f_l := lk_in ht en
          rw [← q_12] at f_l
          have e_l := q_12
          refine xr_iadd (a := 10 * va) (b := r_11) hx hb dX6_number_41 ?_
          refine xr_bipush hx hb dX6_number_42 (by decide +kernel) ?_
          refine xr_isub (a := (10 * va) + r_11) (b := 48) hx hb dX6_number_44 ?_
          refine lv_istore (lv' := [(5, .int (iI (((10 * va) + r_11) - 48))), (0, .ref (a 0)), (1, .ref (a 3)), (2, .int (iI mx)), (3, .int (iI lim)), (4, .int (iI (I 2)))]) hx hb dX6_number_45 hl (by decide) rfl (fun ls hl => ?_)
          refine lv_aload_n hx hb dX6_number_47 rfl (lv_at hl 1 rfl) ?_
          refine lv_dup hx hb dX6_number_48 rfl ?_
          refine va_get (D := D) (cl := vwC) (ci := 7) (v := .int (iI en)) (C := RX6) (T := TX6) (N := 27) hx hb hG.use i_X6 hown hK hP 0 rfl rfl 3 (by decide) (hG.use _ lf_X6_86) (fun _ h9 => h9) rfl dX6_number_49 ?_
          refine xr_iconst hx hb dX6_number_52 ?_
          refine xr_iadd (a := en) (b := 1) hx hb dX6_number_53 ?_
          refine va_put (D := D) (cl := vwC) (ci := 7) (v := .int (iI (en + 1))) (ty := .int) (C := RX6) (T := TX6) (N := 27) hx hb hG.use i_X6 tyX6 tyX6_ok nmX6 hown hK hP (mD hdis) hS 0 rfl rfl 3 (by decide) (hG.use _ lf_X6_86) (fun _ h9 => h9) rfl (by decide +kernel) rfl rfl (Nat.le_of_ble_eq_true rfl) dX6_number_54 (fun H locs hP _ hS => ?_)
          have hP : va_P D vwC (mW a k (uI (uI I 2 en) 2 (en + 1)) F) H := hP
          refine lv_goto (tgt := 9) hx hb dX6_number_57 (by decide) ?_
          exact ih_9 (((10 * va) + r_11) - 48) (en + 1) _ _ (by omega) (by omega) (by intro j j0 j1; by_cases h : j = en - ta; (rw [h, show ta + (en - ta) = en by omega]; unfold dg; omega); exact i1 j j0 (by omega)) (by omega) (by intro h5; have f9 := f_nv (by omega); first | (exfalso; omega) | (have e_T : lk (F 1) n en = F 1 en := if_pos ⟨by omega, by omega⟩; rw [show (en + 1 - ta).toNat = (en - ta).toNat + 1 by omega]; show _ = nv (F 1) ta (en - ta).toNat * 10 + F 1 (ta + (((en - ta).toNat : Nat) : Int)) - 48; rw [show ta + (((en - ta).toNat : Nat) : Int) = en by omega, ← i3 (by omega)]; omega)) hP hS ls (lv_sub hl [0, 1, 2, 3, 4, 5] rfl)
        · skip
          -- 24 f
          refine lv_iload hx hb dX6_number_27 (lv_at hl 0 rfl) ?_
          refine lv_goto (tgt := 45) hx hb dX6_number_29 (by decide) ?_
          refine lv_istore (lv' := [(5, .int (iI va)), (0, .ref (a 0)), (1, .ref (a 3)), (2, .int (iI mx)), (3, .int (iI lim)), (4, .int (iI (I 2)))]) hx hb dX6_number_45 hl (by decide) rfl (fun ls hl => ?_)
          refine lv_aload_n hx hb dX6_number_47 rfl (lv_at hl 1 rfl) ?_
          refine lv_dup hx hb dX6_number_48 rfl ?_
          refine va_get (D := D) (cl := vwC) (ci := 7) (v := .int (iI en)) (C := RX6) (T := TX6) (N := 27) hx hb hG.use i_X6 hown hK hP 0 rfl rfl 3 (by decide) (hG.use _ lf_X6_86) (fun _ h9 => h9) rfl dX6_number_49 ?_
          refine xr_iconst hx hb dX6_number_52 ?_
          refine xr_iadd (a := en) (b := 1) hx hb dX6_number_53 ?_
          refine va_put (D := D) (cl := vwC) (ci := 7) (v := .int (iI (en + 1))) (ty := .int) (C := RX6) (T := TX6) (N := 27) hx hb hG.use i_X6 tyX6 tyX6_ok nmX6 hown hK hP (mD hdis) hS 0 rfl rfl 3 (by decide) (hG.use _ lf_X6_86) (fun _ h9 => h9) rfl (by decide +kernel) rfl rfl (Nat.le_of_ble_eq_true rfl) dX6_number_54 (fun H locs hP _ hS => ?_)
          have hP : va_P D vwC (mW a k (uI (uI I 2 en) 2 (en + 1)) F) H := hP
          refine lv_goto (tgt := 9) hx hb dX6_number_57 (by decide) ?_
          exact ih_9 va (en + 1) _ _ (by omega) (by omega) (by intro j j0 j1; by_cases h : j = en - ta; (rw [h, show ta + (en - ta) = en by omega]; unfold dg; omega); exact i1 j j0 (by omega)) (by omega) (by intro h5; have f9 := f_nv (by omega); first | (exfalso; omega) | (have e_T : lk (F 1) n en = F 1 en := if_pos ⟨by omega, by omega⟩; rw [show (en + 1 - ta).toNat = (en - ta).toNat + 1 by omega]; show _ = nv (F 1) ta (en - ta).toNat * 10 + F 1 (ta + (((en - ta).toNat : Nat) : Int)) - 48; rw [show ta + (((en - ta).toNat : Nat) : Int) = en by omega, ← i3 (by omega)]; omega)) hP hS ls (lv_sub hl [0, 1, 2, 3, 4, 5] rfl)
  exact lp_9 _ 0 (I 2) _ _ (Nat.lt_succ_self _) (by omega) (by intro j j0 j1; omega) (by omega) (by intro _; rw [e2, show ta - ta = 0 by omega]; rfl) hP hS ls (lv_sub hl [0, 2, 3, 4, 5, 1] rfl)
set_option maxHeartbeats 4000000 in
set_option maxRecDepth 100000 in
theorem c_X6_number4 (l : Launch) (D : va_G) (a : Nat → Nat) (k : Nat → ClassId) (I : Nat → Int) (F : Nat → Int → Int) (hdis : dis 21 a) (mx lim n ta : Int) (e1 : I 1 = n) (e2 : I 2 = ta) (ht : txt (F 1) n) (ha : 0 ≤ ta ∧ ta ≤ n) (hm : 1 ≤ mx ∧ mx ≤ 3) (hl9 : 0 ≤ lim ∧ lim ≤ 1000) (h3 : 0 ≤ I 3 ∧ I 3 ≤ 60) : mu_M (S := (Nat → Int) × (Nat → Int → Int)) l yX6_number cX6_number 7 (some .boolean) 2 [.ref (a 0), .ref (a 4), .int (iI mx), .int (iI lim)] D (mT k) (mW a k I F) (fun u => mW a k u.1 u.2) (fun r u => (nOk (F 1) n ta mx lim ∧ r = 1 ∧ u = (uI I 2 (ta + rl (F 1) n ta), uF F 4 (uA (F 4) (I 3) (nv (F 1) ta (rl (F 1) n ta).toNat)))) ∨ (¬ nOk (F 1) n ta mx lim ∧ r = 0 ∧ ∃ v : Int, u = (uI I 2 (I 2), uF F 4 (uA (F 4) (I 3) v)))) (adr 21 a) := by
  refine me_start (by decide) (Nat.le_of_ble_eq_true rfl) rfl ?_
  intro p e s m below meth c hx hb hml hr hown hlocks hnm hG hK hP ls hl
  have hown : s.vm.findClass RX6 = some m.cls := hown
  have hl : lv_has ls 7 [(0, .ref (a 0)), (1, .ref (a 4)), (2, .int (iI mx)), (3, .int (iI lim))] := hl
  have hS : va_S (adr 21 a) s.heap s.heap [] := va_S.rf
  have hn60 : 0 ≤ I 1 ∧ I 1 ≤ 60 := by rw [e1]; exact ht.1
  refine lv_aload_n hx hb dX6_number_0 rfl (lv_at hl 0 rfl) ?_
  refine va_get (D := D) (cl := vwC) (ci := 7) (v := .int (iI (I 2))) (C := RX6) (T := TX6) (N := 27) hx hb hG.use i_X6 hown hK hP 0 rfl rfl 3 (by decide) (hG.use _ lf_X6_86) (fun _ h9 => h9) rfl dX6_number_1 ?_
  refine lv_istore (lv' := [(4, .int (iI (I 2))), (0, .ref (a 0)), (1, .ref (a 4)), (2, .int (iI mx)), (3, .int (iI lim))]) hx hb dX6_number_4 hl (by decide) rfl (fun ls hl => ?_)
  refine xr_iconst hx hb dX6_number_6 ?_
  refine lv_istore (lv' := [(5, .int (iI 0)), (4, .int (iI (I 2))), (0, .ref (a 0)), (1, .ref (a 4)), (2, .int (iI mx)), (3, .int (iI lim))]) hx hb dX6_number_7 hl (by decide) rfl (fun ls hl => ?_)
  have lp_9 : ∀ (nz : Nat) (va : Int) (en : Int) (H : Heap) (locs : List Loc), (n - en).toNat < nz → (ta ≤ en ∧ en ≤ n) → (∀ j, 0 ≤ j → j < en - ta → dg (lk (F 1) n (ta + j))) → (0 ≤ va ∧ va ≤ 99999) → (en - ta ≤ 4 → va = nv (F 1) ta (en - ta).toNat) → va_P D vwC (mW a k (uI I 2 en) F) H → va_S (adr 21 a) s.heap H locs → ∀ ls : Array Slot, lv_has ls 7 [(5, .int (iI va)), (0, .ref (a 0)), (1, .ref (a 4)), (2, .int (iI mx)), (3, .int (iI lim)), (4, .int (iI (I 2)))] → W p l e (rmd 2) s m ([.ref (a 0), .ref (a 4), .int (iI mx), .int (iI lim)] : List Value).toArray below meth c H locs 0 0 (MQ below (mu_Q (S := (Nat → Int) × (Nat → Int → Int)) (fun u => mW a k u.1 u.2) D (fun r u => (nOk (F 1) n ta mx lim ∧ r = 1 ∧ u = (uI I 2 (ta + rl (F 1) n ta), uF F 4 (uA (F 4) (I 3) (nv (F 1) ta (rl (F 1) n ta).toNat)))) ∨ (¬ nOk (F 1) n ta mx lim ∧ r = 0 ∧ ∃ v : Int, u = (uI I 2 (I 2), uF F 4 (uA (F 4) (I 3) v)))) (adr 21 a)) ([.ref (a 0), .ref (a 4), .int (iI mx), .int (iI lim)] : List Value).toArray s 0 0 (adr 21 a)) (F0 m 9 ls []) := by
    clear hl
    intro nz
    induction nz with
    | zero =>
      intro va en H locs hn
      exact absurd hn (Nat.not_lt_zero _)
    | succ n_9 ih_9 =>
      intro va en H locs hn_9 i0 i1 i2 i3 hP hS ls hl
      have f_nv : en - ta ≤ 3 → va < 1000 := fun h => by
        rw [i3 (by omega)]
        exact (nv_3 (by omega) (fun j j0 j1 => dg_T (i1 j j0 (by omega)))).2
      refine lv_aload_n hx hb dX6_number_9 rfl (lv_at hl 1 rfl) ?_
      refine ro_call (g_runV (rest := []) hx hb hml hown hG hK hP mV_X6_look (c_X6_look l D a k (uI I 2 en) F n en e1 rfl ht (by omega)) lk_X6_89 (va_recv hK hP (ci := 7) (q0 := 0) rfl rfl) rfl hl.1 rfl (Nat.le_of_ble_eq_true rfl) ⟨(Nat.le_of_ble_eq_true rfl), (Nat.le_of_ble_eq_true rfl)⟩ ⟨(Nat.le_of_ble_eq_true rfl), (Nat.le_of_ble_eq_true rfl)⟩ dX6_number_10) (fun r_1 q_2 => ?_)
      have q_2 : r_1 = lk (F 1) n en := q_2
      have f_l := lk_in ht en
      rw [← q_2] at f_l
      have e_l := q_2
      refine ro_call (g_runS (rest := []) hx hb hml hown hG (hK.sub (tys' := []) [] rfl) (va_P0) mS_X6_isDigit (c_X6_isDigit l D r_1 (by omega)) lk_X6_93 rfl hl.1 rfl (Nat.le_of_ble_eq_true rfl) ⟨(Nat.le_of_ble_eq_true rfl), (Nat.le_of_ble_eq_true rfl)⟩ ⟨(Nat.le_of_ble_eq_true rfl), (Nat.le_of_ble_eq_true rfl)⟩ dX6_number_13) (fun r_3 q_4 => ?_)
      refine xr_if_eqZ (tgt := 60) hx hb q_4 dX6_number_16 (by decide) (fun c_5 => ?_) (fun c_5 => ?_)
      · skip
        -- 16 t
        have hrl : rl (F 1) n ta = en - ta := rl_run (by omega) i1 (by
          intro hd
          unfold dg at hd
          rw [show ta + (en - ta) = en by omega] at hd
          omega)
        refine lv_aload_n hx hb dX6_number_60 rfl (lv_at hl 1 rfl) ?_
        refine va_get (D := D) (cl := vwC) (ci := 7) (v := .int (iI en)) (C := RX6) (T := TX6) (N := 27) hx hb hG.use i_X6 hown hK hP 0 rfl rfl 3 (by decide) (hG.use _ lf_X6_86) (fun _ h9 => h9) rfl dX6_number_61 ?_
        refine lv_iload hx hb dX6_number_64 (lv_at hl 5 rfl) ?_
        refine xr_isub (a := en) (b := I 2) hx hb dX6_number_66 ?_
        refine lv_istore (lv' := [(6, .int (iI (en - (I 2)))), (5, .int (iI va)), (0, .ref (a 0)), (1, .ref (a 4)), (2, .int (iI mx)), (3, .int (iI lim)), (4, .int (iI (I 2)))]) hx hb dX6_number_67 hl (by decide) rfl (fun ls hl => ?_)
        refine lv_aload_n hx hb dX6_number_69 rfl (lv_at hl 3 rfl) ?_
        refine lv_aload_n hx hb dX6_number_70 rfl (lv_at hl 2 rfl) ?_
        refine va_get (D := D) (cl := vwC) (ci := 7) (v := .int (iI (I 3))) (C := RX6) (T := TX6) (N := 27) hx hb hG.use i_X6 hown hK hP 0 rfl rfl 4 (by decide) (hG.use _ lf_X6_97) (fun _ h9 => h9) rfl dX6_number_71 ?_
        refine lv_iload hx hb dX6_number_74 (lv_at hl 1 rfl) ?_
        refine xr_iast (f := F 4) (z := I 3) (v := va) hx hb hK hP (mD hdis) hS 4 3 rfl rfl (by omega) (by omega) (by decide) dX6_number_76 (fun H locs hP hS => ?_)
        have hP : va_P D vwC (mW a k (uI I 2 en) (uF F 4 (uA (F 4) (I 3) va))) H := hP
        refine lv_iload hx hb dX6_number_77 (lv_at hl 0 rfl) ?_
        refine xr_iconst hx hb dX6_number_79 ?_
        refine lv_iload_n hx hb dX6_number_80 rfl (lv_at hl 4 rfl) ?_
        refine ro_call (g_runS (rest := []) hx hb hml hown hG (hK.sub (tys' := []) [] rfl) (va_P0) mS_X6_in (c_X6_in l D (en - (I 2)) 1 mx (by omega) (by omega) (by omega)) lk_X6_79 rfl hl.1 rfl (Nat.le_of_ble_eq_true rfl) ⟨(Nat.le_of_ble_eq_true rfl), (Nat.le_of_ble_eq_true rfl)⟩ ⟨(Nat.le_of_ble_eq_true rfl), (Nat.le_of_ble_eq_true rfl)⟩ dX6_number_81) (fun r_6 q_7 => ?_)
        refine xr_if_eqZ (tgt := 95) hx hb q_7 dX6_number_84 (by decide) (fun c_8 => ?_) (fun c_8 => ?_)
        · skip
          -- 84 t
          refine lv_aload_n hx hb dX6_number_95 rfl (lv_at hl 2 rfl) ?_
          refine lv_iload hx hb dX6_number_96 (lv_at hl 6 rfl) ?_
          refine va_put (D := D) (cl := vwC) (ci := 7) (v := .int (iI (I 2))) (ty := .int) (C := RX6) (T := TX6) (N := 27) hx hb hG.use i_X6 tyX6 tyX6_ok nmX6 hown hK hP (mD hdis) hS 0 rfl rfl 3 (by decide) (hG.use _ lf_X6_86) (fun _ h9 => h9) rfl (by decide +kernel) rfl rfl (Nat.le_of_ble_eq_true rfl) dX6_number_98 (fun H locs hP _ hS => ?_)
          have hP : va_P D vwC (mW a k (uI (uI I 2 en) 2 (I 2)) (uF F 4 (uA (F 4) (I 3) va))) H := hP
          refine xr_iconst hx hb dX6_number_101 ?_
          exact W.zret (v := iI 0) hx hb hr (bz_nar (by omega)) (fun t ht9 hW => ⟨0, (uI I 2 (I 2), uF F 4 (uA (F 4) (I 3) va)), rfl, (by right; refine ⟨?_, rfl, va, rfl⟩; unfold nOk; rw [hrl]; first | omega | (rw [← i3 (by omega)]; omega)), by rw [ht9]; exact hP, hS.F ht9⟩) hS.2.2 dX6_number_102
        · skip
          -- 84 f
          have e_v := i3 (by omega)
          refine lv_iload hx hb dX6_number_87 (lv_at hl 1 rfl) ?_
          refine lv_iload_n hx hb dX6_number_89 rfl (lv_at hl 5 rfl) ?_
          refine xr_icmp_ge (a := va) (b := lim) (tgt := 95) hx hb dX6_number_90 (by decide) (fun c_9 => ?_) (fun c_9 => ?_) (by omega) (by omega)
          · skip
            -- 90 t
            refine lv_aload_n hx hb dX6_number_95 rfl (lv_at hl 2 rfl) ?_
            refine lv_iload hx hb dX6_number_96 (lv_at hl 6 rfl) ?_
            refine va_put (D := D) (cl := vwC) (ci := 7) (v := .int (iI (I 2))) (ty := .int) (C := RX6) (T := TX6) (N := 27) hx hb hG.use i_X6 tyX6 tyX6_ok nmX6 hown hK hP (mD hdis) hS 0 rfl rfl 3 (by decide) (hG.use _ lf_X6_86) (fun _ h9 => h9) rfl (by decide +kernel) rfl rfl (Nat.le_of_ble_eq_true rfl) dX6_number_98 (fun H locs hP _ hS => ?_)
            have hP : va_P D vwC (mW a k (uI (uI I 2 en) 2 (I 2)) (uF F 4 (uA (F 4) (I 3) va))) H := hP
            refine xr_iconst hx hb dX6_number_101 ?_
            exact W.zret (v := iI 0) hx hb hr (bz_nar (by omega)) (fun t ht9 hW => ⟨0, (uI I 2 (I 2), uF F 4 (uA (F 4) (I 3) va)), rfl, (by right; refine ⟨?_, rfl, va, rfl⟩; unfold nOk; rw [hrl]; first | omega | (rw [← i3 (by omega)]; omega)), by rw [ht9]; exact hP, hS.F ht9⟩) hS.2.2 dX6_number_102
          · skip
            -- 90 f
            refine xr_iconst hx hb dX6_number_93 ?_
            exact W.zret (v := iI 1) hx hb hr (bz_nar (by omega)) (fun t ht9 hW => ⟨1, (uI I 2 en, uF F 4 (uA (F 4) (I 3) va)), rfl, (by left; unfold nOk; rw [hrl, show ta + (en - ta) = en by omega, ← i3 (by omega)]; exact ⟨⟨by omega, by omega, by omega⟩, rfl, rfl⟩), by rw [ht9]; exact hP, hS.F ht9⟩) hS.2.2 dX6_number_94
      · skip
        -- 16 f
        have hlt := lk_lt (T := F 1) (n := n) (i := en) (by omega)
        refine lv_iload hx hb dX6_number_19 (lv_at hl 0 rfl) ?_
        refine xr_sipush hx hb dX6_number_21 (by decide +kernel) ?_
        refine xr_icmp_le (a := va) (b := 9999) (tgt := 32) hx hb dX6_number_24 (by decide) (fun c_10 => ?_) (fun c_10 => ?_) (by omega) (by omega)
        · skip
          -- 24 t
          refine xr_bipush hx hb dX6_number_32 (by decide +kernel) ?_
          refine lv_iload hx hb dX6_number_34 (lv_at hl 0 rfl) ?_
          refine xr_imul (a := 10) (b := va) hx hb dX6_number_36 ?_
          refine lv_aload_n hx hb dX6_number_37 rfl (lv_at hl 1 rfl) ?_
          refine ro_call (g_runV (rest := [.int (iI (10 * va))]) hx hb hml hown hG hK hP mV_X6_look (c_X6_look l D a k (uI I 2 en) F n en e1 rfl ht (by omega)) lk_X6_89 (va_recv hK hP (ci := 7) (q0 := 0) rfl rfl) rfl hl.1 rfl (Nat.le_of_ble_eq_true rfl) ⟨(Nat.le_of_ble_eq_true rfl), (Nat.le_of_ble_eq_true rfl)⟩ ⟨(Nat.le_of_ble_eq_true rfl), (Nat.le_of_ble_eq_true rfl)⟩ dX6_number_38) (fun r_11 q_12 => ?_)
          have q_12 : r_11 = lk (F 1) n en := q_12
          have f_l := lk_in ht en
          rw [← q_12] at f_l
          have e_l := q_12
          refine xr_iadd (a := 10 * va) (b := r_11) hx hb dX6_number_41 ?_
          refine xr_bipush hx hb dX6_number_42 (by decide +kernel) ?_
          refine xr_isub (a := (10 * va) + r_11) (b := 48) hx hb dX6_number_44 ?_
          refine lv_istore (lv' := [(5, .int (iI (((10 * va) + r_11) - 48))), (0, .ref (a 0)), (1, .ref (a 4)), (2, .int (iI mx)), (3, .int (iI lim)), (4, .int (iI (I 2)))]) hx hb dX6_number_45 hl (by decide) rfl (fun ls hl => ?_)
          refine lv_aload_n hx hb dX6_number_47 rfl (lv_at hl 1 rfl) ?_
          refine lv_dup hx hb dX6_number_48 rfl ?_
          refine va_get (D := D) (cl := vwC) (ci := 7) (v := .int (iI en)) (C := RX6) (T := TX6) (N := 27) hx hb hG.use i_X6 hown hK hP 0 rfl rfl 3 (by decide) (hG.use _ lf_X6_86) (fun _ h9 => h9) rfl dX6_number_49 ?_
          refine xr_iconst hx hb dX6_number_52 ?_
          refine xr_iadd (a := en) (b := 1) hx hb dX6_number_53 ?_
          refine va_put (D := D) (cl := vwC) (ci := 7) (v := .int (iI (en + 1))) (ty := .int) (C := RX6) (T := TX6) (N := 27) hx hb hG.use i_X6 tyX6 tyX6_ok nmX6 hown hK hP (mD hdis) hS 0 rfl rfl 3 (by decide) (hG.use _ lf_X6_86) (fun _ h9 => h9) rfl (by decide +kernel) rfl rfl (Nat.le_of_ble_eq_true rfl) dX6_number_54 (fun H locs hP _ hS => ?_)
          have hP : va_P D vwC (mW a k (uI (uI I 2 en) 2 (en + 1)) F) H := hP
          refine lv_goto (tgt := 9) hx hb dX6_number_57 (by decide) ?_
          exact ih_9 (((10 * va) + r_11) - 48) (en + 1) _ _ (by omega) (by omega) (by intro j j0 j1; by_cases h : j = en - ta; (rw [h, show ta + (en - ta) = en by omega]; unfold dg; omega); exact i1 j j0 (by omega)) (by omega) (by intro h5; have f9 := f_nv (by omega); first | (exfalso; omega) | (have e_T : lk (F 1) n en = F 1 en := if_pos ⟨by omega, by omega⟩; rw [show (en + 1 - ta).toNat = (en - ta).toNat + 1 by omega]; show _ = nv (F 1) ta (en - ta).toNat * 10 + F 1 (ta + (((en - ta).toNat : Nat) : Int)) - 48; rw [show ta + (((en - ta).toNat : Nat) : Int) = en by omega, ← i3 (by omega)]; omega)) hP hS ls (lv_sub hl [0, 1, 2, 3, 4, 5] rfl)
        · skip
          -- 24 f
          refine lv_iload hx hb dX6_number_27 (lv_at hl 0 rfl) ?_
          refine lv_goto (tgt := 45) hx hb dX6_number_29 (by decide) ?_
          refine lv_istore (lv' := [(5, .int (iI va)), (0, .ref (a 0)), (1, .ref (a 4)), (2, .int (iI mx)), (3, .int (iI lim)), (4, .int (iI (I 2)))]) hx hb dX6_number_45 hl (by decide) rfl (fun ls hl => ?_)
          refine lv_aload_n hx hb dX6_number_47 rfl (lv_at hl 1 rfl) ?_
          refine lv_dup hx hb dX6_number_48 rfl ?_
          refine va_get (D := D) (cl := vwC) (ci := 7) (v := .int (iI en)) (C := RX6) (T := TX6) (N := 27) hx hb hG.use i_X6 hown hK hP 0 rfl rfl 3 (by decide) (hG.use _ lf_X6_86) (fun _ h9 => h9) rfl dX6_number_49 ?_
          refine xr_iconst hx hb dX6_number_52 ?_
          refine xr_iadd (a := en) (b := 1) hx hb dX6_number_53 ?_
          refine va_put (D := D) (cl := vwC) (ci := 7) (v := .int (iI (en + 1))) (ty := .int) (C := RX6) (T := TX6) (N := 27) hx hb hG.use i_X6 tyX6 tyX6_ok nmX6 hown hK hP (mD hdis) hS 0 rfl rfl 3 (by decide) (hG.use _ lf_X6_86) (fun _ h9 => h9) rfl (by decide +kernel) rfl rfl (Nat.le_of_ble_eq_true rfl) dX6_number_54 (fun H locs hP _ hS => ?_)
          have hP : va_P D vwC (mW a k (uI (uI I 2 en) 2 (en + 1)) F) H := hP
          refine lv_goto (tgt := 9) hx hb dX6_number_57 (by decide) ?_
          exact ih_9 va (en + 1) _ _ (by omega) (by omega) (by intro j j0 j1; by_cases h : j = en - ta; (rw [h, show ta + (en - ta) = en by omega]; unfold dg; omega); exact i1 j j0 (by omega)) (by omega) (by intro h5; have f9 := f_nv (by omega); first | (exfalso; omega) | (have e_T : lk (F 1) n en = F 1 en := if_pos ⟨by omega, by omega⟩; rw [show (en + 1 - ta).toNat = (en - ta).toNat + 1 by omega]; show _ = nv (F 1) ta (en - ta).toNat * 10 + F 1 (ta + (((en - ta).toNat : Nat) : Int)) - 48; rw [show ta + (((en - ta).toNat : Nat) : Int) = en by omega, ← i3 (by omega)]; omega)) hP hS ls (lv_sub hl [0, 1, 2, 3, 4, 5] rfl)
  exact lp_9 _ 0 (I 2) _ _ (Nat.lt_succ_self _) (by omega) (by intro j j0 j1; omega) (by omega) (by intro _; rw [e2, show ta - ta = 0 by omega]; rfl) hP hS ls (lv_sub hl [0, 2, 3, 4, 5, 1] rfl)
set_option maxHeartbeats 4000000 in
set_option maxRecDepth 100000 in
theorem c_X6_pair (l : Launch) (D : va_G) (a : Nat → Nat) (k : Nat → ClassId) (I : Nat → Int) (F : Nat → Int → Int) (hdis : dis 21 a) (p0 n ta : Int) (b0 : 0 ≤ p0 ∧ p0 < 12) (h3 : 0 ≤ I 3 ∧ I 3 ≤ 60) (e1 : I 1 = n) (e2 : I 2 = ta) (ht : txt (F 1) n) (ha : 0 ≤ ta ∧ ta ≤ n) : mu_M (S := (Nat → Int) × (Nat → Int → Int)) l yX6_pair cX6_pair 4 (some .boolean) 3 [.ref (a 0), .int (iI p0)] D (mT k) (mW a k I F) (fun u => mW a k u.1 u.2) (fun r u => (pOk (F 1) n ta ∧ r = 1 ∧ u = (uI I 2 (ta + 1 + 1), uF F 7 (uA (F 7) (12 * I 3 + p0) (pV (F 1) n ta)))) ∨ (¬ pOk (F 1) n ta ∧ r = 0 ∧ u = (uI I 2 (pF (F 1) n ta), uF F 7 (F 7)))) (adr 21 a) := by
  refine me_start (by decide) (Nat.le_of_ble_eq_true rfl) rfl ?_
  intro p e s m below meth c hx hb hml hr hown hlocks hnm hG hK hP ls hl
  have hown : s.vm.findClass RX6 = some m.cls := hown
  have hl : lv_has ls 4 [(0, .ref (a 0)), (1, .int (iI p0))] := hl
  have hS : va_S (adr 21 a) s.heap s.heap [] := va_S.rf
  subst e1
  subst e2
  have hn60 : 0 ≤ I 1 ∧ I 1 ≤ 60 := ht.1
  refine lv_aload_n hx hb dX6_pair_0 rfl (lv_at hl 0 rfl) ?_
  refine ro_call (g_runV (rest := []) hx hb hml hown hG hK hP mV_X6_look (c_X6_look l D a k I F (I 1) (I 2) rfl rfl ht (by omega)) lk_X6_89 (va_recv hK hP (ci := 7) (q0 := 0) rfl rfl) rfl hl.1 rfl (Nat.le_of_ble_eq_true rfl) ⟨(Nat.le_of_ble_eq_true rfl), (Nat.le_of_ble_eq_true rfl)⟩ ⟨(Nat.le_of_ble_eq_true rfl), (Nat.le_of_ble_eq_true rfl)⟩ dX6_pair_1) (fun r_1 q_2 => ?_)
  have q_2 : r_1 = lk (F 1) (I 1) (I 2) := q_2
  have f_l := lk_in ht (I 2)
  rw [← q_2] at f_l
  have e_l := q_2
  have e_a := e_l
  have f_h63 := hx_63
  have f_hm1 := hx_m1
  refine lv_istore_n (lv' := [(2, .int (iI r_1)), (0, .ref (a 0)), (1, .int (iI p0))]) hx hb dX6_pair_4 rfl hl (by decide) rfl (fun ls hl => ?_)
  refine lv_iload_n hx hb dX6_pair_5 rfl (lv_at hl 0 rfl) ?_
  refine xr_bipush hx hb dX6_pair_6 (by decide +kernel) ?_
  refine xr_icmp_eq (a := r_1) (b := 63) (tgt := 20) hx hb dX6_pair_8 (by decide) (fun c_3 => ?_) (fun c_3 => ?_) (by omega) (by omega)
  · skip
    -- 8 t
    have f_hz : hxv (lk (F 1) (I 1) (I 2)) = -1 := by
      rw [show lk (F 1) (I 1) (I 2) = 63 by omega]
      exact hx_63
    have f_lt : 0 ≤ I 2 ∧ I 2 < I 1 := lk_lt (T := F 1) (n := I 1) (i := I 2) (by first | omega | (intro hz; rw [hz] at e_ha; omega))
    refine lv_aload_n hx hb dX6_pair_20 rfl (lv_at hl 1 rfl) ?_
    refine lv_dup hx hb dX6_pair_21 rfl ?_
    refine va_get (D := D) (cl := vwC) (ci := 7) (v := .int (iI (I 2))) (C := RX6) (T := TX6) (N := 27) hx hb hG.use i_X6 hown hK hP 0 rfl rfl 3 (by decide) (hG.use _ lf_X6_86) (fun _ h9 => h9) rfl dX6_pair_22 ?_
    refine xr_iconst hx hb dX6_pair_25 ?_
    refine xr_iadd (a := I 2) (b := 1) hx hb dX6_pair_26 ?_
    refine va_put (D := D) (cl := vwC) (ci := 7) (v := .int (iI ((I 2) + 1))) (ty := .int) (C := RX6) (T := TX6) (N := 27) hx hb hG.use i_X6 tyX6 tyX6_ok nmX6 hown hK hP (mD hdis) hS 0 rfl rfl 3 (by decide) (hG.use _ lf_X6_86) (fun _ h9 => h9) rfl (by decide +kernel) rfl rfl (Nat.le_of_ble_eq_true rfl) dX6_pair_27 (fun H locs hP _ hS => ?_)
    have hP : va_P D vwC (mW a k (uI I 2 ((I 2) + 1)) F) H := hP
    refine lv_aload_n hx hb dX6_pair_30 rfl (lv_at hl 1 rfl) ?_
    refine ro_call (g_runV (rest := []) hx hb hml hown hG hK hP mV_X6_look (c_X6_look l D a k (uI I 2 ((I 2) + 1)) F (I 1) ((I 2) + 1) rfl rfl ht (by omega)) lk_X6_89 (va_recv hK hP (ci := 7) (q0 := 0) rfl rfl) rfl hl.1 rfl (Nat.le_of_ble_eq_true rfl) ⟨(Nat.le_of_ble_eq_true rfl), (Nat.le_of_ble_eq_true rfl)⟩ ⟨(Nat.le_of_ble_eq_true rfl), (Nat.le_of_ble_eq_true rfl)⟩ dX6_pair_31) (fun r_4 q_5 => ?_)
    have q_5 : r_4 = lk (F 1) (I 1) ((I 2) + 1) := q_5
    have f_l := lk_in ht ((I 2) + 1)
    rw [← q_5] at f_l
    have e_l := q_5
    have e_b := e_l
    refine lv_istore_n (lv' := [(3, .int (iI r_4)), (2, .int (iI r_1)), (0, .ref (a 0)), (1, .int (iI p0))]) hx hb dX6_pair_34 rfl hl (by decide) rfl (fun ls hl => ?_)
    refine lv_iload_n hx hb dX6_pair_35 rfl (lv_at hl 1 rfl) ?_
    refine xr_bipush hx hb dX6_pair_36 (by decide +kernel) ?_
    refine xr_icmp_ne (a := r_1) (b := 63) (tgt := 50) hx hb dX6_pair_38 (by decide) (fun c_6 => ?_) (fun c_6 => ?_) (by omega) (by omega)
    · skip
      -- 38 t
      refine lv_iload_n hx hb dX6_pair_50 rfl (lv_at hl 0 rfl) ?_
      refine ro_call (g_runS (rest := []) hx hb hml hown hG (hK.sub (tys' := []) [] rfl) (va_P0) mS_X6_hex (c_X6_hex l D r_4 (by omega)) lk_X6_100 rfl hl.1 rfl (Nat.le_of_ble_eq_true rfl) ⟨(Nat.le_of_ble_eq_true rfl), (Nat.le_of_ble_eq_true rfl)⟩ ⟨(Nat.le_of_ble_eq_true rfl), (Nat.le_of_ble_eq_true rfl)⟩ dX6_pair_51) (fun r_7 q_8 => ?_)
      have f_h := hx_in r_4
      rw [← q_8] at f_h
      have e_hb := q_8
      rw [e_b] at e_hb
      refine xr_if_ge (a := r_7) (tgt := 59) hx hb dX6_pair_54 (by decide) (fun c_9 => ?_) (fun c_9 => ?_) (by omega)
      · skip
        -- 54 t
        refine lv_aload_n hx hb dX6_pair_59 rfl (lv_at hl 2 rfl) ?_
        refine lv_dup hx hb dX6_pair_60 rfl ?_
        refine va_get (D := D) (cl := vwC) (ci := 7) (v := .int (iI ((I 2) + 1))) (C := RX6) (T := TX6) (N := 27) hx hb hG.use i_X6 hown hK hP 0 rfl rfl 3 (by decide) (hG.use _ lf_X6_86) (fun _ h9 => h9) rfl dX6_pair_61 ?_
        refine xr_iconst hx hb dX6_pair_64 ?_
        refine xr_iadd (a := (I 2) + 1) (b := 1) hx hb dX6_pair_65 ?_
        refine va_put (D := D) (cl := vwC) (ci := 7) (v := .int (iI (((I 2) + 1) + 1))) (ty := .int) (C := RX6) (T := TX6) (N := 27) hx hb hG.use i_X6 tyX6 tyX6_ok nmX6 hown hK hP (mD hdis) hS 0 rfl rfl 3 (by decide) (hG.use _ lf_X6_86) (fun _ h9 => h9) rfl (by decide +kernel) rfl rfl (Nat.le_of_ble_eq_true rfl) dX6_pair_66 (fun H locs hP _ hS => ?_)
        have hP : va_P D vwC (mW a k (uI (uI I 2 ((I 2) + 1)) 2 (((I 2) + 1) + 1)) F) H := hP
        refine lv_aload_n hx hb dX6_pair_69 rfl (lv_at hl 2 rfl) ?_
        refine va_get (D := D) (cl := vwC) (ci := 7) (v := .ref (a 7)) (C := RX6) (T := TX6) (N := 27) hx hb hG.use i_X6 hown hK hP 0 rfl rfl 10 (by decide) (hG.use _ lf_X6_30) (fun _ h9 => h9) rfl dX6_pair_70 ?_
        refine xr_bipush hx hb dX6_pair_73 (by decide +kernel) ?_
        refine lv_aload_n hx hb dX6_pair_75 rfl (lv_at hl 2 rfl) ?_
        refine va_get (D := D) (cl := vwC) (ci := 7) (v := .int (iI (I 3))) (C := RX6) (T := TX6) (N := 27) hx hb hG.use i_X6 hown hK hP 0 rfl rfl 4 (by decide) (hG.use _ lf_X6_97) (fun _ h9 => h9) rfl dX6_pair_76 ?_
        refine xr_imul (a := 12) (b := I 3) hx hb dX6_pair_79 ?_
        refine lv_iload_n hx hb dX6_pair_80 rfl (lv_at hl 3 rfl) ?_
        refine xr_iadd (a := 12 * (I 3)) (b := p0) hx hb dX6_pair_81 ?_
        refine lv_iload_n hx hb dX6_pair_82 rfl (lv_at hl 1 rfl) ?_
        refine xr_bipush hx hb dX6_pair_83 (by decide +kernel) ?_
        refine xr_icmp_ne (a := r_1) (b := 63) (tgt := 94) hx hb dX6_pair_85 (by decide) (fun c_10 => ?_) (fun c_10 => ?_) (by omega) (by omega)
        · skip
          -- 85 t
          refine xr_bipush hx hb dX6_pair_94 (by decide +kernel) ?_
          refine lv_iload_n hx hb dX6_pair_96 rfl (lv_at hl 1 rfl) ?_
          refine ro_call (g_runS (rest := [.int (iI 16), .int (iI ((12 * (I 3)) + p0)), .ref (a 7)]) hx hb hml hown hG (hK.sub (tys' := []) [] rfl) (va_P0) mS_X6_hex (c_X6_hex l D r_1 (by omega)) lk_X6_100 rfl hl.1 rfl (Nat.le_of_ble_eq_true rfl) ⟨(Nat.le_of_ble_eq_true rfl), (Nat.le_of_ble_eq_true rfl)⟩ ⟨(Nat.le_of_ble_eq_true rfl), (Nat.le_of_ble_eq_true rfl)⟩ dX6_pair_97) (fun r_11 q_12 => ?_)
          have f_h := hx_in r_1
          rw [← q_12] at f_h
          have e_h1 := q_12
          rw [e_a] at e_h1
          refine xr_imul (a := 16) (b := r_11) hx hb dX6_pair_100 ?_
          refine lv_iload_n hx hb dX6_pair_101 rfl (lv_at hl 0 rfl) ?_
          refine ro_call (g_runS (rest := [.int (iI (16 * r_11)), .int (iI ((12 * (I 3)) + p0)), .ref (a 7)]) hx hb hml hown hG (hK.sub (tys' := []) [] rfl) (va_P0) mS_X6_hex (c_X6_hex l D r_4 (by omega)) lk_X6_100 rfl hl.1 rfl (Nat.le_of_ble_eq_true rfl) ⟨(Nat.le_of_ble_eq_true rfl), (Nat.le_of_ble_eq_true rfl)⟩ ⟨(Nat.le_of_ble_eq_true rfl), (Nat.le_of_ble_eq_true rfl)⟩ dX6_pair_102) (fun r_13 q_14 => ?_)
          have f_h := hx_in r_4
          rw [← q_14] at f_h
          have e_h2 := q_14
          rw [e_b] at e_h2
          refine xr_iadd (a := 16 * r_11) (b := r_13) hx hb dX6_pair_105 ?_
          refine xr_iast (f := F 7) (z := (12 * (I 3)) + p0) (v := (16 * r_11) + r_13) hx hb hK hP (mD hdis) hS 7 6 rfl rfl (by omega) (by omega) (by decide) dX6_pair_106 (fun H locs hP hS => ?_)
          have hP : va_P D vwC (mW a k (uI (uI I 2 ((I 2) + 1)) 2 (((I 2) + 1) + 1)) (uF F 7 (uA (F 7) ((12 * (I 3)) + p0) ((16 * r_11) + r_13)))) H := hP
          refine xr_iconst hx hb dX6_pair_107 ?_
          exact W.zret (v := iI 1) hx hb hr (bz_nar (by omega)) (fun t ht9 hW => ⟨1, (uI I 2 (((I 2) + 1) + 1), uF F 7 (uA (F 7) ((12 * (I 3)) + p0) ((16 * r_11) + r_13))), rfl, (by left; first | (have hpv : pV (F 1) (I 1) (I 2) = 256 := if_pos (by omega); rw [hpv]; exact ⟨Or.inl ⟨by omega, by omega⟩, rfl, rfl⟩) | (have hpv : pV (F 1) (I 1) (I 2) = hxv (lk (F 1) (I 1) (I 2)) * 16 + hxv (lk (F 1) (I 1) (I 2 + 1)) := if_neg (by omega); refine ⟨Or.inr ⟨by omega, by omega⟩, rfl, ?_⟩; rw [hpv]; congr 3; omega) | (exfalso; omega)), by rw [ht9]; exact hP, hS.F ht9⟩) hS.2.2 dX6_pair_108
        · skip
          -- 85 f
          refine xr_sipush hx hb dX6_pair_88 (by decide +kernel) ?_
          refine lv_goto (tgt := 106) hx hb dX6_pair_91 (by decide) ?_
          refine xr_iast (f := F 7) (z := (12 * (I 3)) + p0) (v := 256) hx hb hK hP (mD hdis) hS 7 6 rfl rfl (by omega) (by omega) (by decide) dX6_pair_106 (fun H locs hP hS => ?_)
          have hP : va_P D vwC (mW a k (uI (uI I 2 ((I 2) + 1)) 2 (((I 2) + 1) + 1)) (uF F 7 (uA (F 7) ((12 * (I 3)) + p0) 256))) H := hP
          refine xr_iconst hx hb dX6_pair_107 ?_
          exact W.zret (v := iI 1) hx hb hr (bz_nar (by omega)) (fun t ht9 hW => ⟨1, (uI I 2 (((I 2) + 1) + 1), uF F 7 (uA (F 7) ((12 * (I 3)) + p0) 256)), rfl, (by left; first | (have hpv : pV (F 1) (I 1) (I 2) = 256 := if_pos (by omega); rw [hpv]; exact ⟨Or.inl ⟨by omega, by omega⟩, rfl, rfl⟩) | (have hpv : pV (F 1) (I 1) (I 2) = hxv (lk (F 1) (I 1) (I 2)) * 16 + hxv (lk (F 1) (I 1) (I 2 + 1)) := if_neg (by omega); refine ⟨Or.inr ⟨by omega, by omega⟩, rfl, ?_⟩; rw [hpv]; congr 3; omega) | (exfalso; omega)), by rw [ht9]; exact hP, hS.F ht9⟩) hS.2.2 dX6_pair_108
      · skip
        -- 54 f
        refine xr_iconst hx hb dX6_pair_57 ?_
        exact W.zret (v := iI 0) hx hb hr (bz_nar (by omega)) (fun t ht9 hW => ⟨0, (uI I 2 ((I 2) + 1), uF F 7 (F 7)), rfl, (by right; have hpf : pF (F 1) (I 1) (I 2) = I 2 + 1 := if_pos (by omega); rw [hpf]; exact ⟨(by intro hz; rcases hz with hz | hz <;> omega), rfl, rfl⟩), by rw [ht9]; exact hP, hS.F ht9⟩) hS.2.2 dX6_pair_58
    · skip
      -- 38 f
      refine lv_iload_n hx hb dX6_pair_41 rfl (lv_at hl 0 rfl) ?_
      refine xr_bipush hx hb dX6_pair_42 (by decide +kernel) ?_
      refine xr_icmp_eq (a := r_4) (b := 63) (tgt := 59) hx hb dX6_pair_44 (by decide) (fun c_15 => ?_) (fun c_15 => ?_) (by omega) (by omega)
      · skip
        -- 44 t
        refine lv_aload_n hx hb dX6_pair_59 rfl (lv_at hl 2 rfl) ?_
        refine lv_dup hx hb dX6_pair_60 rfl ?_
        refine va_get (D := D) (cl := vwC) (ci := 7) (v := .int (iI ((I 2) + 1))) (C := RX6) (T := TX6) (N := 27) hx hb hG.use i_X6 hown hK hP 0 rfl rfl 3 (by decide) (hG.use _ lf_X6_86) (fun _ h9 => h9) rfl dX6_pair_61 ?_
        refine xr_iconst hx hb dX6_pair_64 ?_
        refine xr_iadd (a := (I 2) + 1) (b := 1) hx hb dX6_pair_65 ?_
        refine va_put (D := D) (cl := vwC) (ci := 7) (v := .int (iI (((I 2) + 1) + 1))) (ty := .int) (C := RX6) (T := TX6) (N := 27) hx hb hG.use i_X6 tyX6 tyX6_ok nmX6 hown hK hP (mD hdis) hS 0 rfl rfl 3 (by decide) (hG.use _ lf_X6_86) (fun _ h9 => h9) rfl (by decide +kernel) rfl rfl (Nat.le_of_ble_eq_true rfl) dX6_pair_66 (fun H locs hP _ hS => ?_)
        have hP : va_P D vwC (mW a k (uI (uI I 2 ((I 2) + 1)) 2 (((I 2) + 1) + 1)) F) H := hP
        refine lv_aload_n hx hb dX6_pair_69 rfl (lv_at hl 2 rfl) ?_
        refine va_get (D := D) (cl := vwC) (ci := 7) (v := .ref (a 7)) (C := RX6) (T := TX6) (N := 27) hx hb hG.use i_X6 hown hK hP 0 rfl rfl 10 (by decide) (hG.use _ lf_X6_30) (fun _ h9 => h9) rfl dX6_pair_70 ?_
        refine xr_bipush hx hb dX6_pair_73 (by decide +kernel) ?_
        refine lv_aload_n hx hb dX6_pair_75 rfl (lv_at hl 2 rfl) ?_
        refine va_get (D := D) (cl := vwC) (ci := 7) (v := .int (iI (I 3))) (C := RX6) (T := TX6) (N := 27) hx hb hG.use i_X6 hown hK hP 0 rfl rfl 4 (by decide) (hG.use _ lf_X6_97) (fun _ h9 => h9) rfl dX6_pair_76 ?_
        refine xr_imul (a := 12) (b := I 3) hx hb dX6_pair_79 ?_
        refine lv_iload_n hx hb dX6_pair_80 rfl (lv_at hl 3 rfl) ?_
        refine xr_iadd (a := 12 * (I 3)) (b := p0) hx hb dX6_pair_81 ?_
        refine lv_iload_n hx hb dX6_pair_82 rfl (lv_at hl 1 rfl) ?_
        refine xr_bipush hx hb dX6_pair_83 (by decide +kernel) ?_
        refine xr_icmp_ne (a := r_1) (b := 63) (tgt := 94) hx hb dX6_pair_85 (by decide) (fun c_16 => ?_) (fun c_16 => ?_) (by omega) (by omega)
        · skip
          -- 85 t
          refine xr_bipush hx hb dX6_pair_94 (by decide +kernel) ?_
          refine lv_iload_n hx hb dX6_pair_96 rfl (lv_at hl 1 rfl) ?_
          refine ro_call (g_runS (rest := [.int (iI 16), .int (iI ((12 * (I 3)) + p0)), .ref (a 7)]) hx hb hml hown hG (hK.sub (tys' := []) [] rfl) (va_P0) mS_X6_hex (c_X6_hex l D r_1 (by omega)) lk_X6_100 rfl hl.1 rfl (Nat.le_of_ble_eq_true rfl) ⟨(Nat.le_of_ble_eq_true rfl), (Nat.le_of_ble_eq_true rfl)⟩ ⟨(Nat.le_of_ble_eq_true rfl), (Nat.le_of_ble_eq_true rfl)⟩ dX6_pair_97) (fun r_17 q_18 => ?_)
          have f_h := hx_in r_1
          rw [← q_18] at f_h
          have e_h1 := q_18
          rw [e_a] at e_h1
          refine xr_imul (a := 16) (b := r_17) hx hb dX6_pair_100 ?_
          refine lv_iload_n hx hb dX6_pair_101 rfl (lv_at hl 0 rfl) ?_
          refine ro_call (g_runS (rest := [.int (iI (16 * r_17)), .int (iI ((12 * (I 3)) + p0)), .ref (a 7)]) hx hb hml hown hG (hK.sub (tys' := []) [] rfl) (va_P0) mS_X6_hex (c_X6_hex l D r_4 (by omega)) lk_X6_100 rfl hl.1 rfl (Nat.le_of_ble_eq_true rfl) ⟨(Nat.le_of_ble_eq_true rfl), (Nat.le_of_ble_eq_true rfl)⟩ ⟨(Nat.le_of_ble_eq_true rfl), (Nat.le_of_ble_eq_true rfl)⟩ dX6_pair_102) (fun r_19 q_20 => ?_)
          have f_h := hx_in r_4
          rw [← q_20] at f_h
          have e_h2 := q_20
          rw [e_b] at e_h2
          refine xr_iadd (a := 16 * r_17) (b := r_19) hx hb dX6_pair_105 ?_
          refine xr_iast (f := F 7) (z := (12 * (I 3)) + p0) (v := (16 * r_17) + r_19) hx hb hK hP (mD hdis) hS 7 6 rfl rfl (by omega) (by omega) (by decide) dX6_pair_106 (fun H locs hP hS => ?_)
          have hP : va_P D vwC (mW a k (uI (uI I 2 ((I 2) + 1)) 2 (((I 2) + 1) + 1)) (uF F 7 (uA (F 7) ((12 * (I 3)) + p0) ((16 * r_17) + r_19)))) H := hP
          refine xr_iconst hx hb dX6_pair_107 ?_
          exact W.zret (v := iI 1) hx hb hr (bz_nar (by omega)) (fun t ht9 hW => ⟨1, (uI I 2 (((I 2) + 1) + 1), uF F 7 (uA (F 7) ((12 * (I 3)) + p0) ((16 * r_17) + r_19))), rfl, (by left; first | (have hpv : pV (F 1) (I 1) (I 2) = 256 := if_pos (by omega); rw [hpv]; exact ⟨Or.inl ⟨by omega, by omega⟩, rfl, rfl⟩) | (have hpv : pV (F 1) (I 1) (I 2) = hxv (lk (F 1) (I 1) (I 2)) * 16 + hxv (lk (F 1) (I 1) (I 2 + 1)) := if_neg (by omega); refine ⟨Or.inr ⟨by omega, by omega⟩, rfl, ?_⟩; rw [hpv]; congr 3; omega) | (exfalso; omega)), by rw [ht9]; exact hP, hS.F ht9⟩) hS.2.2 dX6_pair_108
        · skip
          -- 85 f
          refine xr_sipush hx hb dX6_pair_88 (by decide +kernel) ?_
          refine lv_goto (tgt := 106) hx hb dX6_pair_91 (by decide) ?_
          refine xr_iast (f := F 7) (z := (12 * (I 3)) + p0) (v := 256) hx hb hK hP (mD hdis) hS 7 6 rfl rfl (by omega) (by omega) (by decide) dX6_pair_106 (fun H locs hP hS => ?_)
          have hP : va_P D vwC (mW a k (uI (uI I 2 ((I 2) + 1)) 2 (((I 2) + 1) + 1)) (uF F 7 (uA (F 7) ((12 * (I 3)) + p0) 256))) H := hP
          refine xr_iconst hx hb dX6_pair_107 ?_
          exact W.zret (v := iI 1) hx hb hr (bz_nar (by omega)) (fun t ht9 hW => ⟨1, (uI I 2 (((I 2) + 1) + 1), uF F 7 (uA (F 7) ((12 * (I 3)) + p0) 256)), rfl, (by left; first | (have hpv : pV (F 1) (I 1) (I 2) = 256 := if_pos (by omega); rw [hpv]; exact ⟨Or.inl ⟨by omega, by omega⟩, rfl, rfl⟩) | (have hpv : pV (F 1) (I 1) (I 2) = hxv (lk (F 1) (I 1) (I 2)) * 16 + hxv (lk (F 1) (I 1) (I 2 + 1)) := if_neg (by omega); refine ⟨Or.inr ⟨by omega, by omega⟩, rfl, ?_⟩; rw [hpv]; congr 3; omega) | (exfalso; omega)), by rw [ht9]; exact hP, hS.F ht9⟩) hS.2.2 dX6_pair_108
      · skip
        -- 44 f
        refine lv_goto (tgt := 57) hx hb dX6_pair_47 (by decide) ?_
        refine xr_iconst hx hb dX6_pair_57 ?_
        exact W.zret (v := iI 0) hx hb hr (bz_nar (by omega)) (fun t ht9 hW => ⟨0, (uI I 2 ((I 2) + 1), uF F 7 (F 7)), rfl, (by right; have hpf : pF (F 1) (I 1) (I 2) = I 2 + 1 := if_pos (by omega); rw [hpf]; exact ⟨(by intro hz; rcases hz with hz | hz <;> omega), rfl, rfl⟩), by rw [ht9]; exact hP, hS.F ht9⟩) hS.2.2 dX6_pair_58
  · skip
    -- 8 f
    refine lv_iload_n hx hb dX6_pair_11 rfl (lv_at hl 0 rfl) ?_
    refine ro_call (g_runS (rest := []) hx hb hml hown hG (hK.sub (tys' := []) [] rfl) (va_P0) mS_X6_hex (c_X6_hex l D r_1 (by omega)) lk_X6_100 rfl hl.1 rfl (Nat.le_of_ble_eq_true rfl) ⟨(Nat.le_of_ble_eq_true rfl), (Nat.le_of_ble_eq_true rfl)⟩ ⟨(Nat.le_of_ble_eq_true rfl), (Nat.le_of_ble_eq_true rfl)⟩ dX6_pair_12) (fun r_21 q_22 => ?_)
    have f_h := hx_in r_1
    rw [← q_22] at f_h
    have e_ha := q_22
    rw [e_a] at e_ha
    refine xr_if_ge (a := r_21) (tgt := 20) hx hb dX6_pair_15 (by decide) (fun c_23 => ?_) (fun c_23 => ?_) (by omega)
    · skip
      -- 15 t
      have f_lt : 0 ≤ I 2 ∧ I 2 < I 1 := lk_lt (T := F 1) (n := I 1) (i := I 2) (by first | omega | (intro hz; rw [hz] at e_ha; omega))
      refine lv_aload_n hx hb dX6_pair_20 rfl (lv_at hl 1 rfl) ?_
      refine lv_dup hx hb dX6_pair_21 rfl ?_
      refine va_get (D := D) (cl := vwC) (ci := 7) (v := .int (iI (I 2))) (C := RX6) (T := TX6) (N := 27) hx hb hG.use i_X6 hown hK hP 0 rfl rfl 3 (by decide) (hG.use _ lf_X6_86) (fun _ h9 => h9) rfl dX6_pair_22 ?_
      refine xr_iconst hx hb dX6_pair_25 ?_
      refine xr_iadd (a := I 2) (b := 1) hx hb dX6_pair_26 ?_
      refine va_put (D := D) (cl := vwC) (ci := 7) (v := .int (iI ((I 2) + 1))) (ty := .int) (C := RX6) (T := TX6) (N := 27) hx hb hG.use i_X6 tyX6 tyX6_ok nmX6 hown hK hP (mD hdis) hS 0 rfl rfl 3 (by decide) (hG.use _ lf_X6_86) (fun _ h9 => h9) rfl (by decide +kernel) rfl rfl (Nat.le_of_ble_eq_true rfl) dX6_pair_27 (fun H locs hP _ hS => ?_)
      have hP : va_P D vwC (mW a k (uI I 2 ((I 2) + 1)) F) H := hP
      refine lv_aload_n hx hb dX6_pair_30 rfl (lv_at hl 1 rfl) ?_
      refine ro_call (g_runV (rest := []) hx hb hml hown hG hK hP mV_X6_look (c_X6_look l D a k (uI I 2 ((I 2) + 1)) F (I 1) ((I 2) + 1) rfl rfl ht (by omega)) lk_X6_89 (va_recv hK hP (ci := 7) (q0 := 0) rfl rfl) rfl hl.1 rfl (Nat.le_of_ble_eq_true rfl) ⟨(Nat.le_of_ble_eq_true rfl), (Nat.le_of_ble_eq_true rfl)⟩ ⟨(Nat.le_of_ble_eq_true rfl), (Nat.le_of_ble_eq_true rfl)⟩ dX6_pair_31) (fun r_24 q_25 => ?_)
      have q_25 : r_24 = lk (F 1) (I 1) ((I 2) + 1) := q_25
      have f_l := lk_in ht ((I 2) + 1)
      rw [← q_25] at f_l
      have e_l := q_25
      have e_b := e_l
      refine lv_istore_n (lv' := [(3, .int (iI r_24)), (2, .int (iI r_1)), (0, .ref (a 0)), (1, .int (iI p0))]) hx hb dX6_pair_34 rfl hl (by decide) rfl (fun ls hl => ?_)
      refine lv_iload_n hx hb dX6_pair_35 rfl (lv_at hl 1 rfl) ?_
      refine xr_bipush hx hb dX6_pair_36 (by decide +kernel) ?_
      refine xr_icmp_ne (a := r_1) (b := 63) (tgt := 50) hx hb dX6_pair_38 (by decide) (fun c_26 => ?_) (fun c_26 => ?_) (by omega) (by omega)
      · skip
        -- 38 t
        refine lv_iload_n hx hb dX6_pair_50 rfl (lv_at hl 0 rfl) ?_
        refine ro_call (g_runS (rest := []) hx hb hml hown hG (hK.sub (tys' := []) [] rfl) (va_P0) mS_X6_hex (c_X6_hex l D r_24 (by omega)) lk_X6_100 rfl hl.1 rfl (Nat.le_of_ble_eq_true rfl) ⟨(Nat.le_of_ble_eq_true rfl), (Nat.le_of_ble_eq_true rfl)⟩ ⟨(Nat.le_of_ble_eq_true rfl), (Nat.le_of_ble_eq_true rfl)⟩ dX6_pair_51) (fun r_27 q_28 => ?_)
        have f_h := hx_in r_24
        rw [← q_28] at f_h
        have e_hb := q_28
        rw [e_b] at e_hb
        refine xr_if_ge (a := r_27) (tgt := 59) hx hb dX6_pair_54 (by decide) (fun c_29 => ?_) (fun c_29 => ?_) (by omega)
        · skip
          -- 54 t
          refine lv_aload_n hx hb dX6_pair_59 rfl (lv_at hl 2 rfl) ?_
          refine lv_dup hx hb dX6_pair_60 rfl ?_
          refine va_get (D := D) (cl := vwC) (ci := 7) (v := .int (iI ((I 2) + 1))) (C := RX6) (T := TX6) (N := 27) hx hb hG.use i_X6 hown hK hP 0 rfl rfl 3 (by decide) (hG.use _ lf_X6_86) (fun _ h9 => h9) rfl dX6_pair_61 ?_
          refine xr_iconst hx hb dX6_pair_64 ?_
          refine xr_iadd (a := (I 2) + 1) (b := 1) hx hb dX6_pair_65 ?_
          refine va_put (D := D) (cl := vwC) (ci := 7) (v := .int (iI (((I 2) + 1) + 1))) (ty := .int) (C := RX6) (T := TX6) (N := 27) hx hb hG.use i_X6 tyX6 tyX6_ok nmX6 hown hK hP (mD hdis) hS 0 rfl rfl 3 (by decide) (hG.use _ lf_X6_86) (fun _ h9 => h9) rfl (by decide +kernel) rfl rfl (Nat.le_of_ble_eq_true rfl) dX6_pair_66 (fun H locs hP _ hS => ?_)
          have hP : va_P D vwC (mW a k (uI (uI I 2 ((I 2) + 1)) 2 (((I 2) + 1) + 1)) F) H := hP
          refine lv_aload_n hx hb dX6_pair_69 rfl (lv_at hl 2 rfl) ?_
          refine va_get (D := D) (cl := vwC) (ci := 7) (v := .ref (a 7)) (C := RX6) (T := TX6) (N := 27) hx hb hG.use i_X6 hown hK hP 0 rfl rfl 10 (by decide) (hG.use _ lf_X6_30) (fun _ h9 => h9) rfl dX6_pair_70 ?_
          refine xr_bipush hx hb dX6_pair_73 (by decide +kernel) ?_
          refine lv_aload_n hx hb dX6_pair_75 rfl (lv_at hl 2 rfl) ?_
          refine va_get (D := D) (cl := vwC) (ci := 7) (v := .int (iI (I 3))) (C := RX6) (T := TX6) (N := 27) hx hb hG.use i_X6 hown hK hP 0 rfl rfl 4 (by decide) (hG.use _ lf_X6_97) (fun _ h9 => h9) rfl dX6_pair_76 ?_
          refine xr_imul (a := 12) (b := I 3) hx hb dX6_pair_79 ?_
          refine lv_iload_n hx hb dX6_pair_80 rfl (lv_at hl 3 rfl) ?_
          refine xr_iadd (a := 12 * (I 3)) (b := p0) hx hb dX6_pair_81 ?_
          refine lv_iload_n hx hb dX6_pair_82 rfl (lv_at hl 1 rfl) ?_
          refine xr_bipush hx hb dX6_pair_83 (by decide +kernel) ?_
          refine xr_icmp_ne (a := r_1) (b := 63) (tgt := 94) hx hb dX6_pair_85 (by decide) (fun c_30 => ?_) (fun c_30 => ?_) (by omega) (by omega)
          · skip
            -- 85 t
            refine xr_bipush hx hb dX6_pair_94 (by decide +kernel) ?_
            refine lv_iload_n hx hb dX6_pair_96 rfl (lv_at hl 1 rfl) ?_
            refine ro_call (g_runS (rest := [.int (iI 16), .int (iI ((12 * (I 3)) + p0)), .ref (a 7)]) hx hb hml hown hG (hK.sub (tys' := []) [] rfl) (va_P0) mS_X6_hex (c_X6_hex l D r_1 (by omega)) lk_X6_100 rfl hl.1 rfl (Nat.le_of_ble_eq_true rfl) ⟨(Nat.le_of_ble_eq_true rfl), (Nat.le_of_ble_eq_true rfl)⟩ ⟨(Nat.le_of_ble_eq_true rfl), (Nat.le_of_ble_eq_true rfl)⟩ dX6_pair_97) (fun r_31 q_32 => ?_)
            have f_h := hx_in r_1
            rw [← q_32] at f_h
            have e_h1 := q_32
            rw [e_a] at e_h1
            refine xr_imul (a := 16) (b := r_31) hx hb dX6_pair_100 ?_
            refine lv_iload_n hx hb dX6_pair_101 rfl (lv_at hl 0 rfl) ?_
            refine ro_call (g_runS (rest := [.int (iI (16 * r_31)), .int (iI ((12 * (I 3)) + p0)), .ref (a 7)]) hx hb hml hown hG (hK.sub (tys' := []) [] rfl) (va_P0) mS_X6_hex (c_X6_hex l D r_24 (by omega)) lk_X6_100 rfl hl.1 rfl (Nat.le_of_ble_eq_true rfl) ⟨(Nat.le_of_ble_eq_true rfl), (Nat.le_of_ble_eq_true rfl)⟩ ⟨(Nat.le_of_ble_eq_true rfl), (Nat.le_of_ble_eq_true rfl)⟩ dX6_pair_102) (fun r_33 q_34 => ?_)
            have f_h := hx_in r_24
            rw [← q_34] at f_h
            have e_h2 := q_34
            rw [e_b] at e_h2
            refine xr_iadd (a := 16 * r_31) (b := r_33) hx hb dX6_pair_105 ?_
            refine xr_iast (f := F 7) (z := (12 * (I 3)) + p0) (v := (16 * r_31) + r_33) hx hb hK hP (mD hdis) hS 7 6 rfl rfl (by omega) (by omega) (by decide) dX6_pair_106 (fun H locs hP hS => ?_)
            have hP : va_P D vwC (mW a k (uI (uI I 2 ((I 2) + 1)) 2 (((I 2) + 1) + 1)) (uF F 7 (uA (F 7) ((12 * (I 3)) + p0) ((16 * r_31) + r_33)))) H := hP
            refine xr_iconst hx hb dX6_pair_107 ?_
            exact W.zret (v := iI 1) hx hb hr (bz_nar (by omega)) (fun t ht9 hW => ⟨1, (uI I 2 (((I 2) + 1) + 1), uF F 7 (uA (F 7) ((12 * (I 3)) + p0) ((16 * r_31) + r_33))), rfl, (by left; first | (have hpv : pV (F 1) (I 1) (I 2) = 256 := if_pos (by omega); rw [hpv]; exact ⟨Or.inl ⟨by omega, by omega⟩, rfl, rfl⟩) | (have hpv : pV (F 1) (I 1) (I 2) = hxv (lk (F 1) (I 1) (I 2)) * 16 + hxv (lk (F 1) (I 1) (I 2 + 1)) := if_neg (by omega); refine ⟨Or.inr ⟨by omega, by omega⟩, rfl, ?_⟩; rw [hpv]; congr 3; omega) | (exfalso; omega)), by rw [ht9]; exact hP, hS.F ht9⟩) hS.2.2 dX6_pair_108
          · skip
            -- 85 f
            refine xr_sipush hx hb dX6_pair_88 (by decide +kernel) ?_
            refine lv_goto (tgt := 106) hx hb dX6_pair_91 (by decide) ?_
            refine xr_iast (f := F 7) (z := (12 * (I 3)) + p0) (v := 256) hx hb hK hP (mD hdis) hS 7 6 rfl rfl (by omega) (by omega) (by decide) dX6_pair_106 (fun H locs hP hS => ?_)
            have hP : va_P D vwC (mW a k (uI (uI I 2 ((I 2) + 1)) 2 (((I 2) + 1) + 1)) (uF F 7 (uA (F 7) ((12 * (I 3)) + p0) 256))) H := hP
            refine xr_iconst hx hb dX6_pair_107 ?_
            exact W.zret (v := iI 1) hx hb hr (bz_nar (by omega)) (fun t ht9 hW => ⟨1, (uI I 2 (((I 2) + 1) + 1), uF F 7 (uA (F 7) ((12 * (I 3)) + p0) 256)), rfl, (by left; first | (have hpv : pV (F 1) (I 1) (I 2) = 256 := if_pos (by omega); rw [hpv]; exact ⟨Or.inl ⟨by omega, by omega⟩, rfl, rfl⟩) | (have hpv : pV (F 1) (I 1) (I 2) = hxv (lk (F 1) (I 1) (I 2)) * 16 + hxv (lk (F 1) (I 1) (I 2 + 1)) := if_neg (by omega); refine ⟨Or.inr ⟨by omega, by omega⟩, rfl, ?_⟩; rw [hpv]; congr 3; omega) | (exfalso; omega)), by rw [ht9]; exact hP, hS.F ht9⟩) hS.2.2 dX6_pair_108
        · skip
          -- 54 f
          refine xr_iconst hx hb dX6_pair_57 ?_
          exact W.zret (v := iI 0) hx hb hr (bz_nar (by omega)) (fun t ht9 hW => ⟨0, (uI I 2 ((I 2) + 1), uF F 7 (F 7)), rfl, (by right; have hpf : pF (F 1) (I 1) (I 2) = I 2 + 1 := if_pos (by omega); rw [hpf]; exact ⟨(by intro hz; rcases hz with hz | hz <;> omega), rfl, rfl⟩), by rw [ht9]; exact hP, hS.F ht9⟩) hS.2.2 dX6_pair_58
      · skip
        -- 38 f
        refine lv_iload_n hx hb dX6_pair_41 rfl (lv_at hl 0 rfl) ?_
        refine xr_bipush hx hb dX6_pair_42 (by decide +kernel) ?_
        refine xr_icmp_eq (a := r_24) (b := 63) (tgt := 59) hx hb dX6_pair_44 (by decide) (fun c_35 => ?_) (fun c_35 => ?_) (by omega) (by omega)
        · skip
          -- 44 t
          refine lv_aload_n hx hb dX6_pair_59 rfl (lv_at hl 2 rfl) ?_
          refine lv_dup hx hb dX6_pair_60 rfl ?_
          refine va_get (D := D) (cl := vwC) (ci := 7) (v := .int (iI ((I 2) + 1))) (C := RX6) (T := TX6) (N := 27) hx hb hG.use i_X6 hown hK hP 0 rfl rfl 3 (by decide) (hG.use _ lf_X6_86) (fun _ h9 => h9) rfl dX6_pair_61 ?_
          refine xr_iconst hx hb dX6_pair_64 ?_
          refine xr_iadd (a := (I 2) + 1) (b := 1) hx hb dX6_pair_65 ?_
          refine va_put (D := D) (cl := vwC) (ci := 7) (v := .int (iI (((I 2) + 1) + 1))) (ty := .int) (C := RX6) (T := TX6) (N := 27) hx hb hG.use i_X6 tyX6 tyX6_ok nmX6 hown hK hP (mD hdis) hS 0 rfl rfl 3 (by decide) (hG.use _ lf_X6_86) (fun _ h9 => h9) rfl (by decide +kernel) rfl rfl (Nat.le_of_ble_eq_true rfl) dX6_pair_66 (fun H locs hP _ hS => ?_)
          have hP : va_P D vwC (mW a k (uI (uI I 2 ((I 2) + 1)) 2 (((I 2) + 1) + 1)) F) H := hP
          refine lv_aload_n hx hb dX6_pair_69 rfl (lv_at hl 2 rfl) ?_
          refine va_get (D := D) (cl := vwC) (ci := 7) (v := .ref (a 7)) (C := RX6) (T := TX6) (N := 27) hx hb hG.use i_X6 hown hK hP 0 rfl rfl 10 (by decide) (hG.use _ lf_X6_30) (fun _ h9 => h9) rfl dX6_pair_70 ?_
          refine xr_bipush hx hb dX6_pair_73 (by decide +kernel) ?_
          refine lv_aload_n hx hb dX6_pair_75 rfl (lv_at hl 2 rfl) ?_
          refine va_get (D := D) (cl := vwC) (ci := 7) (v := .int (iI (I 3))) (C := RX6) (T := TX6) (N := 27) hx hb hG.use i_X6 hown hK hP 0 rfl rfl 4 (by decide) (hG.use _ lf_X6_97) (fun _ h9 => h9) rfl dX6_pair_76 ?_
          refine xr_imul (a := 12) (b := I 3) hx hb dX6_pair_79 ?_
          refine lv_iload_n hx hb dX6_pair_80 rfl (lv_at hl 3 rfl) ?_
          refine xr_iadd (a := 12 * (I 3)) (b := p0) hx hb dX6_pair_81 ?_
          refine lv_iload_n hx hb dX6_pair_82 rfl (lv_at hl 1 rfl) ?_
          refine xr_bipush hx hb dX6_pair_83 (by decide +kernel) ?_
          refine xr_icmp_ne (a := r_1) (b := 63) (tgt := 94) hx hb dX6_pair_85 (by decide) (fun c_36 => ?_) (fun c_36 => ?_) (by omega) (by omega)
          · skip
            -- 85 t
            refine xr_bipush hx hb dX6_pair_94 (by decide +kernel) ?_
            refine lv_iload_n hx hb dX6_pair_96 rfl (lv_at hl 1 rfl) ?_
            refine ro_call (g_runS (rest := [.int (iI 16), .int (iI ((12 * (I 3)) + p0)), .ref (a 7)]) hx hb hml hown hG (hK.sub (tys' := []) [] rfl) (va_P0) mS_X6_hex (c_X6_hex l D r_1 (by omega)) lk_X6_100 rfl hl.1 rfl (Nat.le_of_ble_eq_true rfl) ⟨(Nat.le_of_ble_eq_true rfl), (Nat.le_of_ble_eq_true rfl)⟩ ⟨(Nat.le_of_ble_eq_true rfl), (Nat.le_of_ble_eq_true rfl)⟩ dX6_pair_97) (fun r_37 q_38 => ?_)
            have f_h := hx_in r_1
            rw [← q_38] at f_h
            have e_h1 := q_38
            rw [e_a] at e_h1
            refine xr_imul (a := 16) (b := r_37) hx hb dX6_pair_100 ?_
            refine lv_iload_n hx hb dX6_pair_101 rfl (lv_at hl 0 rfl) ?_
            refine ro_call (g_runS (rest := [.int (iI (16 * r_37)), .int (iI ((12 * (I 3)) + p0)), .ref (a 7)]) hx hb hml hown hG (hK.sub (tys' := []) [] rfl) (va_P0) mS_X6_hex (c_X6_hex l D r_24 (by omega)) lk_X6_100 rfl hl.1 rfl (Nat.le_of_ble_eq_true rfl) ⟨(Nat.le_of_ble_eq_true rfl), (Nat.le_of_ble_eq_true rfl)⟩ ⟨(Nat.le_of_ble_eq_true rfl), (Nat.le_of_ble_eq_true rfl)⟩ dX6_pair_102) (fun r_39 q_40 => ?_)
            have f_h := hx_in r_24
            rw [← q_40] at f_h
            have e_h2 := q_40
            rw [e_b] at e_h2
            refine xr_iadd (a := 16 * r_37) (b := r_39) hx hb dX6_pair_105 ?_
            refine xr_iast (f := F 7) (z := (12 * (I 3)) + p0) (v := (16 * r_37) + r_39) hx hb hK hP (mD hdis) hS 7 6 rfl rfl (by omega) (by omega) (by decide) dX6_pair_106 (fun H locs hP hS => ?_)
            have hP : va_P D vwC (mW a k (uI (uI I 2 ((I 2) + 1)) 2 (((I 2) + 1) + 1)) (uF F 7 (uA (F 7) ((12 * (I 3)) + p0) ((16 * r_37) + r_39)))) H := hP
            refine xr_iconst hx hb dX6_pair_107 ?_
            exact W.zret (v := iI 1) hx hb hr (bz_nar (by omega)) (fun t ht9 hW => ⟨1, (uI I 2 (((I 2) + 1) + 1), uF F 7 (uA (F 7) ((12 * (I 3)) + p0) ((16 * r_37) + r_39))), rfl, (by left; first | (have hpv : pV (F 1) (I 1) (I 2) = 256 := if_pos (by omega); rw [hpv]; exact ⟨Or.inl ⟨by omega, by omega⟩, rfl, rfl⟩) | (have hpv : pV (F 1) (I 1) (I 2) = hxv (lk (F 1) (I 1) (I 2)) * 16 + hxv (lk (F 1) (I 1) (I 2 + 1)) := if_neg (by omega); refine ⟨Or.inr ⟨by omega, by omega⟩, rfl, ?_⟩; rw [hpv]; congr 3; omega) | (exfalso; omega)), by rw [ht9]; exact hP, hS.F ht9⟩) hS.2.2 dX6_pair_108
          · skip
            -- 85 f
            refine xr_sipush hx hb dX6_pair_88 (by decide +kernel) ?_
            refine lv_goto (tgt := 106) hx hb dX6_pair_91 (by decide) ?_
            refine xr_iast (f := F 7) (z := (12 * (I 3)) + p0) (v := 256) hx hb hK hP (mD hdis) hS 7 6 rfl rfl (by omega) (by omega) (by decide) dX6_pair_106 (fun H locs hP hS => ?_)
            have hP : va_P D vwC (mW a k (uI (uI I 2 ((I 2) + 1)) 2 (((I 2) + 1) + 1)) (uF F 7 (uA (F 7) ((12 * (I 3)) + p0) 256))) H := hP
            refine xr_iconst hx hb dX6_pair_107 ?_
            exact W.zret (v := iI 1) hx hb hr (bz_nar (by omega)) (fun t ht9 hW => ⟨1, (uI I 2 (((I 2) + 1) + 1), uF F 7 (uA (F 7) ((12 * (I 3)) + p0) 256)), rfl, (by left; first | (have hpv : pV (F 1) (I 1) (I 2) = 256 := if_pos (by omega); rw [hpv]; exact ⟨Or.inl ⟨by omega, by omega⟩, rfl, rfl⟩) | (have hpv : pV (F 1) (I 1) (I 2) = hxv (lk (F 1) (I 1) (I 2)) * 16 + hxv (lk (F 1) (I 1) (I 2 + 1)) := if_neg (by omega); refine ⟨Or.inr ⟨by omega, by omega⟩, rfl, ?_⟩; rw [hpv]; congr 3; omega) | (exfalso; omega)), by rw [ht9]; exact hP, hS.F ht9⟩) hS.2.2 dX6_pair_108
        · skip
          -- 44 f
          refine lv_goto (tgt := 57) hx hb dX6_pair_47 (by decide) ?_
          refine xr_iconst hx hb dX6_pair_57 ?_
          exact W.zret (v := iI 0) hx hb hr (bz_nar (by omega)) (fun t ht9 hW => ⟨0, (uI I 2 ((I 2) + 1), uF F 7 (F 7)), rfl, (by right; have hpf : pF (F 1) (I 1) (I 2) = I 2 + 1 := if_pos (by omega); rw [hpf]; exact ⟨(by intro hz; rcases hz with hz | hz <;> omega), rfl, rfl⟩), by rw [ht9]; exact hP, hS.F ht9⟩) hS.2.2 dX6_pair_58
    · skip
      -- 15 f
      refine xr_iconst hx hb dX6_pair_18 ?_
      exact W.zret (v := iI 0) hx hb hr (bz_nar (by omega)) (fun t ht9 hW => ⟨0, (uI I 2 (I 2), uF F 7 (F 7)), rfl, (by right; have hpf : pF (F 1) (I 1) (I 2) = I 2 := if_neg (by omega); rw [hpf]; exact ⟨(by intro hz; rcases hz with hz | hz <;> omega), rfl, rfl⟩), by rw [ht9]; exact hP, hS.F ht9⟩) hS.2.2 dX6_pair_19
