set_option maxHeartbeats 4000000 in
set_option maxRecDepth 100000 in
theorem c_X3_readNumber (l : Launch) (D : va_G) (a : Nat → Nat) (k : Nat → ClassId) (I : Nat → Int) (F : Nat → Int → Int) (hdis : dis 24 a) (mx lim n ta : Int) (e1 : I 1 = n) (e2 : I 2 = ta) (ht : txt (F 7) n) (ha : 0 ≤ ta ∧ ta ≤ n) (hm : 1 ≤ mx ∧ mx ≤ 3) (hl9 : 0 ≤ lim ∧ lim ≤ 1000) : mu_M (S := (Nat → Int) × (Nat → Int → Int)) l yX3_readNumber cX3_readNumber 6 (some .int) 1 [.ref (a 1), .int (iI mx), .int (iI lim)] D (xT k) (xW a k I F) (fun u => xW a k u.1 u.2) (fun r u => (nOk (F 7) n ta mx lim ∧ r = nv (F 7) ta (rl (F 7) n ta).toNat ∧ u = (uI I 2 (ta + rl (F 7) n ta), F)) ∨ (¬ nOk (F 7) n ta mx lim ∧ r = -1 ∧ u = (I, F))) (adr 24 a) := by
  refine me_start (by decide) (Nat.le_of_ble_eq_true rfl) rfl ?_
  intro p e s m below meth c hx hb hml hr hown hlocks hnm hG hK hP ls hl
  have hown : s.vm.findClass RX3 = some m.cls := hown
  have hl : lv_has ls 6 [(0, .ref (a 1)), (1, .int (iI mx)), (2, .int (iI lim))] := hl
  have hS : va_S (adr 24 a) s.heap s.heap [] := va_S.rf
  have hn60 : 0 ≤ I 1 ∧ I 1 ≤ 60 := by rw [e1]; exact ht.1
  refine xr_iconst hx hb dX3_readNumber_0 ?_
  refine lv_istore_n (lv' := [(3, .int (iI 0)), (0, .ref (a 1)), (1, .int (iI mx)), (2, .int (iI lim))]) hx hb dX3_readNumber_1 rfl hl (by decide) rfl (fun ls hl => ?_)
  refine lv_aload_n hx hb dX3_readNumber_2 rfl (lv_at hl 1 rfl) ?_
  refine va_get (D := D) (cl := vwC) (ci := 4) (v := .int (iI (I 2))) (C := RX3) (T := TX3) (N := 9) hx hb hG.use i_X3 hown hK hP 1 rfl rfl 2 (by decide) (hG.use _ lf_X3_19) (fun _ h9 => h9) rfl dX3_readNumber_3 ?_
  refine lv_istore (lv' := [(4, .int (iI (I 2))), (3, .int (iI 0)), (0, .ref (a 1)), (1, .int (iI mx)), (2, .int (iI lim))]) hx hb dX3_readNumber_6 hl (by decide) rfl (fun ls hl => ?_)
  have lp_8 : ∀ (nz : Nat) (va : Int) (en : Int), (n - en).toNat < nz → (ta ≤ en ∧ en ≤ n) → (∀ j, 0 ≤ j → j < en - ta → dg (lk (F 7) n (ta + j))) → (va = nv (F 7) ta (en - ta).toNat) → ∀ ls : Array Slot, lv_has ls 6 [(3, .int (iI va)), (4, .int (iI en)), (0, .ref (a 1)), (1, .int (iI mx)), (2, .int (iI lim))] → W p l e (rmd 1) s m ([.ref (a 1), .int (iI mx), .int (iI lim)] : List Value).toArray below meth c s.heap [] 0 0 (MQ below (mu_Q (S := (Nat → Int) × (Nat → Int → Int)) (fun u => xW a k u.1 u.2) D (fun r u => (nOk (F 7) n ta mx lim ∧ r = nv (F 7) ta (rl (F 7) n ta).toNat ∧ u = (uI I 2 (ta + rl (F 7) n ta), F)) ∨ (¬ nOk (F 7) n ta mx lim ∧ r = -1 ∧ u = (I, F))) (adr 24 a)) ([.ref (a 1), .int (iI mx), .int (iI lim)] : List Value).toArray s 0 0 (adr 24 a)) (F0 m 8 ls []) := by
    clear hl
    intro nz
    induction nz with
    | zero =>
      intro va en hn
      exact absurd hn (Nat.not_lt_zero _)
    | succ n_8 ih_8 =>
      intro va en hn_8 i0 i1 i2 ls hl
      refine lv_iload hx hb dX3_readNumber_8 (lv_at hl 1 rfl) ?_
      refine lv_aload_n hx hb dX3_readNumber_10 rfl (lv_at hl 2 rfl) ?_
      refine va_get (D := D) (cl := vwC) (ci := 4) (v := .int (iI (I 1))) (C := RX3) (T := TX3) (N := 9) hx hb hG.use i_X3 hown hK hP 1 rfl rfl 1 (by decide) (hG.use _ lf_X3_15) (fun _ h9 => h9) rfl dX3_readNumber_11 ?_
      refine xr_icmp_ge (a := en) (b := I 1) (tgt := 50) hx hb dX3_readNumber_14 (by decide) (fun c_1 => ?_) (fun c_1 => ?_) (by omega) (by omega)
      · skip
        -- 14 t
        have hrl : rl (F 7) n ta = en - ta := rl_run (by omega) i1 (by
          intro hd
          first
          | (have h9 := lk_lt (T := F 7) (n := n) (i := ta + (en - ta)) (by unfold dg at hd; omega); omega)
          | (unfold dg at hd; rw [show ta + (en - ta) = en by omega, ← e_r] at hd; exact absurd hd (by assumption)))
        refine lv_iload hx hb dX3_readNumber_50 (lv_at hl 1 rfl) ?_
        refine lv_aload_n hx hb dX3_readNumber_52 rfl (lv_at hl 2 rfl) ?_
        refine va_get (D := D) (cl := vwC) (ci := 4) (v := .int (iI (I 2))) (C := RX3) (T := TX3) (N := 9) hx hb hG.use i_X3 hown hK hP 1 rfl rfl 2 (by decide) (hG.use _ lf_X3_19) (fun _ h9 => h9) rfl dX3_readNumber_53 ?_
        refine xr_isub (a := en) (b := I 2) hx hb dX3_readNumber_56 ?_
        refine lv_istore (lv' := [(5, .int (iI (en - (I 2)))), (3, .int (iI va)), (4, .int (iI en)), (0, .ref (a 1)), (1, .int (iI mx)), (2, .int (iI lim))]) hx hb dX3_readNumber_57 hl (by decide) rfl (fun ls hl => ?_)
        refine lv_iload hx hb dX3_readNumber_59 (lv_at hl 0 rfl) ?_
        refine xr_if_eq (a := en - (I 2)) (tgt := 75) hx hb dX3_readNumber_61 (by decide) (fun c_2 => ?_) (fun c_2 => ?_) (by omega)
        · skip
          -- 61 t
          refine xr_iconst hx hb dX3_readNumber_75 ?_
          exact W.iret (v := iI (-1)) hx hb hr (fun t ht9 hW => ⟨(-1), (I, F), rfl, (by right; refine ⟨?_, rfl, rfl⟩; unfold nOk; rw [hrl, ← i2]; omega), by rw [ht9]; exact hP, hS.F ht9⟩) hS.2.2 dX3_readNumber_76
        · skip
          -- 61 f
          refine lv_iload hx hb dX3_readNumber_64 (lv_at hl 0 rfl) ?_
          refine lv_iload_n hx hb dX3_readNumber_66 rfl (lv_at hl 4 rfl) ?_
          refine xr_icmp_gt (a := en - (I 2)) (b := mx) (tgt := 75) hx hb dX3_readNumber_67 (by decide) (fun c_3 => ?_) (fun c_3 => ?_) (by omega) (by omega)
          · skip
            -- 67 t
            refine xr_iconst hx hb dX3_readNumber_75 ?_
            exact W.iret (v := iI (-1)) hx hb hr (fun t ht9 hW => ⟨(-1), (I, F), rfl, (by right; refine ⟨?_, rfl, rfl⟩; unfold nOk; rw [hrl, ← i2]; omega), by rw [ht9]; exact hP, hS.F ht9⟩) hS.2.2 dX3_readNumber_76
          · skip
            -- 67 f
            have f_v : 0 ≤ va ∧ va < 1000 := by
              rw [i2]
              exact nv_3 (by omega) (fun j j0 j1 => dg_T (i1 j j0 (by omega)))
            refine lv_iload_n hx hb dX3_readNumber_70 rfl (lv_at hl 1 rfl) ?_
            refine lv_iload_n hx hb dX3_readNumber_71 rfl (lv_at hl 5 rfl) ?_
            refine xr_icmp_lt (a := va) (b := lim) (tgt := 77) hx hb dX3_readNumber_72 (by decide) (fun c_4 => ?_) (fun c_4 => ?_) (by omega) (by omega)
            · skip
              -- 72 t
              refine lv_aload_n hx hb dX3_readNumber_77 rfl (lv_at hl 3 rfl) ?_
              refine lv_iload hx hb dX3_readNumber_78 (lv_at hl 2 rfl) ?_
              refine va_put (D := D) (cl := vwC) (ci := 4) (v := .int (iI en)) (ty := .int) (C := RX3) (T := TX3) (N := 9) hx hb hG.use i_X3 tyX3 tyX3_ok nmX3 hown hK hP (xD hdis) hS 1 rfl rfl 2 (by decide) (hG.use _ lf_X3_19) (fun _ h9 => h9) rfl (by decide +kernel) rfl rfl (Nat.le_of_ble_eq_true rfl) dX3_readNumber_80 (fun H locs hP _ hS => ?_)
              have hP : va_P D vwC (xW a k (uI I 2 en) F) H := hP
              refine lv_iload_n hx hb dX3_readNumber_83 rfl (lv_at hl 1 rfl) ?_
              exact W.iret (v := iI va) hx hb hr (fun t ht9 hW => ⟨va, (uI I 2 en, F), rfl, (by left; unfold nOk; rw [hrl, show ta + (en - ta) = en by omega, ← i2]; exact ⟨⟨by omega, by omega, by omega⟩, rfl, rfl⟩), by rw [ht9]; exact hP, hS.F ht9⟩) hS.2.2 dX3_readNumber_84
            · skip
              -- 72 f
              refine xr_iconst hx hb dX3_readNumber_75 ?_
              exact W.iret (v := iI (-1)) hx hb hr (fun t ht9 hW => ⟨(-1), (I, F), rfl, (by right; refine ⟨?_, rfl, rfl⟩; unfold nOk; rw [hrl, ← i2]; omega), by rw [ht9]; exact hP, hS.F ht9⟩) hS.2.2 dX3_readNumber_76
      · skip
        -- 14 f
        refine lv_aload_n hx hb dX3_readNumber_17 rfl (lv_at hl 2 rfl) ?_
        refine lv_iload hx hb dX3_readNumber_18 (lv_at hl 1 rfl) ?_
        refine ro_call (g_runV (rest := []) hx hb hml hown hG hK hP mV_X3_signAt (c_X3_signAt l D a k I F en (by omega) hn60) lk_X3_61 (va_recv hK hP (ci := 4) (q0 := 1) rfl rfl) rfl hl.1 rfl (Nat.le_of_ble_eq_true rfl) ⟨(Nat.le_of_ble_eq_true rfl), (Nat.le_of_ble_eq_true rfl)⟩ ⟨(Nat.le_of_ble_eq_true rfl), (Nat.le_of_ble_eq_true rfl)⟩ dX3_readNumber_20) (fun r_5 q_6 => ?_)
        have e_r : r_5 = lk (F 7) n en := by
          have h9 := lk_of q_6
          rw [← e1]
          exact h9
        have f_r := lk_in ht en
        rw [← e_r] at f_r
        refine ro_call (g_runS (rest := []) hx hb hml hown hG (hK.sub (tys' := []) [] rfl) (va_P0) mS_X3_isDigit (c_X3_isDigit l D r_5 (by omega)) lk_X3_65 rfl hl.1 rfl (Nat.le_of_ble_eq_true rfl) ⟨(Nat.le_of_ble_eq_true rfl), (Nat.le_of_ble_eq_true rfl)⟩ ⟨(Nat.le_of_ble_eq_true rfl), (Nat.le_of_ble_eq_true rfl)⟩ dX3_readNumber_23) (fun r_7 q_8 => ?_)
        refine xr_if_eqZ (tgt := 50) hx hb q_8 dX3_readNumber_26 (by decide) (fun c_9 => ?_) (fun c_9 => ?_)
        · skip
          -- 26 t
          have hrl : rl (F 7) n ta = en - ta := rl_run (by omega) i1 (by
            intro hd
            first
            | (have h9 := lk_lt (T := F 7) (n := n) (i := ta + (en - ta)) (by unfold dg at hd; omega); omega)
            | (unfold dg at hd; rw [show ta + (en - ta) = en by omega, ← e_r] at hd; exact absurd hd (by assumption)))
          refine lv_iload hx hb dX3_readNumber_50 (lv_at hl 1 rfl) ?_
          refine lv_aload_n hx hb dX3_readNumber_52 rfl (lv_at hl 2 rfl) ?_
          refine va_get (D := D) (cl := vwC) (ci := 4) (v := .int (iI (I 2))) (C := RX3) (T := TX3) (N := 9) hx hb hG.use i_X3 hown hK hP 1 rfl rfl 2 (by decide) (hG.use _ lf_X3_19) (fun _ h9 => h9) rfl dX3_readNumber_53 ?_
          refine xr_isub (a := en) (b := I 2) hx hb dX3_readNumber_56 ?_
          refine lv_istore (lv' := [(5, .int (iI (en - (I 2)))), (3, .int (iI va)), (4, .int (iI en)), (0, .ref (a 1)), (1, .int (iI mx)), (2, .int (iI lim))]) hx hb dX3_readNumber_57 hl (by decide) rfl (fun ls hl => ?_)
          refine lv_iload hx hb dX3_readNumber_59 (lv_at hl 0 rfl) ?_
          refine xr_if_eq (a := en - (I 2)) (tgt := 75) hx hb dX3_readNumber_61 (by decide) (fun c_10 => ?_) (fun c_10 => ?_) (by omega)
          · skip
            -- 61 t
            refine xr_iconst hx hb dX3_readNumber_75 ?_
            exact W.iret (v := iI (-1)) hx hb hr (fun t ht9 hW => ⟨(-1), (I, F), rfl, (by right; refine ⟨?_, rfl, rfl⟩; unfold nOk; rw [hrl, ← i2]; omega), by rw [ht9]; exact hP, hS.F ht9⟩) hS.2.2 dX3_readNumber_76
          · skip
            -- 61 f
            refine lv_iload hx hb dX3_readNumber_64 (lv_at hl 0 rfl) ?_
            refine lv_iload_n hx hb dX3_readNumber_66 rfl (lv_at hl 4 rfl) ?_
            refine xr_icmp_gt (a := en - (I 2)) (b := mx) (tgt := 75) hx hb dX3_readNumber_67 (by decide) (fun c_11 => ?_) (fun c_11 => ?_) (by omega) (by omega)
            · skip
              -- 67 t
              refine xr_iconst hx hb dX3_readNumber_75 ?_
              exact W.iret (v := iI (-1)) hx hb hr (fun t ht9 hW => ⟨(-1), (I, F), rfl, (by right; refine ⟨?_, rfl, rfl⟩; unfold nOk; rw [hrl, ← i2]; omega), by rw [ht9]; exact hP, hS.F ht9⟩) hS.2.2 dX3_readNumber_76
            · skip
              -- 67 f
              have f_v : 0 ≤ va ∧ va < 1000 := by
                rw [i2]
                exact nv_3 (by omega) (fun j j0 j1 => dg_T (i1 j j0 (by omega)))
              refine lv_iload_n hx hb dX3_readNumber_70 rfl (lv_at hl 1 rfl) ?_
              refine lv_iload_n hx hb dX3_readNumber_71 rfl (lv_at hl 5 rfl) ?_
              refine xr_icmp_lt (a := va) (b := lim) (tgt := 77) hx hb dX3_readNumber_72 (by decide) (fun c_12 => ?_) (fun c_12 => ?_) (by omega) (by omega)
              · skip
                -- 72 t
                refine lv_aload_n hx hb dX3_readNumber_77 rfl (lv_at hl 3 rfl) ?_
                refine lv_iload hx hb dX3_readNumber_78 (lv_at hl 2 rfl) ?_
                refine va_put (D := D) (cl := vwC) (ci := 4) (v := .int (iI en)) (ty := .int) (C := RX3) (T := TX3) (N := 9) hx hb hG.use i_X3 tyX3 tyX3_ok nmX3 hown hK hP (xD hdis) hS 1 rfl rfl 2 (by decide) (hG.use _ lf_X3_19) (fun _ h9 => h9) rfl (by decide +kernel) rfl rfl (Nat.le_of_ble_eq_true rfl) dX3_readNumber_80 (fun H locs hP _ hS => ?_)
                have hP : va_P D vwC (xW a k (uI I 2 en) F) H := hP
                refine lv_iload_n hx hb dX3_readNumber_83 rfl (lv_at hl 1 rfl) ?_
                exact W.iret (v := iI va) hx hb hr (fun t ht9 hW => ⟨va, (uI I 2 en, F), rfl, (by left; unfold nOk; rw [hrl, show ta + (en - ta) = en by omega, ← i2]; exact ⟨⟨by omega, by omega, by omega⟩, rfl, rfl⟩), by rw [ht9]; exact hP, hS.F ht9⟩) hS.2.2 dX3_readNumber_84
              · skip
                -- 72 f
                refine xr_iconst hx hb dX3_readNumber_75 ?_
                exact W.iret (v := iI (-1)) hx hb hr (fun t ht9 hW => ⟨(-1), (I, F), rfl, (by right; refine ⟨?_, rfl, rfl⟩; unfold nOk; rw [hrl, ← i2]; omega), by rw [ht9]; exact hP, hS.F ht9⟩) hS.2.2 dX3_readNumber_76
        · skip
          -- 26 f
          refine lv_iload_n hx hb dX3_readNumber_29 rfl (lv_at hl 0 rfl) ?_
          refine xr_bipush hx hb dX3_readNumber_30 (by decide +kernel) ?_
          refine xr_imul (a := va) (b := 10) hx hb dX3_readNumber_32 ?_
          refine lv_aload_n hx hb dX3_readNumber_33 rfl (lv_at hl 2 rfl) ?_
          refine lv_iload hx hb dX3_readNumber_34 (lv_at hl 1 rfl) ?_
          refine ro_call (g_runV (rest := [.int (iI (va * 10))]) hx hb hml hown hG hK hP mV_X3_signAt (c_X3_signAt l D a k I F en (by omega) hn60) lk_X3_61 (va_recv hK hP (ci := 4) (q0 := 1) rfl rfl) rfl hl.1 rfl (Nat.le_of_ble_eq_true rfl) ⟨(Nat.le_of_ble_eq_true rfl), (Nat.le_of_ble_eq_true rfl)⟩ ⟨(Nat.le_of_ble_eq_true rfl), (Nat.le_of_ble_eq_true rfl)⟩ dX3_readNumber_36) (fun r_13 q_14 => ?_)
          have e_r : r_13 = lk (F 7) n en := by
            have h9 := lk_of q_14
            rw [← e1]
            exact h9
          have f_r := lk_in ht en
          rw [← e_r] at f_r
          have e_T : r_13 = F 7 en := by
            rw [e_r]
            exact if_pos ⟨by omega, by omega⟩
          refine xr_iadd (a := va * 10) (b := r_13) hx hb dX3_readNumber_39 ?_
          refine xr_bipush hx hb dX3_readNumber_40 (by decide +kernel) ?_
          refine xr_isub (a := (va * 10) + r_13) (b := 48) hx hb dX3_readNumber_42 ?_
          refine lv_istore_n (lv' := [(3, .int (iI (((va * 10) + r_13) - 48))), (4, .int (iI en)), (0, .ref (a 1)), (1, .int (iI mx)), (2, .int (iI lim))]) hx hb dX3_readNumber_43 rfl hl (by decide) rfl (fun ls hl => ?_)
          refine xr_iinc (z := en) (lv' := [(4, .int (iI (en + 1))), (3, .int (iI (((va * 10) + r_13) - 48))), (0, .ref (a 1)), (1, .int (iI mx)), (2, .int (iI lim))]) hx hb dX3_readNumber_44 hl (k := 1) rfl (by decide) rfl (fun ls hl => ?_)
          refine lv_goto (tgt := 8) hx hb dX3_readNumber_47 (by decide) ?_
          exact ih_8 (((va * 10) + r_13) - 48) (en + 1) (by omega) (by omega) (by intro j j0 j1; by_cases h : j = en - ta; (rw [h, show ta + (en - ta) = en by omega]; unfold dg; omega); exact i1 j j0 (by omega)) (by rw [show (en + 1 - ta).toNat = (en - ta).toNat + 1 by omega]; show _ = nv (F 7) ta (en - ta).toNat * 10 + F 7 (ta + (((en - ta).toNat : Nat) : Int)) - 48; rw [show ta + (((en - ta).toNat : Nat) : Int) = en by omega, ← i2, e_T]) ls (lv_sub hl [1, 0, 2, 3, 4] rfl)
  exact lp_8 _ 0 (I 2) (Nat.lt_succ_self _) (by omega) (by intro j j0 j1; omega) (by rw [e2, show ta - ta = 0 by omega]; rfl) ls (lv_sub hl [1, 0, 2, 3, 4] rfl)
set_option maxHeartbeats 4000000 in
set_option maxRecDepth 100000 in
theorem c_X3_readFormat (l : Launch) (D : va_G) (a : Nat → Nat) (k : Nat → ClassId) (I : Nat → Int) (F : Nat → Int → Int) (hdis : dis 24 a) (n ta : Int) (e1 : I 1 = n) (e2 : I 2 = ta) (ht : txt (F 7) n) (ha : 0 ≤ ta ∧ ta ≤ n) : mu_M (S := (Nat → Int) × (Nat → Int → Int)) l yX3_readFormat cX3_readFormat 1 (some .boolean) 2 [.ref (a 1)] D (xT k) (xW a k I F) (fun u => xW a k u.1 u.2) (fun r u => (nOk (F 7) n ta 2 30 ∧ r = 1 ∧ u = (uI (uI I 2 (ta + rl (F 7) n ta)) 3 (nv (F 7) ta (rl (F 7) n ta).toNat), F)) ∨ (¬ nOk (F 7) n ta 2 30 ∧ r = 0 ∧ u = (uI I 3 (-1), F))) (adr 24 a) := by
  refine me_start (by decide) (Nat.le_of_ble_eq_true rfl) rfl ?_
  intro p e s m below meth c hx hb hml hr hown hlocks hnm hG hK hP ls hl
  have hown : s.vm.findClass RX3 = some m.cls := hown
  have hl : lv_has ls 1 [(0, .ref (a 1))] := hl
  have hS : va_S (adr 24 a) s.heap s.heap [] := va_S.rf
  subst e1
  subst e2
  have hn60 : 0 ≤ I 1 ∧ I 1 ≤ 60 := ht.1
  refine lv_aload_n hx hb dX3_readFormat_0 rfl (lv_at hl 0 rfl) ?_
  refine lv_aload_n hx hb dX3_readFormat_1 rfl (lv_at hl 0 rfl) ?_
  refine xr_iconst hx hb dX3_readFormat_2 ?_
  refine xr_bipush hx hb dX3_readFormat_3 (by decide +kernel) ?_
  refine mu_call (g_runV (rest := [.ref (a 1)]) hx hb hml hown hG hK hP mV_X3_readNumber (c_X3_readNumber l D a k I F hdis 2 30 (I 1) (I 2) rfl rfl ht (by omega) (by omega) (by omega)) lk_X3_57 (va_recv hK hP (ci := 4) (q0 := 1) rfl rfl) rfl hl.1 rfl (Nat.le_of_ble_eq_true rfl) ⟨(Nat.le_of_ble_eq_true rfl), (Nat.le_of_ble_eq_true rfl)⟩ ⟨(Nat.le_of_ble_eq_true rfl), (Nat.le_of_ble_eq_true rfl)⟩ dX3_readFormat_5) hS (fun _ h => h) (fun r_1 u H locs q_2 hP _ _ hS => ?_)
  obtain ⟨I1, F1⟩ := u
  try dsimp only at q_2
  rcases q_2 with ⟨ho, rfl, hu⟩ | ⟨ho, rfl, hu⟩
  · skip
    cases hu
    have hP : va_P D vwC (xW a k (uI I 2 ((I 2) + rl (F 7) (I 1) (I 2))) F) H := hP
    have f_o := nOk_in ho (by omega)
    refine va_put (D := D) (cl := vwC) (ci := 4) (v := .int (iI (nv (F 7) (I 2) (rl (F 7) (I 1) (I 2)).toNat))) (ty := .int) (C := RX3) (T := TX3) (N := 9) hx hb hG.use i_X3 tyX3 tyX3_ok nmX3 hown hK hP (xD hdis) hS 1 rfl rfl 3 (by decide) (hG.use _ lf_X3_22) (fun _ h9 => h9) rfl (by decide +kernel) rfl rfl (Nat.le_of_ble_eq_true rfl) dX3_readFormat_8 (fun H locs hP _ hS => ?_)
    have hP : va_P D vwC (xW a k (uI (uI I 2 ((I 2) + rl (F 7) (I 1) (I 2))) 3 (nv (F 7) (I 2) (rl (F 7) (I 1) (I 2)).toNat)) F) H := hP
    refine lv_aload_n hx hb dX3_readFormat_11 rfl (lv_at hl 0 rfl) ?_
    refine va_get (D := D) (cl := vwC) (ci := 4) (v := .int (iI (nv (F 7) (I 2) (rl (F 7) (I 1) (I 2)).toNat))) (C := RX3) (T := TX3) (N := 9) hx hb hG.use i_X3 hown hK hP 1 rfl rfl 3 (by decide) (hG.use _ lf_X3_22) (fun _ h9 => h9) rfl dX3_readFormat_12 ?_
    refine xr_iconst hx hb dX3_readFormat_15 ?_
    refine xr_icmp_eq (a := nv (F 7) (I 2) (rl (F 7) (I 1) (I 2)).toNat) (b := (-1)) (tgt := 23) hx hb dX3_readFormat_16 (by decide) (fun c_3 => ?_) (fun c_3 => ?_) (by omega) (by omega)
    · skip
      -- 16 t
      refine xr_iconst hx hb dX3_readFormat_23 ?_
      exact W.zret (v := iI 0) hx hb hr (bz_nar (by omega)) (fun t ht9 hW => ⟨0, (uI (uI I 2 ((I 2) + rl (F 7) (I 1) (I 2))) 3 (nv (F 7) (I 2) (rl (F 7) (I 1) (I 2)).toNat), F), rfl, (by first | exact Or.inl ⟨ho, rfl, rfl⟩ | exact Or.inr ⟨ho, rfl, rfl⟩ | (exfalso; omega)), by rw [ht9]; exact hP, hS.F ht9⟩) hS.2.2 dX3_readFormat_24
    · skip
      -- 16 f
      refine xr_iconst hx hb dX3_readFormat_19 ?_
      refine lv_goto (tgt := 24) hx hb dX3_readFormat_20 (by decide) ?_
      exact W.zret (v := iI 1) hx hb hr (bz_nar (by omega)) (fun t ht9 hW => ⟨1, (uI (uI I 2 ((I 2) + rl (F 7) (I 1) (I 2))) 3 (nv (F 7) (I 2) (rl (F 7) (I 1) (I 2)).toNat), F), rfl, (by first | exact Or.inl ⟨ho, rfl, rfl⟩ | exact Or.inr ⟨ho, rfl, rfl⟩ | (exfalso; omega)), by rw [ht9]; exact hP, hS.F ht9⟩) hS.2.2 dX3_readFormat_24
  · skip
    cases hu
    have hP : va_P D vwC (xW a k I F) H := hP
    refine va_put (D := D) (cl := vwC) (ci := 4) (v := .int (iI (-1))) (ty := .int) (C := RX3) (T := TX3) (N := 9) hx hb hG.use i_X3 tyX3 tyX3_ok nmX3 hown hK hP (xD hdis) hS 1 rfl rfl 3 (by decide) (hG.use _ lf_X3_22) (fun _ h9 => h9) rfl (by decide +kernel) rfl rfl (Nat.le_of_ble_eq_true rfl) dX3_readFormat_8 (fun H locs hP _ hS => ?_)
    have hP : va_P D vwC (xW a k (uI I 3 (-1)) F) H := hP
    refine lv_aload_n hx hb dX3_readFormat_11 rfl (lv_at hl 0 rfl) ?_
    refine va_get (D := D) (cl := vwC) (ci := 4) (v := .int (iI (-1))) (C := RX3) (T := TX3) (N := 9) hx hb hG.use i_X3 hown hK hP 1 rfl rfl 3 (by decide) (hG.use _ lf_X3_22) (fun _ h9 => h9) rfl dX3_readFormat_12 ?_
    refine xr_iconst hx hb dX3_readFormat_15 ?_
    refine xr_icmp_eq (a := (-1)) (b := (-1)) (tgt := 23) hx hb dX3_readFormat_16 (by decide) (fun c_4 => ?_) (fun c_4 => ?_) (by omega) (by omega)
    · skip
      -- 16 t
      refine xr_iconst hx hb dX3_readFormat_23 ?_
      exact W.zret (v := iI 0) hx hb hr (bz_nar (by omega)) (fun t ht9 hW => ⟨0, (uI I 3 (-1), F), rfl, (by first | exact Or.inl ⟨ho, rfl, rfl⟩ | exact Or.inr ⟨ho, rfl, rfl⟩ | (exfalso; omega)), by rw [ht9]; exact hP, hS.F ht9⟩) hS.2.2 dX3_readFormat_24
    · exact absurd c_4 (by omega)
set_option maxHeartbeats 4000000 in
set_option maxRecDepth 100000 in
theorem c_X3_readRank (l : Launch) (D : va_G) (a : Nat → Nat) (k : Nat → ClassId) (I : Nat → Int) (F : Nat → Int → Int) (hdis : dis 24 a) (n ta : Int) (e1 : I 1 = n) (e2 : I 2 = ta) (ht : txt (F 7) n) (ha : 0 ≤ ta ∧ ta ≤ n) : mu_M (S := (Nat → Int) × (Nat → Int → Int)) l yX3_readRank cX3_readRank 1 (some .boolean) 2 [.ref (a 1)] D (xT k) (xW a k I F) (fun u => xW a k u.1 u.2) (fun r u => (nOk (F 7) n ta 1 10 ∧ r = 1 ∧ u = (uI (uI I 2 (ta + rl (F 7) n ta)) 4 (nv (F 7) ta (rl (F 7) n ta).toNat), F)) ∨ (¬ nOk (F 7) n ta 1 10 ∧ r = 0 ∧ u = (uI I 4 (-1), F))) (adr 24 a) := by
  refine me_start (by decide) (Nat.le_of_ble_eq_true rfl) rfl ?_
  intro p e s m below meth c hx hb hml hr hown hlocks hnm hG hK hP ls hl
  have hown : s.vm.findClass RX3 = some m.cls := hown
  have hl : lv_has ls 1 [(0, .ref (a 1))] := hl
  have hS : va_S (adr 24 a) s.heap s.heap [] := va_S.rf
  subst e1
  subst e2
  have hn60 : 0 ≤ I 1 ∧ I 1 ≤ 60 := ht.1
  refine lv_aload_n hx hb dX3_readRank_0 rfl (lv_at hl 0 rfl) ?_
  refine lv_aload_n hx hb dX3_readRank_1 rfl (lv_at hl 0 rfl) ?_
  refine xr_iconst hx hb dX3_readRank_2 ?_
  refine xr_bipush hx hb dX3_readRank_3 (by decide +kernel) ?_
  refine mu_call (g_runV (rest := [.ref (a 1)]) hx hb hml hown hG hK hP mV_X3_readNumber (c_X3_readNumber l D a k I F hdis 1 10 (I 1) (I 2) rfl rfl ht (by omega) (by omega) (by omega)) lk_X3_57 (va_recv hK hP (ci := 4) (q0 := 1) rfl rfl) rfl hl.1 rfl (Nat.le_of_ble_eq_true rfl) ⟨(Nat.le_of_ble_eq_true rfl), (Nat.le_of_ble_eq_true rfl)⟩ ⟨(Nat.le_of_ble_eq_true rfl), (Nat.le_of_ble_eq_true rfl)⟩ dX3_readRank_5) hS (fun _ h => h) (fun r_1 u H locs q_2 hP _ _ hS => ?_)
  obtain ⟨I1, F1⟩ := u
  try dsimp only at q_2
  rcases q_2 with ⟨ho, rfl, hu⟩ | ⟨ho, rfl, hu⟩
  · skip
    cases hu
    have hP : va_P D vwC (xW a k (uI I 2 ((I 2) + rl (F 7) (I 1) (I 2))) F) H := hP
    have f_o := nOk_in ho (by omega)
    refine va_put (D := D) (cl := vwC) (ci := 4) (v := .int (iI (nv (F 7) (I 2) (rl (F 7) (I 1) (I 2)).toNat))) (ty := .int) (C := RX3) (T := TX3) (N := 9) hx hb hG.use i_X3 tyX3 tyX3_ok nmX3 hown hK hP (xD hdis) hS 1 rfl rfl 4 (by decide) (hG.use _ lf_X3_25) (fun _ h9 => h9) rfl (by decide +kernel) rfl rfl (Nat.le_of_ble_eq_true rfl) dX3_readRank_8 (fun H locs hP _ hS => ?_)
    have hP : va_P D vwC (xW a k (uI (uI I 2 ((I 2) + rl (F 7) (I 1) (I 2))) 4 (nv (F 7) (I 2) (rl (F 7) (I 1) (I 2)).toNat)) F) H := hP
    refine lv_aload_n hx hb dX3_readRank_11 rfl (lv_at hl 0 rfl) ?_
    refine va_get (D := D) (cl := vwC) (ci := 4) (v := .int (iI (nv (F 7) (I 2) (rl (F 7) (I 1) (I 2)).toNat))) (C := RX3) (T := TX3) (N := 9) hx hb hG.use i_X3 hown hK hP 1 rfl rfl 4 (by decide) (hG.use _ lf_X3_25) (fun _ h9 => h9) rfl dX3_readRank_12 ?_
    refine xr_iconst hx hb dX3_readRank_15 ?_
    refine xr_icmp_eq (a := nv (F 7) (I 2) (rl (F 7) (I 1) (I 2)).toNat) (b := (-1)) (tgt := 23) hx hb dX3_readRank_16 (by decide) (fun c_3 => ?_) (fun c_3 => ?_) (by omega) (by omega)
    · skip
      -- 16 t
      refine xr_iconst hx hb dX3_readRank_23 ?_
      exact W.zret (v := iI 0) hx hb hr (bz_nar (by omega)) (fun t ht9 hW => ⟨0, (uI (uI I 2 ((I 2) + rl (F 7) (I 1) (I 2))) 4 (nv (F 7) (I 2) (rl (F 7) (I 1) (I 2)).toNat), F), rfl, (by first | exact Or.inl ⟨ho, rfl, rfl⟩ | exact Or.inr ⟨ho, rfl, rfl⟩ | (exfalso; omega)), by rw [ht9]; exact hP, hS.F ht9⟩) hS.2.2 dX3_readRank_24
    · skip
      -- 16 f
      refine xr_iconst hx hb dX3_readRank_19 ?_
      refine lv_goto (tgt := 24) hx hb dX3_readRank_20 (by decide) ?_
      exact W.zret (v := iI 1) hx hb hr (bz_nar (by omega)) (fun t ht9 hW => ⟨1, (uI (uI I 2 ((I 2) + rl (F 7) (I 1) (I 2))) 4 (nv (F 7) (I 2) (rl (F 7) (I 1) (I 2)).toNat), F), rfl, (by first | exact Or.inl ⟨ho, rfl, rfl⟩ | exact Or.inr ⟨ho, rfl, rfl⟩ | (exfalso; omega)), by rw [ht9]; exact hP, hS.F ht9⟩) hS.2.2 dX3_readRank_24
  · skip
    cases hu
    have hP : va_P D vwC (xW a k I F) H := hP
    refine va_put (D := D) (cl := vwC) (ci := 4) (v := .int (iI (-1))) (ty := .int) (C := RX3) (T := TX3) (N := 9) hx hb hG.use i_X3 tyX3 tyX3_ok nmX3 hown hK hP (xD hdis) hS 1 rfl rfl 4 (by decide) (hG.use _ lf_X3_25) (fun _ h9 => h9) rfl (by decide +kernel) rfl rfl (Nat.le_of_ble_eq_true rfl) dX3_readRank_8 (fun H locs hP _ hS => ?_)
    have hP : va_P D vwC (xW a k (uI I 4 (-1)) F) H := hP
    refine lv_aload_n hx hb dX3_readRank_11 rfl (lv_at hl 0 rfl) ?_
    refine va_get (D := D) (cl := vwC) (ci := 4) (v := .int (iI (-1))) (C := RX3) (T := TX3) (N := 9) hx hb hG.use i_X3 hown hK hP 1 rfl rfl 4 (by decide) (hG.use _ lf_X3_25) (fun _ h9 => h9) rfl dX3_readRank_12 ?_
    refine xr_iconst hx hb dX3_readRank_15 ?_
    refine xr_icmp_eq (a := (-1)) (b := (-1)) (tgt := 23) hx hb dX3_readRank_16 (by decide) (fun c_4 => ?_) (fun c_4 => ?_) (by omega) (by omega)
    · skip
      -- 16 t
      refine xr_iconst hx hb dX3_readRank_23 ?_
      exact W.zret (v := iI 0) hx hb hr (bz_nar (by omega)) (fun t ht9 hW => ⟨0, (uI I 4 (-1), F), rfl, (by first | exact Or.inl ⟨ho, rfl, rfl⟩ | exact Or.inr ⟨ho, rfl, rfl⟩ | (exfalso; omega)), by rw [ht9]; exact hP, hS.F ht9⟩) hS.2.2 dX3_readRank_24
    · exact absurd c_4 (by omega)
set_option maxHeartbeats 4000000 in
set_option maxRecDepth 100000 in
theorem c_X3_readBlank (l : Launch) (D : va_G) (a : Nat → Nat) (k : Nat → ClassId) (I : Nat → Int) (F : Nat → Int → Int) (hdis : dis 24 a) (n ta : Int) (e1 : I 1 = n) (e2 : I 2 = ta) (ht : txt (F 7) n) (ha : 0 ≤ ta ∧ ta ≤ n) : mu_M (S := (Nat → Int) × (Nat → Int → Int)) l yX3_readBlank cX3_readBlank 1 (some .boolean) 1 [.ref (a 1)] D (xT k) (xW a k I F) (fun u => xW a k u.1 u.2) (fun r u => (lk (F 7) n ta = 32 ∧ r = 1 ∧ u = (uI I 2 (ta + 1), F)) ∨ (lk (F 7) n ta ≠ 32 ∧ r = 0 ∧ u = (I, F))) (adr 24 a) := by
  refine me_start (by decide) (Nat.le_of_ble_eq_true rfl) rfl ?_
  intro p e s m below meth c hx hb hml hr hown hlocks hnm hG hK hP ls hl
  have hown : s.vm.findClass RX3 = some m.cls := hown
  have hl : lv_has ls 1 [(0, .ref (a 1))] := hl
  have hS : va_S (adr 24 a) s.heap s.heap [] := va_S.rf
  subst e1
  subst e2
  have hn60 : 0 ≤ I 1 ∧ I 1 ≤ 60 := ht.1
  refine lv_aload_n hx hb dX3_readBlank_0 rfl (lv_at hl 0 rfl) ?_
  refine lv_aload_n hx hb dX3_readBlank_1 rfl (lv_at hl 0 rfl) ?_
  refine va_get (D := D) (cl := vwC) (ci := 4) (v := .int (iI (I 2))) (C := RX3) (T := TX3) (N := 9) hx hb hG.use i_X3 hown hK hP 1 rfl rfl 2 (by decide) (hG.use _ lf_X3_19) (fun _ h9 => h9) rfl dX3_readBlank_2 ?_
  refine ro_call (g_runV (rest := []) hx hb hml hown hG hK hP mV_X3_signAt (c_X3_signAt l D a k I F (I 2) (by omega) hn60) lk_X3_61 (va_recv hK hP (ci := 4) (q0 := 1) rfl rfl) rfl hl.1 rfl (Nat.le_of_ble_eq_true rfl) ⟨(Nat.le_of_ble_eq_true rfl), (Nat.le_of_ble_eq_true rfl)⟩ ⟨(Nat.le_of_ble_eq_true rfl), (Nat.le_of_ble_eq_true rfl)⟩ dX3_readBlank_5) (fun r_1 q_2 => ?_)
  have e_r : r_1 = lk (F 7) (I 1) (I 2) := by
    have h9 := lk_of q_2
    exact h9
  have f_r := lk_in ht (I 2)
  rw [← e_r] at f_r
  refine xr_bipush hx hb dX3_readBlank_8 (by decide +kernel) ?_
  refine xr_icmp_eq (a := r_1) (b := 32) (tgt := 15) hx hb dX3_readBlank_10 (by decide) (fun c_3 => ?_) (fun c_3 => ?_) (by omega) (by omega)
  · skip
    -- 10 t
    refine lv_aload_n hx hb dX3_readBlank_15 rfl (lv_at hl 0 rfl) ?_
    refine lv_dup hx hb dX3_readBlank_16 rfl ?_
    refine va_get (D := D) (cl := vwC) (ci := 4) (v := .int (iI (I 2))) (C := RX3) (T := TX3) (N := 9) hx hb hG.use i_X3 hown hK hP 1 rfl rfl 2 (by decide) (hG.use _ lf_X3_19) (fun _ h9 => h9) rfl dX3_readBlank_17 ?_
    refine xr_iconst hx hb dX3_readBlank_20 ?_
    refine xr_iadd (a := I 2) (b := 1) hx hb dX3_readBlank_21 ?_
    refine va_put (D := D) (cl := vwC) (ci := 4) (v := .int (iI ((I 2) + 1))) (ty := .int) (C := RX3) (T := TX3) (N := 9) hx hb hG.use i_X3 tyX3 tyX3_ok nmX3 hown hK hP (xD hdis) hS 1 rfl rfl 2 (by decide) (hG.use _ lf_X3_19) (fun _ h9 => h9) rfl (by decide +kernel) rfl rfl (Nat.le_of_ble_eq_true rfl) dX3_readBlank_22 (fun H locs hP _ hS => ?_)
    have hP : va_P D vwC (xW a k (uI I 2 ((I 2) + 1)) F) H := hP
    refine xr_iconst hx hb dX3_readBlank_25 ?_
    exact W.zret (v := iI 1) hx hb hr (bz_nar (by omega)) (fun t ht9 hW => ⟨1, (uI I 2 ((I 2) + 1), F), rfl, (by first | exact Or.inl ⟨by omega, rfl, rfl⟩ | exact Or.inr ⟨by omega, rfl, rfl⟩), by rw [ht9]; exact hP, hS.F ht9⟩) hS.2.2 dX3_readBlank_26
  · skip
    -- 10 f
    refine xr_iconst hx hb dX3_readBlank_13 ?_
    exact W.zret (v := iI 0) hx hb hr (bz_nar (by omega)) (fun t ht9 hW => ⟨0, (I, F), rfl, (by first | exact Or.inl ⟨by omega, rfl, rfl⟩ | exact Or.inr ⟨by omega, rfl, rfl⟩), by rw [ht9]; exact hP, hS.F ht9⟩) hS.2.2 dX3_readBlank_14
set_option maxHeartbeats 4000000 in
set_option maxRecDepth 100000 in
theorem c_X3_readOffset (l : Launch) (D : va_G) (a : Nat → Nat) (k : Nat → ClassId) (I : Nat → Int) (F : Nat → Int → Int) (hdis : dis 24 a) (n ta : Int) (e1 : I 1 = n) (e2 : I 2 = ta) (ht : txt (F 7) n) (ha : 0 ≤ ta ∧ ta ≤ n) : mu_M (S := (Nat → Int) × (Nat → Int → Int)) l yX3_readOffset cX3_readOffset 2 (some .boolean) 2 [.ref (a 1)] D (xT k) (xW a k I F) (fun u => xW a k u.1 u.2) (fun r u => ((lk (F 7) n ta ≠ 64 ∧ lk (F 7) n ta ≠ 45) ∧ r = 0 ∧ u = (I, F)) ∨ (∃ fe : Int, ((lk (F 7) n ta = 45 ∧ fe = 1) ∨ (lk (F 7) n ta = 64 ∧ fe = 0)) ∧ ((nOk (F 7) n (ta + 1) 3 1000 ∧ r = 1 ∧ u = (uI (uI (uI (uI I 5 fe) 2 (ta + 1)) 2 (ta + 1 + rl (F 7) n (ta + 1))) 6 (nv (F 7) (ta + 1) (rl (F 7) n (ta + 1)).toNat), F)) ∨ (¬ nOk (F 7) n (ta + 1) 3 1000 ∧ r = 0 ∧ u = (uI (uI (uI I 5 fe) 2 (ta + 1)) 6 (-1), F))))) (adr 24 a) := by
  refine me_start (by decide) (Nat.le_of_ble_eq_true rfl) rfl ?_
  intro p e s m below meth c hx hb hml hr hown hlocks hnm hG hK hP ls hl
  have hown : s.vm.findClass RX3 = some m.cls := hown
  have hl : lv_has ls 2 [(0, .ref (a 1))] := hl
  have hS : va_S (adr 24 a) s.heap s.heap [] := va_S.rf
  subst e1
  subst e2
  have hn60 : 0 ≤ I 1 ∧ I 1 ≤ 60 := ht.1
  refine lv_aload_n hx hb dX3_readOffset_0 rfl (lv_at hl 0 rfl) ?_
  refine lv_aload_n hx hb dX3_readOffset_1 rfl (lv_at hl 0 rfl) ?_
  refine va_get (D := D) (cl := vwC) (ci := 4) (v := .int (iI (I 2))) (C := RX3) (T := TX3) (N := 9) hx hb hG.use i_X3 hown hK hP 1 rfl rfl 2 (by decide) (hG.use _ lf_X3_19) (fun _ h9 => h9) rfl dX3_readOffset_2 ?_
  refine ro_call (g_runV (rest := []) hx hb hml hown hG hK hP mV_X3_signAt (c_X3_signAt l D a k I F (I 2) (by omega) hn60) lk_X3_61 (va_recv hK hP (ci := 4) (q0 := 1) rfl rfl) rfl hl.1 rfl (Nat.le_of_ble_eq_true rfl) ⟨(Nat.le_of_ble_eq_true rfl), (Nat.le_of_ble_eq_true rfl)⟩ ⟨(Nat.le_of_ble_eq_true rfl), (Nat.le_of_ble_eq_true rfl)⟩ dX3_readOffset_5) (fun r_1 q_2 => ?_)
  have e_r : r_1 = lk (F 7) (I 1) (I 2) := by
    have h9 := lk_of q_2
    exact h9
  have f_r := lk_in ht (I 2)
  rw [← e_r] at f_r
  refine lv_istore_n (lv' := [(1, .int (iI r_1)), (0, .ref (a 1))]) hx hb dX3_readOffset_8 rfl hl (by decide) rfl (fun ls hl => ?_)
  refine lv_iload_n hx hb dX3_readOffset_9 rfl (lv_at hl 0 rfl) ?_
  refine xr_bipush hx hb dX3_readOffset_10 (by decide +kernel) ?_
  refine xr_icmp_eq (a := r_1) (b := 64) (tgt := 23) hx hb dX3_readOffset_12 (by decide) (fun c_3 => ?_) (fun c_3 => ?_) (by omega) (by omega)
  · skip
    -- 12 t
    have f_lt := lk_lt (T := F 7) (n := I 1) (i := I 2) (by omega)
    refine lv_aload_n hx hb dX3_readOffset_23 rfl (lv_at hl 1 rfl) ?_
    refine lv_iload_n hx hb dX3_readOffset_24 rfl (lv_at hl 0 rfl) ?_
    refine xr_bipush hx hb dX3_readOffset_25 (by decide +kernel) ?_
    refine xr_icmp_ne (a := r_1) (b := 45) (tgt := 34) hx hb dX3_readOffset_27 (by decide) (fun c_4 => ?_) (fun c_4 => ?_) (by omega) (by omega)
    · skip
      -- 27 t
      refine xr_iconst hx hb dX3_readOffset_34 ?_
      refine va_put (D := D) (cl := vwC) (ci := 4) (v := .int (iI 0)) (ty := .boolean) (C := RX3) (T := TX3) (N := 9) hx hb hG.use i_X3 tyX3 tyX3_ok nmX3 hown hK hP (xD hdis) hS 1 rfl rfl 5 (by decide) (hG.use _ lf_X3_28) (fun _ h9 => h9) rfl (by decide +kernel) (bz_nar (by omega)) (bz_fit (by omega)) (Nat.le_of_ble_eq_true rfl) dX3_readOffset_35 (fun H locs hP _ hS => ?_)
      have hP : va_P D vwC (xW a k (uI I 5 0) F) H := hP
      refine lv_aload_n hx hb dX3_readOffset_38 rfl (lv_at hl 1 rfl) ?_
      refine lv_dup hx hb dX3_readOffset_39 rfl ?_
      refine va_get (D := D) (cl := vwC) (ci := 4) (v := .int (iI (I 2))) (C := RX3) (T := TX3) (N := 9) hx hb hG.use i_X3 hown hK hP 1 rfl rfl 2 (by decide) (hG.use _ lf_X3_19) (fun _ h9 => h9) rfl dX3_readOffset_40 ?_
      refine xr_iconst hx hb dX3_readOffset_43 ?_
      refine xr_iadd (a := I 2) (b := 1) hx hb dX3_readOffset_44 ?_
      refine va_put (D := D) (cl := vwC) (ci := 4) (v := .int (iI ((I 2) + 1))) (ty := .int) (C := RX3) (T := TX3) (N := 9) hx hb hG.use i_X3 tyX3 tyX3_ok nmX3 hown hK hP (xD hdis) hS 1 rfl rfl 2 (by decide) (hG.use _ lf_X3_19) (fun _ h9 => h9) rfl (by decide +kernel) rfl rfl (Nat.le_of_ble_eq_true rfl) dX3_readOffset_45 (fun H locs hP _ hS => ?_)
      have hP : va_P D vwC (xW a k (uI (uI I 5 0) 2 ((I 2) + 1)) F) H := hP
      refine lv_aload_n hx hb dX3_readOffset_48 rfl (lv_at hl 1 rfl) ?_
      refine lv_aload_n hx hb dX3_readOffset_49 rfl (lv_at hl 1 rfl) ?_
      refine xr_iconst hx hb dX3_readOffset_50 ?_
      refine xr_sipush hx hb dX3_readOffset_51 (by decide +kernel) ?_
      refine mu_call (g_runV (rest := [.ref (a 1)]) hx hb hml hown hG hK hP mV_X3_readNumber (c_X3_readNumber l D a k (uI (uI I 5 0) 2 ((I 2) + 1)) F hdis 3 1000 (I 1) ((I 2) + 1) rfl rfl ht (by omega) (by omega) (by omega)) lk_X3_57 (va_recv hK hP (ci := 4) (q0 := 1) rfl rfl) rfl hl.1 rfl (Nat.le_of_ble_eq_true rfl) ⟨(Nat.le_of_ble_eq_true rfl), (Nat.le_of_ble_eq_true rfl)⟩ ⟨(Nat.le_of_ble_eq_true rfl), (Nat.le_of_ble_eq_true rfl)⟩ dX3_readOffset_54) hS (fun _ h => h) (fun r_5 u H locs q_6 hP _ _ hS => ?_)
      obtain ⟨I1, F1⟩ := u
      try dsimp only at q_6
      rcases q_6 with ⟨ho, rfl, hu⟩ | ⟨ho, rfl, hu⟩
      · skip
        cases hu
        have hP : va_P D vwC (xW a k (uI (uI (uI I 5 0) 2 ((I 2) + 1)) 2 (((I 2) + 1) + rl (F 7) (I 1) ((I 2) + 1))) F) H := hP
        have f_o := nOk_in ho (by omega)
        refine va_put (D := D) (cl := vwC) (ci := 4) (v := .int (iI (nv (F 7) ((I 2) + 1) (rl (F 7) (I 1) ((I 2) + 1)).toNat))) (ty := .int) (C := RX3) (T := TX3) (N := 9) hx hb hG.use i_X3 tyX3 tyX3_ok nmX3 hown hK hP (xD hdis) hS 1 rfl rfl 6 (by decide) (hG.use _ lf_X3_32) (fun _ h9 => h9) rfl (by decide +kernel) rfl rfl (Nat.le_of_ble_eq_true rfl) dX3_readOffset_57 (fun H locs hP _ hS => ?_)
        have hP : va_P D vwC (xW a k (uI (uI (uI (uI I 5 0) 2 ((I 2) + 1)) 2 (((I 2) + 1) + rl (F 7) (I 1) ((I 2) + 1))) 6 (nv (F 7) ((I 2) + 1) (rl (F 7) (I 1) ((I 2) + 1)).toNat)) F) H := hP
        refine lv_aload_n hx hb dX3_readOffset_60 rfl (lv_at hl 1 rfl) ?_
        refine va_get (D := D) (cl := vwC) (ci := 4) (v := .int (iI (nv (F 7) ((I 2) + 1) (rl (F 7) (I 1) ((I 2) + 1)).toNat))) (C := RX3) (T := TX3) (N := 9) hx hb hG.use i_X3 hown hK hP 1 rfl rfl 6 (by decide) (hG.use _ lf_X3_32) (fun _ h9 => h9) rfl dX3_readOffset_61 ?_
        refine xr_iconst hx hb dX3_readOffset_64 ?_
        refine xr_icmp_eq (a := nv (F 7) ((I 2) + 1) (rl (F 7) (I 1) ((I 2) + 1)).toNat) (b := (-1)) (tgt := 72) hx hb dX3_readOffset_65 (by decide) (fun c_7 => ?_) (fun c_7 => ?_) (by omega) (by omega)
        · skip
          -- 65 t
          refine xr_iconst hx hb dX3_readOffset_72 ?_
          exact W.zret (v := iI 0) hx hb hr (bz_nar (by omega)) (fun t ht9 hW => ⟨0, (uI (uI (uI (uI I 5 0) 2 ((I 2) + 1)) 2 (((I 2) + 1) + rl (F 7) (I 1) ((I 2) + 1))) 6 (nv (F 7) ((I 2) + 1) (rl (F 7) (I 1) ((I 2) + 1)).toNat), F), rfl, (by right; first | exact ⟨1, by omega, Or.inl ⟨ho, rfl, rfl⟩⟩ | exact ⟨0, by omega, Or.inl ⟨ho, rfl, rfl⟩⟩ | exact ⟨1, by omega, Or.inr ⟨ho, rfl, rfl⟩⟩ | exact ⟨0, by omega, Or.inr ⟨ho, rfl, rfl⟩⟩ | (exfalso; omega)), by rw [ht9]; exact hP, hS.F ht9⟩) hS.2.2 dX3_readOffset_73
        · skip
          -- 65 f
          refine xr_iconst hx hb dX3_readOffset_68 ?_
          refine lv_goto (tgt := 73) hx hb dX3_readOffset_69 (by decide) ?_
          exact W.zret (v := iI 1) hx hb hr (bz_nar (by omega)) (fun t ht9 hW => ⟨1, (uI (uI (uI (uI I 5 0) 2 ((I 2) + 1)) 2 (((I 2) + 1) + rl (F 7) (I 1) ((I 2) + 1))) 6 (nv (F 7) ((I 2) + 1) (rl (F 7) (I 1) ((I 2) + 1)).toNat), F), rfl, (by right; first | exact ⟨1, by omega, Or.inl ⟨ho, rfl, rfl⟩⟩ | exact ⟨0, by omega, Or.inl ⟨ho, rfl, rfl⟩⟩ | exact ⟨1, by omega, Or.inr ⟨ho, rfl, rfl⟩⟩ | exact ⟨0, by omega, Or.inr ⟨ho, rfl, rfl⟩⟩ | (exfalso; omega)), by rw [ht9]; exact hP, hS.F ht9⟩) hS.2.2 dX3_readOffset_73
      · skip
        cases hu
        have hP : va_P D vwC (xW a k (uI (uI I 5 0) 2 ((I 2) + 1)) F) H := hP
        refine va_put (D := D) (cl := vwC) (ci := 4) (v := .int (iI (-1))) (ty := .int) (C := RX3) (T := TX3) (N := 9) hx hb hG.use i_X3 tyX3 tyX3_ok nmX3 hown hK hP (xD hdis) hS 1 rfl rfl 6 (by decide) (hG.use _ lf_X3_32) (fun _ h9 => h9) rfl (by decide +kernel) rfl rfl (Nat.le_of_ble_eq_true rfl) dX3_readOffset_57 (fun H locs hP _ hS => ?_)
        have hP : va_P D vwC (xW a k (uI (uI (uI I 5 0) 2 ((I 2) + 1)) 6 (-1)) F) H := hP
        refine lv_aload_n hx hb dX3_readOffset_60 rfl (lv_at hl 1 rfl) ?_
        refine va_get (D := D) (cl := vwC) (ci := 4) (v := .int (iI (-1))) (C := RX3) (T := TX3) (N := 9) hx hb hG.use i_X3 hown hK hP 1 rfl rfl 6 (by decide) (hG.use _ lf_X3_32) (fun _ h9 => h9) rfl dX3_readOffset_61 ?_
        refine xr_iconst hx hb dX3_readOffset_64 ?_
        refine xr_icmp_eq (a := (-1)) (b := (-1)) (tgt := 72) hx hb dX3_readOffset_65 (by decide) (fun c_8 => ?_) (fun c_8 => ?_) (by omega) (by omega)
        · skip
          -- 65 t
          refine xr_iconst hx hb dX3_readOffset_72 ?_
          exact W.zret (v := iI 0) hx hb hr (bz_nar (by omega)) (fun t ht9 hW => ⟨0, (uI (uI (uI I 5 0) 2 ((I 2) + 1)) 6 (-1), F), rfl, (by right; first | exact ⟨1, by omega, Or.inl ⟨ho, rfl, rfl⟩⟩ | exact ⟨0, by omega, Or.inl ⟨ho, rfl, rfl⟩⟩ | exact ⟨1, by omega, Or.inr ⟨ho, rfl, rfl⟩⟩ | exact ⟨0, by omega, Or.inr ⟨ho, rfl, rfl⟩⟩ | (exfalso; omega)), by rw [ht9]; exact hP, hS.F ht9⟩) hS.2.2 dX3_readOffset_73
        · exact absurd c_8 (by omega)
    · skip
      -- 27 f
      refine xr_iconst hx hb dX3_readOffset_30 ?_
      refine lv_goto (tgt := 35) hx hb dX3_readOffset_31 (by decide) ?_
      refine va_put (D := D) (cl := vwC) (ci := 4) (v := .int (iI 1)) (ty := .boolean) (C := RX3) (T := TX3) (N := 9) hx hb hG.use i_X3 tyX3 tyX3_ok nmX3 hown hK hP (xD hdis) hS 1 rfl rfl 5 (by decide) (hG.use _ lf_X3_28) (fun _ h9 => h9) rfl (by decide +kernel) (bz_nar (by omega)) (bz_fit (by omega)) (Nat.le_of_ble_eq_true rfl) dX3_readOffset_35 (fun H locs hP _ hS => ?_)
      have hP : va_P D vwC (xW a k (uI I 5 1) F) H := hP
      refine lv_aload_n hx hb dX3_readOffset_38 rfl (lv_at hl 1 rfl) ?_
      refine lv_dup hx hb dX3_readOffset_39 rfl ?_
      refine va_get (D := D) (cl := vwC) (ci := 4) (v := .int (iI (I 2))) (C := RX3) (T := TX3) (N := 9) hx hb hG.use i_X3 hown hK hP 1 rfl rfl 2 (by decide) (hG.use _ lf_X3_19) (fun _ h9 => h9) rfl dX3_readOffset_40 ?_
      refine xr_iconst hx hb dX3_readOffset_43 ?_
      refine xr_iadd (a := I 2) (b := 1) hx hb dX3_readOffset_44 ?_
      refine va_put (D := D) (cl := vwC) (ci := 4) (v := .int (iI ((I 2) + 1))) (ty := .int) (C := RX3) (T := TX3) (N := 9) hx hb hG.use i_X3 tyX3 tyX3_ok nmX3 hown hK hP (xD hdis) hS 1 rfl rfl 2 (by decide) (hG.use _ lf_X3_19) (fun _ h9 => h9) rfl (by decide +kernel) rfl rfl (Nat.le_of_ble_eq_true rfl) dX3_readOffset_45 (fun H locs hP _ hS => ?_)
      have hP : va_P D vwC (xW a k (uI (uI I 5 1) 2 ((I 2) + 1)) F) H := hP
      refine lv_aload_n hx hb dX3_readOffset_48 rfl (lv_at hl 1 rfl) ?_
      refine lv_aload_n hx hb dX3_readOffset_49 rfl (lv_at hl 1 rfl) ?_
      refine xr_iconst hx hb dX3_readOffset_50 ?_
      refine xr_sipush hx hb dX3_readOffset_51 (by decide +kernel) ?_
      refine mu_call (g_runV (rest := [.ref (a 1)]) hx hb hml hown hG hK hP mV_X3_readNumber (c_X3_readNumber l D a k (uI (uI I 5 1) 2 ((I 2) + 1)) F hdis 3 1000 (I 1) ((I 2) + 1) rfl rfl ht (by omega) (by omega) (by omega)) lk_X3_57 (va_recv hK hP (ci := 4) (q0 := 1) rfl rfl) rfl hl.1 rfl (Nat.le_of_ble_eq_true rfl) ⟨(Nat.le_of_ble_eq_true rfl), (Nat.le_of_ble_eq_true rfl)⟩ ⟨(Nat.le_of_ble_eq_true rfl), (Nat.le_of_ble_eq_true rfl)⟩ dX3_readOffset_54) hS (fun _ h => h) (fun r_9 u H locs q_10 hP _ _ hS => ?_)
      obtain ⟨I2, F2⟩ := u
      try dsimp only at q_10
      rcases q_10 with ⟨ho, rfl, hu⟩ | ⟨ho, rfl, hu⟩
      · skip
        cases hu
        have hP : va_P D vwC (xW a k (uI (uI (uI I 5 1) 2 ((I 2) + 1)) 2 (((I 2) + 1) + rl (F 7) (I 1) ((I 2) + 1))) F) H := hP
        have f_o := nOk_in ho (by omega)
        refine va_put (D := D) (cl := vwC) (ci := 4) (v := .int (iI (nv (F 7) ((I 2) + 1) (rl (F 7) (I 1) ((I 2) + 1)).toNat))) (ty := .int) (C := RX3) (T := TX3) (N := 9) hx hb hG.use i_X3 tyX3 tyX3_ok nmX3 hown hK hP (xD hdis) hS 1 rfl rfl 6 (by decide) (hG.use _ lf_X3_32) (fun _ h9 => h9) rfl (by decide +kernel) rfl rfl (Nat.le_of_ble_eq_true rfl) dX3_readOffset_57 (fun H locs hP _ hS => ?_)
        have hP : va_P D vwC (xW a k (uI (uI (uI (uI I 5 1) 2 ((I 2) + 1)) 2 (((I 2) + 1) + rl (F 7) (I 1) ((I 2) + 1))) 6 (nv (F 7) ((I 2) + 1) (rl (F 7) (I 1) ((I 2) + 1)).toNat)) F) H := hP
        refine lv_aload_n hx hb dX3_readOffset_60 rfl (lv_at hl 1 rfl) ?_
        refine va_get (D := D) (cl := vwC) (ci := 4) (v := .int (iI (nv (F 7) ((I 2) + 1) (rl (F 7) (I 1) ((I 2) + 1)).toNat))) (C := RX3) (T := TX3) (N := 9) hx hb hG.use i_X3 hown hK hP 1 rfl rfl 6 (by decide) (hG.use _ lf_X3_32) (fun _ h9 => h9) rfl dX3_readOffset_61 ?_
        refine xr_iconst hx hb dX3_readOffset_64 ?_
        refine xr_icmp_eq (a := nv (F 7) ((I 2) + 1) (rl (F 7) (I 1) ((I 2) + 1)).toNat) (b := (-1)) (tgt := 72) hx hb dX3_readOffset_65 (by decide) (fun c_11 => ?_) (fun c_11 => ?_) (by omega) (by omega)
        · skip
          -- 65 t
          refine xr_iconst hx hb dX3_readOffset_72 ?_
          exact W.zret (v := iI 0) hx hb hr (bz_nar (by omega)) (fun t ht9 hW => ⟨0, (uI (uI (uI (uI I 5 1) 2 ((I 2) + 1)) 2 (((I 2) + 1) + rl (F 7) (I 1) ((I 2) + 1))) 6 (nv (F 7) ((I 2) + 1) (rl (F 7) (I 1) ((I 2) + 1)).toNat), F), rfl, (by right; first | exact ⟨1, by omega, Or.inl ⟨ho, rfl, rfl⟩⟩ | exact ⟨0, by omega, Or.inl ⟨ho, rfl, rfl⟩⟩ | exact ⟨1, by omega, Or.inr ⟨ho, rfl, rfl⟩⟩ | exact ⟨0, by omega, Or.inr ⟨ho, rfl, rfl⟩⟩ | (exfalso; omega)), by rw [ht9]; exact hP, hS.F ht9⟩) hS.2.2 dX3_readOffset_73
        · skip
          -- 65 f
          refine xr_iconst hx hb dX3_readOffset_68 ?_
          refine lv_goto (tgt := 73) hx hb dX3_readOffset_69 (by decide) ?_
          exact W.zret (v := iI 1) hx hb hr (bz_nar (by omega)) (fun t ht9 hW => ⟨1, (uI (uI (uI (uI I 5 1) 2 ((I 2) + 1)) 2 (((I 2) + 1) + rl (F 7) (I 1) ((I 2) + 1))) 6 (nv (F 7) ((I 2) + 1) (rl (F 7) (I 1) ((I 2) + 1)).toNat), F), rfl, (by right; first | exact ⟨1, by omega, Or.inl ⟨ho, rfl, rfl⟩⟩ | exact ⟨0, by omega, Or.inl ⟨ho, rfl, rfl⟩⟩ | exact ⟨1, by omega, Or.inr ⟨ho, rfl, rfl⟩⟩ | exact ⟨0, by omega, Or.inr ⟨ho, rfl, rfl⟩⟩ | (exfalso; omega)), by rw [ht9]; exact hP, hS.F ht9⟩) hS.2.2 dX3_readOffset_73
      · skip
        cases hu
        have hP : va_P D vwC (xW a k (uI (uI I 5 1) 2 ((I 2) + 1)) F) H := hP
        refine va_put (D := D) (cl := vwC) (ci := 4) (v := .int (iI (-1))) (ty := .int) (C := RX3) (T := TX3) (N := 9) hx hb hG.use i_X3 tyX3 tyX3_ok nmX3 hown hK hP (xD hdis) hS 1 rfl rfl 6 (by decide) (hG.use _ lf_X3_32) (fun _ h9 => h9) rfl (by decide +kernel) rfl rfl (Nat.le_of_ble_eq_true rfl) dX3_readOffset_57 (fun H locs hP _ hS => ?_)
        have hP : va_P D vwC (xW a k (uI (uI (uI I 5 1) 2 ((I 2) + 1)) 6 (-1)) F) H := hP
        refine lv_aload_n hx hb dX3_readOffset_60 rfl (lv_at hl 1 rfl) ?_
        refine va_get (D := D) (cl := vwC) (ci := 4) (v := .int (iI (-1))) (C := RX3) (T := TX3) (N := 9) hx hb hG.use i_X3 hown hK hP 1 rfl rfl 6 (by decide) (hG.use _ lf_X3_32) (fun _ h9 => h9) rfl dX3_readOffset_61 ?_
        refine xr_iconst hx hb dX3_readOffset_64 ?_
        refine xr_icmp_eq (a := (-1)) (b := (-1)) (tgt := 72) hx hb dX3_readOffset_65 (by decide) (fun c_12 => ?_) (fun c_12 => ?_) (by omega) (by omega)
        · skip
          -- 65 t
          refine xr_iconst hx hb dX3_readOffset_72 ?_
          exact W.zret (v := iI 0) hx hb hr (bz_nar (by omega)) (fun t ht9 hW => ⟨0, (uI (uI (uI I 5 1) 2 ((I 2) + 1)) 6 (-1), F), rfl, (by right; first | exact ⟨1, by omega, Or.inl ⟨ho, rfl, rfl⟩⟩ | exact ⟨0, by omega, Or.inl ⟨ho, rfl, rfl⟩⟩ | exact ⟨1, by omega, Or.inr ⟨ho, rfl, rfl⟩⟩ | exact ⟨0, by omega, Or.inr ⟨ho, rfl, rfl⟩⟩ | (exfalso; omega)), by rw [ht9]; exact hP, hS.F ht9⟩) hS.2.2 dX3_readOffset_73
        · exact absurd c_12 (by omega)
  · skip
    -- 12 f
    refine lv_iload_n hx hb dX3_readOffset_15 rfl (lv_at hl 0 rfl) ?_
    refine xr_bipush hx hb dX3_readOffset_16 (by decide +kernel) ?_
    refine xr_icmp_eq (a := r_1) (b := 45) (tgt := 23) hx hb dX3_readOffset_18 (by decide) (fun c_13 => ?_) (fun c_13 => ?_) (by omega) (by omega)
    · skip
      -- 18 t
      have f_lt := lk_lt (T := F 7) (n := I 1) (i := I 2) (by omega)
      refine lv_aload_n hx hb dX3_readOffset_23 rfl (lv_at hl 1 rfl) ?_
      refine lv_iload_n hx hb dX3_readOffset_24 rfl (lv_at hl 0 rfl) ?_
      refine xr_bipush hx hb dX3_readOffset_25 (by decide +kernel) ?_
      refine xr_icmp_ne (a := r_1) (b := 45) (tgt := 34) hx hb dX3_readOffset_27 (by decide) (fun c_14 => ?_) (fun c_14 => ?_) (by omega) (by omega)
      · skip
        -- 27 t
        refine xr_iconst hx hb dX3_readOffset_34 ?_
        refine va_put (D := D) (cl := vwC) (ci := 4) (v := .int (iI 0)) (ty := .boolean) (C := RX3) (T := TX3) (N := 9) hx hb hG.use i_X3 tyX3 tyX3_ok nmX3 hown hK hP (xD hdis) hS 1 rfl rfl 5 (by decide) (hG.use _ lf_X3_28) (fun _ h9 => h9) rfl (by decide +kernel) (bz_nar (by omega)) (bz_fit (by omega)) (Nat.le_of_ble_eq_true rfl) dX3_readOffset_35 (fun H locs hP _ hS => ?_)
        have hP : va_P D vwC (xW a k (uI I 5 0) F) H := hP
        refine lv_aload_n hx hb dX3_readOffset_38 rfl (lv_at hl 1 rfl) ?_
        refine lv_dup hx hb dX3_readOffset_39 rfl ?_
        refine va_get (D := D) (cl := vwC) (ci := 4) (v := .int (iI (I 2))) (C := RX3) (T := TX3) (N := 9) hx hb hG.use i_X3 hown hK hP 1 rfl rfl 2 (by decide) (hG.use _ lf_X3_19) (fun _ h9 => h9) rfl dX3_readOffset_40 ?_
        refine xr_iconst hx hb dX3_readOffset_43 ?_
        refine xr_iadd (a := I 2) (b := 1) hx hb dX3_readOffset_44 ?_
        refine va_put (D := D) (cl := vwC) (ci := 4) (v := .int (iI ((I 2) + 1))) (ty := .int) (C := RX3) (T := TX3) (N := 9) hx hb hG.use i_X3 tyX3 tyX3_ok nmX3 hown hK hP (xD hdis) hS 1 rfl rfl 2 (by decide) (hG.use _ lf_X3_19) (fun _ h9 => h9) rfl (by decide +kernel) rfl rfl (Nat.le_of_ble_eq_true rfl) dX3_readOffset_45 (fun H locs hP _ hS => ?_)
        have hP : va_P D vwC (xW a k (uI (uI I 5 0) 2 ((I 2) + 1)) F) H := hP
        refine lv_aload_n hx hb dX3_readOffset_48 rfl (lv_at hl 1 rfl) ?_
        refine lv_aload_n hx hb dX3_readOffset_49 rfl (lv_at hl 1 rfl) ?_
        refine xr_iconst hx hb dX3_readOffset_50 ?_
        refine xr_sipush hx hb dX3_readOffset_51 (by decide +kernel) ?_
        refine mu_call (g_runV (rest := [.ref (a 1)]) hx hb hml hown hG hK hP mV_X3_readNumber (c_X3_readNumber l D a k (uI (uI I 5 0) 2 ((I 2) + 1)) F hdis 3 1000 (I 1) ((I 2) + 1) rfl rfl ht (by omega) (by omega) (by omega)) lk_X3_57 (va_recv hK hP (ci := 4) (q0 := 1) rfl rfl) rfl hl.1 rfl (Nat.le_of_ble_eq_true rfl) ⟨(Nat.le_of_ble_eq_true rfl), (Nat.le_of_ble_eq_true rfl)⟩ ⟨(Nat.le_of_ble_eq_true rfl), (Nat.le_of_ble_eq_true rfl)⟩ dX3_readOffset_54) hS (fun _ h => h) (fun r_15 u H locs q_16 hP _ _ hS => ?_)
        obtain ⟨I3, F3⟩ := u
        try dsimp only at q_16
        rcases q_16 with ⟨ho, rfl, hu⟩ | ⟨ho, rfl, hu⟩
        · skip
          cases hu
          have hP : va_P D vwC (xW a k (uI (uI (uI I 5 0) 2 ((I 2) + 1)) 2 (((I 2) + 1) + rl (F 7) (I 1) ((I 2) + 1))) F) H := hP
          have f_o := nOk_in ho (by omega)
          refine va_put (D := D) (cl := vwC) (ci := 4) (v := .int (iI (nv (F 7) ((I 2) + 1) (rl (F 7) (I 1) ((I 2) + 1)).toNat))) (ty := .int) (C := RX3) (T := TX3) (N := 9) hx hb hG.use i_X3 tyX3 tyX3_ok nmX3 hown hK hP (xD hdis) hS 1 rfl rfl 6 (by decide) (hG.use _ lf_X3_32) (fun _ h9 => h9) rfl (by decide +kernel) rfl rfl (Nat.le_of_ble_eq_true rfl) dX3_readOffset_57 (fun H locs hP _ hS => ?_)
          have hP : va_P D vwC (xW a k (uI (uI (uI (uI I 5 0) 2 ((I 2) + 1)) 2 (((I 2) + 1) + rl (F 7) (I 1) ((I 2) + 1))) 6 (nv (F 7) ((I 2) + 1) (rl (F 7) (I 1) ((I 2) + 1)).toNat)) F) H := hP
          refine lv_aload_n hx hb dX3_readOffset_60 rfl (lv_at hl 1 rfl) ?_
          refine va_get (D := D) (cl := vwC) (ci := 4) (v := .int (iI (nv (F 7) ((I 2) + 1) (rl (F 7) (I 1) ((I 2) + 1)).toNat))) (C := RX3) (T := TX3) (N := 9) hx hb hG.use i_X3 hown hK hP 1 rfl rfl 6 (by decide) (hG.use _ lf_X3_32) (fun _ h9 => h9) rfl dX3_readOffset_61 ?_
          refine xr_iconst hx hb dX3_readOffset_64 ?_
          refine xr_icmp_eq (a := nv (F 7) ((I 2) + 1) (rl (F 7) (I 1) ((I 2) + 1)).toNat) (b := (-1)) (tgt := 72) hx hb dX3_readOffset_65 (by decide) (fun c_17 => ?_) (fun c_17 => ?_) (by omega) (by omega)
          · skip
            -- 65 t
            refine xr_iconst hx hb dX3_readOffset_72 ?_
            exact W.zret (v := iI 0) hx hb hr (bz_nar (by omega)) (fun t ht9 hW => ⟨0, (uI (uI (uI (uI I 5 0) 2 ((I 2) + 1)) 2 (((I 2) + 1) + rl (F 7) (I 1) ((I 2) + 1))) 6 (nv (F 7) ((I 2) + 1) (rl (F 7) (I 1) ((I 2) + 1)).toNat), F), rfl, (by right; first | exact ⟨1, by omega, Or.inl ⟨ho, rfl, rfl⟩⟩ | exact ⟨0, by omega, Or.inl ⟨ho, rfl, rfl⟩⟩ | exact ⟨1, by omega, Or.inr ⟨ho, rfl, rfl⟩⟩ | exact ⟨0, by omega, Or.inr ⟨ho, rfl, rfl⟩⟩ | (exfalso; omega)), by rw [ht9]; exact hP, hS.F ht9⟩) hS.2.2 dX3_readOffset_73
          · skip
            -- 65 f
            refine xr_iconst hx hb dX3_readOffset_68 ?_
            refine lv_goto (tgt := 73) hx hb dX3_readOffset_69 (by decide) ?_
            exact W.zret (v := iI 1) hx hb hr (bz_nar (by omega)) (fun t ht9 hW => ⟨1, (uI (uI (uI (uI I 5 0) 2 ((I 2) + 1)) 2 (((I 2) + 1) + rl (F 7) (I 1) ((I 2) + 1))) 6 (nv (F 7) ((I 2) + 1) (rl (F 7) (I 1) ((I 2) + 1)).toNat), F), rfl, (by right; first | exact ⟨1, by omega, Or.inl ⟨ho, rfl, rfl⟩⟩ | exact ⟨0, by omega, Or.inl ⟨ho, rfl, rfl⟩⟩ | exact ⟨1, by omega, Or.inr ⟨ho, rfl, rfl⟩⟩ | exact ⟨0, by omega, Or.inr ⟨ho, rfl, rfl⟩⟩ | (exfalso; omega)), by rw [ht9]; exact hP, hS.F ht9⟩) hS.2.2 dX3_readOffset_73
        · skip
          cases hu
          have hP : va_P D vwC (xW a k (uI (uI I 5 0) 2 ((I 2) + 1)) F) H := hP
          refine va_put (D := D) (cl := vwC) (ci := 4) (v := .int (iI (-1))) (ty := .int) (C := RX3) (T := TX3) (N := 9) hx hb hG.use i_X3 tyX3 tyX3_ok nmX3 hown hK hP (xD hdis) hS 1 rfl rfl 6 (by decide) (hG.use _ lf_X3_32) (fun _ h9 => h9) rfl (by decide +kernel) rfl rfl (Nat.le_of_ble_eq_true rfl) dX3_readOffset_57 (fun H locs hP _ hS => ?_)
          have hP : va_P D vwC (xW a k (uI (uI (uI I 5 0) 2 ((I 2) + 1)) 6 (-1)) F) H := hP
          refine lv_aload_n hx hb dX3_readOffset_60 rfl (lv_at hl 1 rfl) ?_
          refine va_get (D := D) (cl := vwC) (ci := 4) (v := .int (iI (-1))) (C := RX3) (T := TX3) (N := 9) hx hb hG.use i_X3 hown hK hP 1 rfl rfl 6 (by decide) (hG.use _ lf_X3_32) (fun _ h9 => h9) rfl dX3_readOffset_61 ?_
          refine xr_iconst hx hb dX3_readOffset_64 ?_
          refine xr_icmp_eq (a := (-1)) (b := (-1)) (tgt := 72) hx hb dX3_readOffset_65 (by decide) (fun c_18 => ?_) (fun c_18 => ?_) (by omega) (by omega)
          · skip
            -- 65 t
            refine xr_iconst hx hb dX3_readOffset_72 ?_
            exact W.zret (v := iI 0) hx hb hr (bz_nar (by omega)) (fun t ht9 hW => ⟨0, (uI (uI (uI I 5 0) 2 ((I 2) + 1)) 6 (-1), F), rfl, (by right; first | exact ⟨1, by omega, Or.inl ⟨ho, rfl, rfl⟩⟩ | exact ⟨0, by omega, Or.inl ⟨ho, rfl, rfl⟩⟩ | exact ⟨1, by omega, Or.inr ⟨ho, rfl, rfl⟩⟩ | exact ⟨0, by omega, Or.inr ⟨ho, rfl, rfl⟩⟩ | (exfalso; omega)), by rw [ht9]; exact hP, hS.F ht9⟩) hS.2.2 dX3_readOffset_73
          · exact absurd c_18 (by omega)
      · skip
        -- 27 f
        refine xr_iconst hx hb dX3_readOffset_30 ?_
        refine lv_goto (tgt := 35) hx hb dX3_readOffset_31 (by decide) ?_
        refine va_put (D := D) (cl := vwC) (ci := 4) (v := .int (iI 1)) (ty := .boolean) (C := RX3) (T := TX3) (N := 9) hx hb hG.use i_X3 tyX3 tyX3_ok nmX3 hown hK hP (xD hdis) hS 1 rfl rfl 5 (by decide) (hG.use _ lf_X3_28) (fun _ h9 => h9) rfl (by decide +kernel) (bz_nar (by omega)) (bz_fit (by omega)) (Nat.le_of_ble_eq_true rfl) dX3_readOffset_35 (fun H locs hP _ hS => ?_)
        have hP : va_P D vwC (xW a k (uI I 5 1) F) H := hP
        refine lv_aload_n hx hb dX3_readOffset_38 rfl (lv_at hl 1 rfl) ?_
        refine lv_dup hx hb dX3_readOffset_39 rfl ?_
        refine va_get (D := D) (cl := vwC) (ci := 4) (v := .int (iI (I 2))) (C := RX3) (T := TX3) (N := 9) hx hb hG.use i_X3 hown hK hP 1 rfl rfl 2 (by decide) (hG.use _ lf_X3_19) (fun _ h9 => h9) rfl dX3_readOffset_40 ?_
        refine xr_iconst hx hb dX3_readOffset_43 ?_
        refine xr_iadd (a := I 2) (b := 1) hx hb dX3_readOffset_44 ?_
        refine va_put (D := D) (cl := vwC) (ci := 4) (v := .int (iI ((I 2) + 1))) (ty := .int) (C := RX3) (T := TX3) (N := 9) hx hb hG.use i_X3 tyX3 tyX3_ok nmX3 hown hK hP (xD hdis) hS 1 rfl rfl 2 (by decide) (hG.use _ lf_X3_19) (fun _ h9 => h9) rfl (by decide +kernel) rfl rfl (Nat.le_of_ble_eq_true rfl) dX3_readOffset_45 (fun H locs hP _ hS => ?_)
        have hP : va_P D vwC (xW a k (uI (uI I 5 1) 2 ((I 2) + 1)) F) H := hP
        refine lv_aload_n hx hb dX3_readOffset_48 rfl (lv_at hl 1 rfl) ?_
        refine lv_aload_n hx hb dX3_readOffset_49 rfl (lv_at hl 1 rfl) ?_
        refine xr_iconst hx hb dX3_readOffset_50 ?_
        refine xr_sipush hx hb dX3_readOffset_51 (by decide +kernel) ?_
        refine mu_call (g_runV (rest := [.ref (a 1)]) hx hb hml hown hG hK hP mV_X3_readNumber (c_X3_readNumber l D a k (uI (uI I 5 1) 2 ((I 2) + 1)) F hdis 3 1000 (I 1) ((I 2) + 1) rfl rfl ht (by omega) (by omega) (by omega)) lk_X3_57 (va_recv hK hP (ci := 4) (q0 := 1) rfl rfl) rfl hl.1 rfl (Nat.le_of_ble_eq_true rfl) ⟨(Nat.le_of_ble_eq_true rfl), (Nat.le_of_ble_eq_true rfl)⟩ ⟨(Nat.le_of_ble_eq_true rfl), (Nat.le_of_ble_eq_true rfl)⟩ dX3_readOffset_54) hS (fun _ h => h) (fun r_19 u H locs q_20 hP _ _ hS => ?_)
        obtain ⟨I4, F4⟩ := u
        try dsimp only at q_20
        rcases q_20 with ⟨ho, rfl, hu⟩ | ⟨ho, rfl, hu⟩
        · skip
          cases hu
          have hP : va_P D vwC (xW a k (uI (uI (uI I 5 1) 2 ((I 2) + 1)) 2 (((I 2) + 1) + rl (F 7) (I 1) ((I 2) + 1))) F) H := hP
          have f_o := nOk_in ho (by omega)
          refine va_put (D := D) (cl := vwC) (ci := 4) (v := .int (iI (nv (F 7) ((I 2) + 1) (rl (F 7) (I 1) ((I 2) + 1)).toNat))) (ty := .int) (C := RX3) (T := TX3) (N := 9) hx hb hG.use i_X3 tyX3 tyX3_ok nmX3 hown hK hP (xD hdis) hS 1 rfl rfl 6 (by decide) (hG.use _ lf_X3_32) (fun _ h9 => h9) rfl (by decide +kernel) rfl rfl (Nat.le_of_ble_eq_true rfl) dX3_readOffset_57 (fun H locs hP _ hS => ?_)
          have hP : va_P D vwC (xW a k (uI (uI (uI (uI I 5 1) 2 ((I 2) + 1)) 2 (((I 2) + 1) + rl (F 7) (I 1) ((I 2) + 1))) 6 (nv (F 7) ((I 2) + 1) (rl (F 7) (I 1) ((I 2) + 1)).toNat)) F) H := hP
          refine lv_aload_n hx hb dX3_readOffset_60 rfl (lv_at hl 1 rfl) ?_
          refine va_get (D := D) (cl := vwC) (ci := 4) (v := .int (iI (nv (F 7) ((I 2) + 1) (rl (F 7) (I 1) ((I 2) + 1)).toNat))) (C := RX3) (T := TX3) (N := 9) hx hb hG.use i_X3 hown hK hP 1 rfl rfl 6 (by decide) (hG.use _ lf_X3_32) (fun _ h9 => h9) rfl dX3_readOffset_61 ?_
          refine xr_iconst hx hb dX3_readOffset_64 ?_
          refine xr_icmp_eq (a := nv (F 7) ((I 2) + 1) (rl (F 7) (I 1) ((I 2) + 1)).toNat) (b := (-1)) (tgt := 72) hx hb dX3_readOffset_65 (by decide) (fun c_21 => ?_) (fun c_21 => ?_) (by omega) (by omega)
          · skip
            -- 65 t
            refine xr_iconst hx hb dX3_readOffset_72 ?_
            exact W.zret (v := iI 0) hx hb hr (bz_nar (by omega)) (fun t ht9 hW => ⟨0, (uI (uI (uI (uI I 5 1) 2 ((I 2) + 1)) 2 (((I 2) + 1) + rl (F 7) (I 1) ((I 2) + 1))) 6 (nv (F 7) ((I 2) + 1) (rl (F 7) (I 1) ((I 2) + 1)).toNat), F), rfl, (by right; first | exact ⟨1, by omega, Or.inl ⟨ho, rfl, rfl⟩⟩ | exact ⟨0, by omega, Or.inl ⟨ho, rfl, rfl⟩⟩ | exact ⟨1, by omega, Or.inr ⟨ho, rfl, rfl⟩⟩ | exact ⟨0, by omega, Or.inr ⟨ho, rfl, rfl⟩⟩ | (exfalso; omega)), by rw [ht9]; exact hP, hS.F ht9⟩) hS.2.2 dX3_readOffset_73
          · skip
            -- 65 f
            refine xr_iconst hx hb dX3_readOffset_68 ?_
            refine lv_goto (tgt := 73) hx hb dX3_readOffset_69 (by decide) ?_
            exact W.zret (v := iI 1) hx hb hr (bz_nar (by omega)) (fun t ht9 hW => ⟨1, (uI (uI (uI (uI I 5 1) 2 ((I 2) + 1)) 2 (((I 2) + 1) + rl (F 7) (I 1) ((I 2) + 1))) 6 (nv (F 7) ((I 2) + 1) (rl (F 7) (I 1) ((I 2) + 1)).toNat), F), rfl, (by right; first | exact ⟨1, by omega, Or.inl ⟨ho, rfl, rfl⟩⟩ | exact ⟨0, by omega, Or.inl ⟨ho, rfl, rfl⟩⟩ | exact ⟨1, by omega, Or.inr ⟨ho, rfl, rfl⟩⟩ | exact ⟨0, by omega, Or.inr ⟨ho, rfl, rfl⟩⟩ | (exfalso; omega)), by rw [ht9]; exact hP, hS.F ht9⟩) hS.2.2 dX3_readOffset_73
        · skip
          cases hu
          have hP : va_P D vwC (xW a k (uI (uI I 5 1) 2 ((I 2) + 1)) F) H := hP
          refine va_put (D := D) (cl := vwC) (ci := 4) (v := .int (iI (-1))) (ty := .int) (C := RX3) (T := TX3) (N := 9) hx hb hG.use i_X3 tyX3 tyX3_ok nmX3 hown hK hP (xD hdis) hS 1 rfl rfl 6 (by decide) (hG.use _ lf_X3_32) (fun _ h9 => h9) rfl (by decide +kernel) rfl rfl (Nat.le_of_ble_eq_true rfl) dX3_readOffset_57 (fun H locs hP _ hS => ?_)
          have hP : va_P D vwC (xW a k (uI (uI (uI I 5 1) 2 ((I 2) + 1)) 6 (-1)) F) H := hP
          refine lv_aload_n hx hb dX3_readOffset_60 rfl (lv_at hl 1 rfl) ?_
          refine va_get (D := D) (cl := vwC) (ci := 4) (v := .int (iI (-1))) (C := RX3) (T := TX3) (N := 9) hx hb hG.use i_X3 hown hK hP 1 rfl rfl 6 (by decide) (hG.use _ lf_X3_32) (fun _ h9 => h9) rfl dX3_readOffset_61 ?_
          refine xr_iconst hx hb dX3_readOffset_64 ?_
          refine xr_icmp_eq (a := (-1)) (b := (-1)) (tgt := 72) hx hb dX3_readOffset_65 (by decide) (fun c_22 => ?_) (fun c_22 => ?_) (by omega) (by omega)
          · skip
            -- 65 t
            refine xr_iconst hx hb dX3_readOffset_72 ?_
            exact W.zret (v := iI 0) hx hb hr (bz_nar (by omega)) (fun t ht9 hW => ⟨0, (uI (uI (uI I 5 1) 2 ((I 2) + 1)) 6 (-1), F), rfl, (by right; first | exact ⟨1, by omega, Or.inl ⟨ho, rfl, rfl⟩⟩ | exact ⟨0, by omega, Or.inl ⟨ho, rfl, rfl⟩⟩ | exact ⟨1, by omega, Or.inr ⟨ho, rfl, rfl⟩⟩ | exact ⟨0, by omega, Or.inr ⟨ho, rfl, rfl⟩⟩ | (exfalso; omega)), by rw [ht9]; exact hP, hS.F ht9⟩) hS.2.2 dX3_readOffset_73
          · exact absurd c_22 (by omega)
    · skip
      -- 18 f
      refine xr_iconst hx hb dX3_readOffset_21 ?_
      exact W.zret (v := iI 0) hx hb hr (bz_nar (by omega)) (fun t ht9 hW => ⟨0, (I, F), rfl, (by exact Or.inl ⟨by omega, rfl, rfl⟩), by rw [ht9]; exact hP, hS.F ht9⟩) hS.2.2 dX3_readOffset_22
set_option maxHeartbeats 4000000 in
set_option maxRecDepth 100000 in
theorem c_X3_readAnyByte (l : Launch) (D : va_G) (a : Nat → Nat) (k : Nat → ClassId) (I : Nat → Int) (F : Nat → Int → Int) (hdis : dis 24 a) (n ta : Int) (e1 : I 1 = n) (e2 : I 2 = ta) (ht : txt (F 7) n) (ha : 0 ≤ ta ∧ ta ≤ n) : mu_M (S := (Nat → Int) × (Nat → Int → Int)) l yX3_readAnyByte cX3_readAnyByte 1 (some .int) 1 [.ref (a 1)] D (xT k) (xW a k I F) (fun u => xW a k u.1 u.2) (fun r u => (lk (F 7) n (ta + 1) = 63 ∧ r = 256 ∧ u = (uI (uI I 2 (ta + 1)) 2 (ta + 1 + 1), F)) ∨ (lk (F 7) n (ta + 1) ≠ 63 ∧ r = -1 ∧ u = (uI I 2 (ta + 1), F))) (adr 24 a) := by
  refine me_start (by decide) (Nat.le_of_ble_eq_true rfl) rfl ?_
  intro p e s m below meth c hx hb hml hr hown hlocks hnm hG hK hP ls hl
  have hown : s.vm.findClass RX3 = some m.cls := hown
  have hl : lv_has ls 1 [(0, .ref (a 1))] := hl
  have hS : va_S (adr 24 a) s.heap s.heap [] := va_S.rf
  subst e1
  subst e2
  have hn60 : 0 ≤ I 1 ∧ I 1 ≤ 60 := ht.1
  refine lv_aload_n hx hb dX3_readAnyByte_0 rfl (lv_at hl 0 rfl) ?_
  refine lv_dup hx hb dX3_readAnyByte_1 rfl ?_
  refine va_get (D := D) (cl := vwC) (ci := 4) (v := .int (iI (I 2))) (C := RX3) (T := TX3) (N := 9) hx hb hG.use i_X3 hown hK hP 1 rfl rfl 2 (by decide) (hG.use _ lf_X3_19) (fun _ h9 => h9) rfl dX3_readAnyByte_2 ?_
  refine xr_iconst hx hb dX3_readAnyByte_5 ?_
  refine xr_iadd (a := I 2) (b := 1) hx hb dX3_readAnyByte_6 ?_
  refine va_put (D := D) (cl := vwC) (ci := 4) (v := .int (iI ((I 2) + 1))) (ty := .int) (C := RX3) (T := TX3) (N := 9) hx hb hG.use i_X3 tyX3 tyX3_ok nmX3 hown hK hP (xD hdis) hS 1 rfl rfl 2 (by decide) (hG.use _ lf_X3_19) (fun _ h9 => h9) rfl (by decide +kernel) rfl rfl (Nat.le_of_ble_eq_true rfl) dX3_readAnyByte_7 (fun H locs hP _ hS => ?_)
  have hP : va_P D vwC (xW a k (uI I 2 ((I 2) + 1)) F) H := hP
  refine lv_aload_n hx hb dX3_readAnyByte_10 rfl (lv_at hl 0 rfl) ?_
  refine lv_aload_n hx hb dX3_readAnyByte_11 rfl (lv_at hl 0 rfl) ?_
  refine va_get (D := D) (cl := vwC) (ci := 4) (v := .int (iI ((I 2) + 1))) (C := RX3) (T := TX3) (N := 9) hx hb hG.use i_X3 hown hK hP 1 rfl rfl 2 (by decide) (hG.use _ lf_X3_19) (fun _ h9 => h9) rfl dX3_readAnyByte_12 ?_
  refine ro_call (g_runV (rest := []) hx hb hml hown hG hK hP mV_X3_signAt (c_X3_signAt l D a k (uI I 2 ((I 2) + 1)) F ((I 2) + 1) (by omega) hn60) lk_X3_61 (va_recv hK hP (ci := 4) (q0 := 1) rfl rfl) rfl hl.1 rfl (Nat.le_of_ble_eq_true rfl) ⟨(Nat.le_of_ble_eq_true rfl), (Nat.le_of_ble_eq_true rfl)⟩ ⟨(Nat.le_of_ble_eq_true rfl), (Nat.le_of_ble_eq_true rfl)⟩ dX3_readAnyByte_15) (fun r_1 q_2 => ?_)
  have e_r : r_1 = lk (F 7) (I 1) ((I 2) + 1) := by
    have h9 := lk_of q_2
    exact h9
  have f_r := lk_in ht ((I 2) + 1)
  rw [← e_r] at f_r
  refine xr_bipush hx hb dX3_readAnyByte_18 (by decide +kernel) ?_
  refine xr_icmp_eq (a := r_1) (b := 63) (tgt := 25) hx hb dX3_readAnyByte_20 (by decide) (fun c_3 => ?_) (fun c_3 => ?_) (by omega) (by omega)
  · skip
    -- 20 t
    refine lv_aload_n hx hb dX3_readAnyByte_25 rfl (lv_at hl 0 rfl) ?_
    refine lv_dup hx hb dX3_readAnyByte_26 rfl ?_
    refine va_get (D := D) (cl := vwC) (ci := 4) (v := .int (iI ((I 2) + 1))) (C := RX3) (T := TX3) (N := 9) hx hb hG.use i_X3 hown hK hP 1 rfl rfl 2 (by decide) (hG.use _ lf_X3_19) (fun _ h9 => h9) rfl dX3_readAnyByte_27 ?_
    refine xr_iconst hx hb dX3_readAnyByte_30 ?_
    refine xr_iadd (a := (I 2) + 1) (b := 1) hx hb dX3_readAnyByte_31 ?_
    refine va_put (D := D) (cl := vwC) (ci := 4) (v := .int (iI (((I 2) + 1) + 1))) (ty := .int) (C := RX3) (T := TX3) (N := 9) hx hb hG.use i_X3 tyX3 tyX3_ok nmX3 hown hK hP (xD hdis) hS 1 rfl rfl 2 (by decide) (hG.use _ lf_X3_19) (fun _ h9 => h9) rfl (by decide +kernel) rfl rfl (Nat.le_of_ble_eq_true rfl) dX3_readAnyByte_32 (fun H locs hP _ hS => ?_)
    have hP : va_P D vwC (xW a k (uI (uI I 2 ((I 2) + 1)) 2 (((I 2) + 1) + 1)) F) H := hP
    refine xr_sipush hx hb dX3_readAnyByte_35 (by decide +kernel) ?_
    exact W.iret (v := iI 256) hx hb hr (fun t ht9 hW => ⟨256, (uI (uI I 2 ((I 2) + 1)) 2 (((I 2) + 1) + 1), F), rfl, (by first | exact Or.inl ⟨by omega, rfl, rfl⟩ | exact Or.inr ⟨by omega, rfl, rfl⟩), by rw [ht9]; exact hP, hS.F ht9⟩) hS.2.2 dX3_readAnyByte_38
  · skip
    -- 20 f
    refine xr_iconst hx hb dX3_readAnyByte_23 ?_
    exact W.iret (v := iI (-1)) hx hb hr (fun t ht9 hW => ⟨(-1), (uI I 2 ((I 2) + 1), F), rfl, (by first | exact Or.inl ⟨by omega, rfl, rfl⟩ | exact Or.inr ⟨by omega, rfl, rfl⟩), by rw [ht9]; exact hP, hS.F ht9⟩) hS.2.2 dX3_readAnyByte_24
set_option maxHeartbeats 4000000 in
set_option maxRecDepth 100000 in
theorem c_X3_readByte (l : Launch) (D : va_G) (a : Nat → Nat) (k : Nat → ClassId) (I : Nat → Int) (F : Nat → Int → Int) (hdis : dis 24 a) (n ta : Int) (e1 : I 1 = n) (e2 : I 2 = ta) (ht : txt (F 7) n) (ha : 0 ≤ ta ∧ ta ≤ n) : mu_M (S := (Nat → Int) × (Nat → Int → Int)) l yX3_readByte cX3_readByte 3 (some .int) 2 [.ref (a 1)] D (xT k) (xW a k I F) (fun u => xW a k u.1 u.2) (fun r u => ((hxv (lk (F 7) n ta) ≠ -1 ∧ hxv (lk (F 7) n (ta + 1)) ≠ -1) ∧ r = hxv (lk (F 7) n ta) * 16 + hxv (lk (F 7) n (ta + 1)) ∧ u = (uI (uI I 2 (ta + 1)) 2 (ta + 1 + 1), F)) ∨ (hxv (lk (F 7) n ta) = -1 ∧ r = -1 ∧ u = (I, F)) ∨ ((hxv (lk (F 7) n ta) ≠ -1 ∧ hxv (lk (F 7) n (ta + 1)) = -1) ∧ r = -1 ∧ u = (uI I 2 (ta + 1), F))) (adr 24 a) := by
  refine me_start (by decide) (Nat.le_of_ble_eq_true rfl) rfl ?_
  intro p e s m below meth c hx hb hml hr hown hlocks hnm hG hK hP ls hl
  have hown : s.vm.findClass RX3 = some m.cls := hown
  have hl : lv_has ls 3 [(0, .ref (a 1))] := hl
  have hS : va_S (adr 24 a) s.heap s.heap [] := va_S.rf
  subst e1
  subst e2
  have hn60 : 0 ≤ I 1 ∧ I 1 ≤ 60 := ht.1
  refine lv_aload_n hx hb dX3_readByte_0 rfl (lv_at hl 0 rfl) ?_
  refine lv_aload_n hx hb dX3_readByte_1 rfl (lv_at hl 0 rfl) ?_
  refine va_get (D := D) (cl := vwC) (ci := 4) (v := .int (iI (I 2))) (C := RX3) (T := TX3) (N := 9) hx hb hG.use i_X3 hown hK hP 1 rfl rfl 2 (by decide) (hG.use _ lf_X3_19) (fun _ h9 => h9) rfl dX3_readByte_2 ?_
  refine ro_call (g_runV (rest := []) hx hb hml hown hG hK hP mV_X3_signAt (c_X3_signAt l D a k I F (I 2) (by omega) hn60) lk_X3_61 (va_recv hK hP (ci := 4) (q0 := 1) rfl rfl) rfl hl.1 rfl (Nat.le_of_ble_eq_true rfl) ⟨(Nat.le_of_ble_eq_true rfl), (Nat.le_of_ble_eq_true rfl)⟩ ⟨(Nat.le_of_ble_eq_true rfl), (Nat.le_of_ble_eq_true rfl)⟩ dX3_readByte_5) (fun r_1 q_2 => ?_)
  have e_r : r_1 = lk (F 7) (I 1) (I 2) := by
    have h9 := lk_of q_2
    exact h9
  have f_r := lk_in ht (I 2)
  rw [← e_r] at f_r
  refine ro_call (g_runS (rest := []) hx hb hml hown hG (hK.sub (tys' := []) [] rfl) (va_P0) mS_X3_hexValue (c_X3_hexValue l D r_1 (by omega)) lk_X3_76 rfl hl.1 rfl (Nat.le_of_ble_eq_true rfl) ⟨(Nat.le_of_ble_eq_true rfl), (Nat.le_of_ble_eq_true rfl)⟩ ⟨(Nat.le_of_ble_eq_true rfl), (Nat.le_of_ble_eq_true rfl)⟩ dX3_readByte_8) (fun r_3 q_4 => ?_)
  have e_h : r_3 = hxv r_1 := hx_of q_4
  have f_h := hx_in r_1
  rw [← e_h] at f_h
  rw [e_r] at e_h
  have e_h0 := e_h
  have f_h0 := f_h
  refine lv_istore_n (lv' := [(1, .int (iI r_3)), (0, .ref (a 1))]) hx hb dX3_readByte_11 rfl hl (by decide) rfl (fun ls hl => ?_)
  refine lv_iload_n hx hb dX3_readByte_12 rfl (lv_at hl 0 rfl) ?_
  refine xr_iconst hx hb dX3_readByte_13 ?_
  refine xr_icmp_ne (a := r_3) (b := (-1)) (tgt := 19) hx hb dX3_readByte_14 (by decide) (fun c_5 => ?_) (fun c_5 => ?_) (by omega) (by omega)
  · skip
    -- 14 t
    refine lv_aload_n hx hb dX3_readByte_19 rfl (lv_at hl 1 rfl) ?_
    refine lv_dup hx hb dX3_readByte_20 rfl ?_
    refine va_get (D := D) (cl := vwC) (ci := 4) (v := .int (iI (I 2))) (C := RX3) (T := TX3) (N := 9) hx hb hG.use i_X3 hown hK hP 1 rfl rfl 2 (by decide) (hG.use _ lf_X3_19) (fun _ h9 => h9) rfl dX3_readByte_21 ?_
    refine xr_iconst hx hb dX3_readByte_24 ?_
    refine xr_iadd (a := I 2) (b := 1) hx hb dX3_readByte_25 ?_
    refine va_put (D := D) (cl := vwC) (ci := 4) (v := .int (iI ((I 2) + 1))) (ty := .int) (C := RX3) (T := TX3) (N := 9) hx hb hG.use i_X3 tyX3 tyX3_ok nmX3 hown hK hP (xD hdis) hS 1 rfl rfl 2 (by decide) (hG.use _ lf_X3_19) (fun _ h9 => h9) rfl (by decide +kernel) rfl rfl (Nat.le_of_ble_eq_true rfl) dX3_readByte_26 (fun H locs hP _ hS => ?_)
    have hP : va_P D vwC (xW a k (uI I 2 ((I 2) + 1)) F) H := hP
    refine lv_aload_n hx hb dX3_readByte_29 rfl (lv_at hl 1 rfl) ?_
    refine lv_aload_n hx hb dX3_readByte_30 rfl (lv_at hl 1 rfl) ?_
    refine va_get (D := D) (cl := vwC) (ci := 4) (v := .int (iI ((I 2) + 1))) (C := RX3) (T := TX3) (N := 9) hx hb hG.use i_X3 hown hK hP 1 rfl rfl 2 (by decide) (hG.use _ lf_X3_19) (fun _ h9 => h9) rfl dX3_readByte_31 ?_
    refine ro_call (g_runV (rest := []) hx hb hml hown hG hK hP mV_X3_signAt (c_X3_signAt l D a k (uI I 2 ((I 2) + 1)) F ((I 2) + 1) (by omega) hn60) lk_X3_61 (va_recv hK hP (ci := 4) (q0 := 1) rfl rfl) rfl hl.1 rfl (Nat.le_of_ble_eq_true rfl) ⟨(Nat.le_of_ble_eq_true rfl), (Nat.le_of_ble_eq_true rfl)⟩ ⟨(Nat.le_of_ble_eq_true rfl), (Nat.le_of_ble_eq_true rfl)⟩ dX3_readByte_34) (fun r_6 q_7 => ?_)
    have e_r : r_6 = lk (F 7) (I 1) ((I 2) + 1) := by
      have h9 := lk_of q_7
      exact h9
    have f_r := lk_in ht ((I 2) + 1)
    rw [← e_r] at f_r
    refine ro_call (g_runS (rest := []) hx hb hml hown hG (hK.sub (tys' := []) [] rfl) (va_P0) mS_X3_hexValue (c_X3_hexValue l D r_6 (by omega)) lk_X3_76 rfl hl.1 rfl (Nat.le_of_ble_eq_true rfl) ⟨(Nat.le_of_ble_eq_true rfl), (Nat.le_of_ble_eq_true rfl)⟩ ⟨(Nat.le_of_ble_eq_true rfl), (Nat.le_of_ble_eq_true rfl)⟩ dX3_readByte_37) (fun r_8 q_9 => ?_)
    have e_h : r_8 = hxv r_6 := hx_of q_9
    have f_h := hx_in r_6
    rw [← e_h] at f_h
    rw [e_r] at e_h
    refine lv_istore_n (lv' := [(2, .int (iI r_8)), (1, .int (iI r_3)), (0, .ref (a 1))]) hx hb dX3_readByte_40 rfl hl (by decide) rfl (fun ls hl => ?_)
    refine lv_iload_n hx hb dX3_readByte_41 rfl (lv_at hl 0 rfl) ?_
    refine xr_iconst hx hb dX3_readByte_42 ?_
    refine xr_icmp_ne (a := r_8) (b := (-1)) (tgt := 48) hx hb dX3_readByte_43 (by decide) (fun c_10 => ?_) (fun c_10 => ?_) (by omega) (by omega)
    · skip
      -- 43 t
      refine lv_aload_n hx hb dX3_readByte_48 rfl (lv_at hl 2 rfl) ?_
      refine lv_dup hx hb dX3_readByte_49 rfl ?_
      refine va_get (D := D) (cl := vwC) (ci := 4) (v := .int (iI ((I 2) + 1))) (C := RX3) (T := TX3) (N := 9) hx hb hG.use i_X3 hown hK hP 1 rfl rfl 2 (by decide) (hG.use _ lf_X3_19) (fun _ h9 => h9) rfl dX3_readByte_50 ?_
      refine xr_iconst hx hb dX3_readByte_53 ?_
      refine xr_iadd (a := (I 2) + 1) (b := 1) hx hb dX3_readByte_54 ?_
      refine va_put (D := D) (cl := vwC) (ci := 4) (v := .int (iI (((I 2) + 1) + 1))) (ty := .int) (C := RX3) (T := TX3) (N := 9) hx hb hG.use i_X3 tyX3 tyX3_ok nmX3 hown hK hP (xD hdis) hS 1 rfl rfl 2 (by decide) (hG.use _ lf_X3_19) (fun _ h9 => h9) rfl (by decide +kernel) rfl rfl (Nat.le_of_ble_eq_true rfl) dX3_readByte_55 (fun H locs hP _ hS => ?_)
      have hP : va_P D vwC (xW a k (uI (uI I 2 ((I 2) + 1)) 2 (((I 2) + 1) + 1)) F) H := hP
      refine lv_iload_n hx hb dX3_readByte_58 rfl (lv_at hl 1 rfl) ?_
      refine xr_bipush hx hb dX3_readByte_59 (by decide +kernel) ?_
      refine xr_imul (a := r_3) (b := 16) hx hb dX3_readByte_61 ?_
      refine lv_iload_n hx hb dX3_readByte_62 rfl (lv_at hl 0 rfl) ?_
      refine xr_iadd (a := r_3 * 16) (b := r_8) hx hb dX3_readByte_63 ?_
      exact W.iret (v := iI ((r_3 * 16) + r_8)) hx hb hr (fun t ht9 hW => ⟨(r_3 * 16) + r_8, (uI (uI I 2 ((I 2) + 1)) 2 (((I 2) + 1) + 1), F), rfl, (by left; exact ⟨⟨by omega, by omega⟩, by omega, rfl⟩), by rw [ht9]; exact hP, hS.F ht9⟩) hS.2.2 dX3_readByte_64
    · skip
      -- 43 f
      refine xr_iconst hx hb dX3_readByte_46 ?_
      exact W.iret (v := iI (-1)) hx hb hr (fun t ht9 hW => ⟨(-1), (uI I 2 ((I 2) + 1), F), rfl, (by right; right; exact ⟨⟨by omega, by omega⟩, rfl, rfl⟩), by rw [ht9]; exact hP, hS.F ht9⟩) hS.2.2 dX3_readByte_47
  · skip
    -- 14 f
    refine xr_iconst hx hb dX3_readByte_17 ?_
    exact W.iret (v := iI (-1)) hx hb hr (fun t ht9 hW => ⟨(-1), (I, F), rfl, (by right; left; exact ⟨by omega, rfl, rfl⟩), by rw [ht9]; exact hP, hS.F ht9⟩) hS.2.2 dX3_readByte_18
set_option maxHeartbeats 4000000 in
set_option maxRecDepth 100000 in
theorem c_X3_readPlaces (l : Launch) (D : va_G) (a : Nat → Nat) (k : Nat → ClassId) (I : Nat → Int) (F : Nat → Int → Int) (hdis : dis 24 a) (n ta : Int) (e1 : I 1 = n) (e2 : I 2 = ta) (ht : txt (F 7) n) (ha : 0 ≤ ta ∧ ta ≤ n) : mu_M (S := (Nat → Int) × (Nat → Int → Int)) l yX3_readPlaces cX3_readPlaces 2 (some .boolean) 3 [.ref (a 1)] D (xT k) (xW a k I F) (fun u => xW a k u.1 u.2) (fun r u => ∃ (g : Int → Int) (ca ia : Int), plA (F 7) n 12 ta 0 = (r, ia, ca) ∧ u = (uI (uI I 7 ca) 2 ia, uF F 8 g) ∧ (r = 0 ∨ r = 1) ∧ (0 ≤ ca ∧ ca ≤ 12) ∧ (r = 1 → 1 ≤ ca) ∧ ∀ j, 0 ≤ j → j < ca → g j = pV (F 7) n (ta + 2 * j) ∧ 0 ≤ g j ∧ g j ≤ 256) (adr 24 a) := by
  refine me_start (by decide) (Nat.le_of_ble_eq_true rfl) rfl ?_
  intro p e s m below meth c hx hb hml hr hown hlocks hnm hG hK hP ls hl
  have hown : s.vm.findClass RX3 = some m.cls := hown
  have hl : lv_has ls 2 [(0, .ref (a 1))] := hl
  have hS : va_S (adr 24 a) s.heap s.heap [] := va_S.rf
  have hn60 : 0 ≤ I 1 ∧ I 1 ≤ 60 := by rw [e1]; exact ht.1
  refine lv_aload_n hx hb dX3_readPlaces_0 rfl (lv_at hl 0 rfl) ?_
  refine xr_iconst hx hb dX3_readPlaces_1 ?_
  refine va_put (D := D) (cl := vwC) (ci := 4) (v := .int (iI 0)) (ty := .int) (C := RX3) (T := TX3) (N := 9) hx hb hG.use i_X3 tyX3 tyX3_ok nmX3 hown hK hP (xD hdis) hS 1 rfl rfl 8 (by decide) (hG.use _ lf_X3_38) (fun _ h9 => h9) rfl (by decide +kernel) rfl rfl (Nat.le_of_ble_eq_true rfl) dX3_readPlaces_2 (fun H locs hP _ hS => ?_)
  have hP : va_P D vwC (xW a k (uI I 7 0) F) H := hP
  have lp_5 : ∀ (nz : Nat) (jj : Int) (ai : Int) (g : Int → Int) (H : Heap) (locs : List Loc), (12 - jj).toNat < nz → (0 ≤ jj ∧ jj < 12) → (ai = ta + 2 * jj ∧ ai ≤ n) → (∀ j, 0 ≤ j → j < jj → g j = pV (F 7) n (ta + 2 * j) ∧ 0 ≤ g j ∧ g j ≤ 256) → (plA (F 7) n 12 ta 0 = plA (F 7) n (12 - jj).toNat ai jj) → va_P D vwC (xW a k (uI (uI (uI I 7 0) 7 jj) 2 ai) (uF F 8 g)) H → va_S (adr 24 a) s.heap H locs → ∀ ls : Array Slot, lv_has ls 2 [(0, .ref (a 1))] → W p l e (rmd 3) s m ([.ref (a 1)] : List Value).toArray below meth c H locs 0 0 (MQ below (mu_Q (S := (Nat → Int) × (Nat → Int → Int)) (fun u => xW a k u.1 u.2) D (fun r u => ∃ (g : Int → Int) (ca ia : Int), plA (F 7) n 12 ta 0 = (r, ia, ca) ∧ u = (uI (uI I 7 ca) 2 ia, uF F 8 g) ∧ (r = 0 ∨ r = 1) ∧ (0 ≤ ca ∧ ca ≤ 12) ∧ (r = 1 → 1 ≤ ca) ∧ ∀ j, 0 ≤ j → j < ca → g j = pV (F 7) n (ta + 2 * j) ∧ 0 ≤ g j ∧ g j ≤ 256) (adr 24 a)) ([.ref (a 1)] : List Value).toArray s 0 0 (adr 24 a)) (F0 m 5 ls []) := by
    clear hl
    intro nz
    induction nz with
    | zero =>
      intro jj ai g H locs hn
      exact absurd hn (Nat.not_lt_zero _)
    | succ n_5 ih_5 =>
      intro jj ai g H locs hn_5 i0 i1 i2 i3 hP hS ls hl
      have f_12 : (12 - jj).toNat = (12 - (jj + 1)).toNat + 1 := by omega
      refine lv_aload_n hx hb dX3_readPlaces_5 rfl (lv_at hl 0 rfl) ?_
      refine lv_aload_n hx hb dX3_readPlaces_6 rfl (lv_at hl 0 rfl) ?_
      refine va_get (D := D) (cl := vwC) (ci := 4) (v := .int (iI ai)) (C := RX3) (T := TX3) (N := 9) hx hb hG.use i_X3 hown hK hP 1 rfl rfl 2 (by decide) (hG.use _ lf_X3_19) (fun _ h9 => h9) rfl dX3_readPlaces_7 ?_
      refine ro_call (g_runV (rest := []) hx hb hml hown hG hK hP mV_X3_signAt (c_X3_signAt l D a k (uI (uI (uI I 7 0) 7 jj) 2 ai) (uF F 8 g) ai (by omega) hn60) lk_X3_61 (va_recv hK hP (ci := 4) (q0 := 1) rfl rfl) rfl hl.1 rfl (Nat.le_of_ble_eq_true rfl) ⟨(Nat.le_of_ble_eq_true rfl), (Nat.le_of_ble_eq_true rfl)⟩ ⟨(Nat.le_of_ble_eq_true rfl), (Nat.le_of_ble_eq_true rfl)⟩ dX3_readPlaces_10) (fun r_1 q_2 => ?_)
      have e_r : r_1 = lk (F 7) n ai := by
        have h9 := lk_of q_2
        rw [← e1]
        exact h9
      have f_r := lk_in ht ai
      rw [← e_r] at f_r
      refine xr_bipush hx hb dX3_readPlaces_13 (by decide +kernel) ?_
      refine xr_icmp_ne (a := r_1) (b := 63) (tgt := 25) hx hb dX3_readPlaces_15 (by decide) (fun c_3 => ?_) (fun c_3 => ?_) (by omega) (by omega)
      · skip
        -- 15 t
        refine lv_aload_n hx hb dX3_readPlaces_25 rfl (lv_at hl 0 rfl) ?_
        refine mu_call (g_runV (rest := []) hx hb hml hown hG hK hP mV_X3_readByte (c_X3_readByte l D a k (uI (uI (uI I 7 0) 7 jj) 2 ai) (uF F 8 g) hdis n ai e1 rfl ht (by omega)) lk_X3_73 (va_recv hK hP (ci := 4) (q0 := 1) rfl rfl) rfl hl.1 rfl (Nat.le_of_ble_eq_true rfl) ⟨(Nat.le_of_ble_eq_true rfl), (Nat.le_of_ble_eq_true rfl)⟩ ⟨(Nat.le_of_ble_eq_true rfl), (Nat.le_of_ble_eq_true rfl)⟩ dX3_readPlaces_26) hS (fun _ h => h) (fun r_4 u H locs q_5 hP _ _ hS => ?_)
        obtain ⟨I1, F1⟩ := u
        try dsimp only at q_5
        rcases q_5 with ⟨ho, rfl, hu⟩ | ⟨ho, rfl, hu⟩ | ⟨ho, rfl, hu⟩
        · skip
          cases hu
          have hP : va_P D vwC (xW a k (uI (uI (uI (uI (uI I 7 0) 7 jj) 2 ai) 2 (ai + 1)) 2 (ai + 1 + 1)) (uF F 8 g)) H := hP
          have ho : hxv (lk (F 7) n ai) ≠ -1 ∧ hxv (lk (F 7) n (ai + 1)) ≠ -1 := ho
          have f_h0 := hx_in (lk (F 7) n ai)
          have f_h1 := hx_in (lk (F 7) n (ai + 1))
          have hpk : pOk (F 7) n ai := Or.inr ho
          have hpv : hxv (lk (F 7) n ai) * 16 + hxv (lk (F 7) n (ai + 1)) = pV (F 7) n ai := (if_neg (by omega)).symm
          have hlt := pOk_lt hpk
          refine lv_istore_n (lv' := [(1, .int (iI (hxv (lk (F 7) n ai) * 16 + hxv (lk (F 7) n (ai + 1))))), (0, .ref (a 1))]) hx hb dX3_readPlaces_29 rfl hl (by decide) rfl (fun ls hl => ?_)
          refine lv_iload_n hx hb dX3_readPlaces_30 rfl (lv_at hl 0 rfl) ?_
          refine xr_iconst hx hb dX3_readPlaces_31 ?_
          refine xr_icmp_ne (a := hxv (lk (F 7) n ai) * 16 + hxv (lk (F 7) n (ai + 1))) (b := (-1)) (tgt := 37) hx hb dX3_readPlaces_32 (by decide) (fun c_6 => ?_) (fun c_6 => ?_) (by omega) (by omega)
          · skip
            -- 32 t
            have f_pv := pV_in hpk
            have hnew : ∀ j, 0 ≤ j → j < jj + 1 → uA g jj (pV (F 7) n ai) j = pV (F 7) n (ta + 2 * j) ∧ 0 ≤ uA g jj (pV (F 7) n ai) j ∧ uA g jj (pV (F 7) n ai) j ≤ 256 := by
              intro j j0 j1
              by_cases h : j = jj
              · rw [h, uA_s, ← i1.1]; exact ⟨rfl, f_pv⟩
              · rw [uA_n h]; exact i2 j j0 (by omega)
            rw [← hpv] at hnew
            refine lv_aload_n hx hb dX3_readPlaces_37 rfl (lv_at hl 1 rfl) ?_
            refine va_get (D := D) (cl := vwC) (ci := 4) (v := .ref (a 8)) (C := RX3) (T := TX3) (N := 9) hx hb hG.use i_X3 hown hK hP 1 rfl rfl 7 (by decide) (hG.use _ lf_X3_35) (fun _ h9 => h9) rfl dX3_readPlaces_38 ?_
            refine lv_aload_n hx hb dX3_readPlaces_41 rfl (lv_at hl 1 rfl) ?_
            refine va_get (D := D) (cl := vwC) (ci := 4) (v := .int (iI jj)) (C := RX3) (T := TX3) (N := 9) hx hb hG.use i_X3 hown hK hP 1 rfl rfl 8 (by decide) (hG.use _ lf_X3_38) (fun _ h9 => h9) rfl dX3_readPlaces_42 ?_
            refine lv_iload_n hx hb dX3_readPlaces_45 rfl (lv_at hl 0 rfl) ?_
            refine xr_iast (f := g) (z := jj) (v := hxv (lk (F 7) n ai) * 16 + hxv (lk (F 7) n (ai + 1))) hx hb hK hP (xD hdis) hS 8 2 rfl rfl (by omega) (by omega) (by decide) dX3_readPlaces_46 (fun H locs hP hS => ?_)
            have hP : va_P D vwC (xW a k (uI (uI (uI (uI (uI I 7 0) 7 jj) 2 ai) 2 (ai + 1)) 2 (ai + 1 + 1)) (uF (uF F 8 g) 8 (uA g jj (hxv (lk (F 7) n ai) * 16 + hxv (lk (F 7) n (ai + 1)))))) H := hP
            refine lv_aload_n hx hb dX3_readPlaces_47 rfl (lv_at hl 1 rfl) ?_
            refine lv_dup hx hb dX3_readPlaces_48 rfl ?_
            refine va_get (D := D) (cl := vwC) (ci := 4) (v := .int (iI jj)) (C := RX3) (T := TX3) (N := 9) hx hb hG.use i_X3 hown hK hP 1 rfl rfl 8 (by decide) (hG.use _ lf_X3_38) (fun _ h9 => h9) rfl dX3_readPlaces_49 ?_
            refine xr_iconst hx hb dX3_readPlaces_52 ?_
            refine xr_iadd (a := jj) (b := 1) hx hb dX3_readPlaces_53 ?_
            refine va_put (D := D) (cl := vwC) (ci := 4) (v := .int (iI (jj + 1))) (ty := .int) (C := RX3) (T := TX3) (N := 9) hx hb hG.use i_X3 tyX3 tyX3_ok nmX3 hown hK hP (xD hdis) hS 1 rfl rfl 8 (by decide) (hG.use _ lf_X3_38) (fun _ h9 => h9) rfl (by decide +kernel) rfl rfl (Nat.le_of_ble_eq_true rfl) dX3_readPlaces_54 (fun H locs hP _ hS => ?_)
            have hP : va_P D vwC (xW a k (uI (uI (uI (uI (uI (uI I 7 0) 7 jj) 2 ai) 2 (ai + 1)) 2 (ai + 1 + 1)) 7 (jj + 1)) (uF (uF F 8 g) 8 (uA g jj (hxv (lk (F 7) n ai) * 16 + hxv (lk (F 7) n (ai + 1)))))) H := hP
            refine lv_aload_n hx hb dX3_readPlaces_57 rfl (lv_at hl 1 rfl) ?_
            refine va_get (D := D) (cl := vwC) (ci := 4) (v := .int (iI (jj + 1))) (C := RX3) (T := TX3) (N := 9) hx hb hG.use i_X3 hown hK hP 1 rfl rfl 8 (by decide) (hG.use _ lf_X3_38) (fun _ h9 => h9) rfl dX3_readPlaces_58 ?_
            refine xr_bipush hx hb dX3_readPlaces_61 (by decide +kernel) ?_
            refine xr_icmp_ge (a := jj + 1) (b := 12) (tgt := 77) hx hb dX3_readPlaces_63 (by decide) (fun c_7 => ?_) (fun c_7 => ?_) (by omega) (by omega)
            · skip
              -- 63 t
              refine lv_aload_n hx hb dX3_readPlaces_77 rfl (lv_at hl 1 rfl) ?_
              refine va_get (D := D) (cl := vwC) (ci := 4) (v := .int (iI (ai + 1 + 1))) (C := RX3) (T := TX3) (N := 9) hx hb hG.use i_X3 hown hK hP 1 rfl rfl 2 (by decide) (hG.use _ lf_X3_19) (fun _ h9 => h9) rfl dX3_readPlaces_78 ?_
              refine lv_aload_n hx hb dX3_readPlaces_81 rfl (lv_at hl 1 rfl) ?_
              refine va_get (D := D) (cl := vwC) (ci := 4) (v := .int (iI (I 1))) (C := RX3) (T := TX3) (N := 9) hx hb hG.use i_X3 hown hK hP 1 rfl rfl 1 (by decide) (hG.use _ lf_X3_15) (fun _ h9 => h9) rfl dX3_readPlaces_82 ?_
              refine xr_icmp_ne (a := ai + 1 + 1) (b := I 1) (tgt := 92) hx hb dX3_readPlaces_85 (by decide) (fun c_8 => ?_) (fun c_8 => ?_) (by omega) (by omega)
              · skip
                -- 85 t
                refine xr_iconst hx hb dX3_readPlaces_92 ?_
                exact W.zret (v := iI 0) hx hb hr (bz_nar (by omega)) (fun t ht9 hW => ⟨0, (uI (uI I 7 (jj + 1)) 2 (ai + 1 + 1), uF F 8 (uA g jj (hxv (lk (F 7) n ai) * 16 + hxv (lk (F 7) n (ai + 1))))), rfl, (by first | (exfalso; omega) | exact ⟨_, jj + 1, _, by rw [i3, f_12, plA_end hpk (by omega), show ai + 2 = ai + 1 + 1 by omega]; first | rw [if_pos (by omega)] | rw [if_neg (by omega)], rfl, by omega, by omega, by omega, hnew⟩), by rw [ht9]; exact hP, hS.F ht9⟩) hS.2.2 dX3_readPlaces_93
              · skip
                -- 85 f
                refine xr_iconst hx hb dX3_readPlaces_88 ?_
                refine lv_goto (tgt := 93) hx hb dX3_readPlaces_89 (by decide) ?_
                exact W.zret (v := iI 1) hx hb hr (bz_nar (by omega)) (fun t ht9 hW => ⟨1, (uI (uI I 7 (jj + 1)) 2 (ai + 1 + 1), uF F 8 (uA g jj (hxv (lk (F 7) n ai) * 16 + hxv (lk (F 7) n (ai + 1))))), rfl, (by first | (exfalso; omega) | exact ⟨_, jj + 1, _, by rw [i3, f_12, plA_end hpk (by omega), show ai + 2 = ai + 1 + 1 by omega]; first | rw [if_pos (by omega)] | rw [if_neg (by omega)], rfl, by omega, by omega, by omega, hnew⟩), by rw [ht9]; exact hP, hS.F ht9⟩) hS.2.2 dX3_readPlaces_93
            · skip
              -- 63 f
              refine lv_aload_n hx hb dX3_readPlaces_66 rfl (lv_at hl 1 rfl) ?_
              refine va_get (D := D) (cl := vwC) (ci := 4) (v := .int (iI (ai + 1 + 1))) (C := RX3) (T := TX3) (N := 9) hx hb hG.use i_X3 hown hK hP 1 rfl rfl 2 (by decide) (hG.use _ lf_X3_19) (fun _ h9 => h9) rfl dX3_readPlaces_67 ?_
              refine lv_aload_n hx hb dX3_readPlaces_70 rfl (lv_at hl 1 rfl) ?_
              refine va_get (D := D) (cl := vwC) (ci := 4) (v := .int (iI (I 1))) (C := RX3) (T := TX3) (N := 9) hx hb hG.use i_X3 hown hK hP 1 rfl rfl 1 (by decide) (hG.use _ lf_X3_15) (fun _ h9 => h9) rfl dX3_readPlaces_71 ?_
              refine xr_icmp_lt (a := ai + 1 + 1) (b := I 1) (tgt := 5) hx hb dX3_readPlaces_74 (by decide) (fun c_9 => ?_) (fun c_9 => ?_) (by omega) (by omega)
              · skip
                -- 74 t
                exact ih_5 (jj + 1) (ai + 1 + 1) (uA g jj (hxv (lk (F 7) n ai) * 16 + hxv (lk (F 7) n (ai + 1)))) _ _ (by omega) (by omega) (by omega) (by exact hnew) (by rw [i3, f_12, plA_go hpk (by omega)]; congr 1; omega) hP hS ls (lv_sub hl [1] rfl)
              · skip
                -- 74 f
                refine lv_aload_n hx hb dX3_readPlaces_77 rfl (lv_at hl 1 rfl) ?_
                refine va_get (D := D) (cl := vwC) (ci := 4) (v := .int (iI (ai + 1 + 1))) (C := RX3) (T := TX3) (N := 9) hx hb hG.use i_X3 hown hK hP 1 rfl rfl 2 (by decide) (hG.use _ lf_X3_19) (fun _ h9 => h9) rfl dX3_readPlaces_78 ?_
                refine lv_aload_n hx hb dX3_readPlaces_81 rfl (lv_at hl 1 rfl) ?_
                refine va_get (D := D) (cl := vwC) (ci := 4) (v := .int (iI (I 1))) (C := RX3) (T := TX3) (N := 9) hx hb hG.use i_X3 hown hK hP 1 rfl rfl 1 (by decide) (hG.use _ lf_X3_15) (fun _ h9 => h9) rfl dX3_readPlaces_82 ?_
                refine xr_icmp_ne (a := ai + 1 + 1) (b := I 1) (tgt := 92) hx hb dX3_readPlaces_85 (by decide) (fun c_10 => ?_) (fun c_10 => ?_) (by omega) (by omega)
                · skip
                  -- 85 t
                  refine xr_iconst hx hb dX3_readPlaces_92 ?_
                  exact W.zret (v := iI 0) hx hb hr (bz_nar (by omega)) (fun t ht9 hW => ⟨0, (uI (uI I 7 (jj + 1)) 2 (ai + 1 + 1), uF F 8 (uA g jj (hxv (lk (F 7) n ai) * 16 + hxv (lk (F 7) n (ai + 1))))), rfl, (by first | (exfalso; omega) | exact ⟨_, jj + 1, _, by rw [i3, f_12, plA_end hpk (by omega), show ai + 2 = ai + 1 + 1 by omega]; first | rw [if_pos (by omega)] | rw [if_neg (by omega)], rfl, by omega, by omega, by omega, hnew⟩), by rw [ht9]; exact hP, hS.F ht9⟩) hS.2.2 dX3_readPlaces_93
                · skip
                  -- 85 f
                  refine xr_iconst hx hb dX3_readPlaces_88 ?_
                  refine lv_goto (tgt := 93) hx hb dX3_readPlaces_89 (by decide) ?_
                  exact W.zret (v := iI 1) hx hb hr (bz_nar (by omega)) (fun t ht9 hW => ⟨1, (uI (uI I 7 (jj + 1)) 2 (ai + 1 + 1), uF F 8 (uA g jj (hxv (lk (F 7) n ai) * 16 + hxv (lk (F 7) n (ai + 1))))), rfl, (by first | (exfalso; omega) | exact ⟨_, jj + 1, _, by rw [i3, f_12, plA_end hpk (by omega), show ai + 2 = ai + 1 + 1 by omega]; first | rw [if_pos (by omega)] | rw [if_neg (by omega)], rfl, by omega, by omega, by omega, hnew⟩), by rw [ht9]; exact hP, hS.F ht9⟩) hS.2.2 dX3_readPlaces_93
          · skip
            -- 32 f
            refine xr_iconst hx hb dX3_readPlaces_35 ?_
            exact W.zret (v := iI 0) hx hb hr (bz_nar (by omega)) (fun t ht9 hW => ⟨0, (uI (uI I 7 jj) 2 (ai + 1 + 1), uF F 8 g), rfl, (by first | exact ⟨g, jj, _, by rw [i3, f_12, plA_no hpk, ← hpf], rfl, Or.inl rfl, by omega, by omega, i2⟩ | (exfalso; omega)), by rw [ht9]; exact hP, hS.F ht9⟩) hS.2.2 dX3_readPlaces_36
        · skip
          cases hu
          have hP : va_P D vwC (xW a k (uI (uI (uI I 7 0) 7 jj) 2 ai) (uF F 8 g)) H := hP
          have ho : hxv (lk (F 7) n ai) = -1 := ho
          have hpk : ¬ pOk (F 7) n ai := by
            intro hz
            rcases hz with hz | hz
            · exact absurd hz.1 (by omega)
            · exact hz.1 ho
          have hpf : ai = pF (F 7) n ai := (if_neg (by omega)).symm
          refine lv_istore_n (lv' := [(1, .int (iI (-1))), (0, .ref (a 1))]) hx hb dX3_readPlaces_29 rfl hl (by decide) rfl (fun ls hl => ?_)
          refine lv_iload_n hx hb dX3_readPlaces_30 rfl (lv_at hl 0 rfl) ?_
          refine xr_iconst hx hb dX3_readPlaces_31 ?_
          refine xr_icmp_ne (a := (-1)) (b := (-1)) (tgt := 37) hx hb dX3_readPlaces_32 (by decide) (fun c_11 => ?_) (fun c_11 => ?_) (by omega) (by omega)
          · exact absurd c_11 (by omega)
          · skip
            -- 32 f
            refine xr_iconst hx hb dX3_readPlaces_35 ?_
            exact W.zret (v := iI 0) hx hb hr (bz_nar (by omega)) (fun t ht9 hW => ⟨0, (uI (uI I 7 jj) 2 ai, uF F 8 g), rfl, (by first | exact ⟨g, jj, _, by rw [i3, f_12, plA_no hpk, ← hpf], rfl, Or.inl rfl, by omega, by omega, i2⟩ | (exfalso; omega)), by rw [ht9]; exact hP, hS.F ht9⟩) hS.2.2 dX3_readPlaces_36
        · skip
          cases hu
          have hP : va_P D vwC (xW a k (uI (uI (uI (uI I 7 0) 7 jj) 2 ai) 2 (ai + 1)) (uF F 8 g)) H := hP
          have ho : hxv (lk (F 7) n ai) ≠ -1 ∧ hxv (lk (F 7) n (ai + 1)) = -1 := ho
          have hpk : ¬ pOk (F 7) n ai := by
            intro hz
            rcases hz with hz | hz
            · exact absurd hz.1 (by omega)
            · exact hz.2 ho.2
          have hpf : ai + 1 = pF (F 7) n ai := (if_pos (Or.inr ho.1)).symm
          refine lv_istore_n (lv' := [(1, .int (iI (-1))), (0, .ref (a 1))]) hx hb dX3_readPlaces_29 rfl hl (by decide) rfl (fun ls hl => ?_)
          refine lv_iload_n hx hb dX3_readPlaces_30 rfl (lv_at hl 0 rfl) ?_
          refine xr_iconst hx hb dX3_readPlaces_31 ?_
          refine xr_icmp_ne (a := (-1)) (b := (-1)) (tgt := 37) hx hb dX3_readPlaces_32 (by decide) (fun c_12 => ?_) (fun c_12 => ?_) (by omega) (by omega)
          · exact absurd c_12 (by omega)
          · skip
            -- 32 f
            refine xr_iconst hx hb dX3_readPlaces_35 ?_
            exact W.zret (v := iI 0) hx hb hr (bz_nar (by omega)) (fun t ht9 hW => ⟨0, (uI (uI I 7 jj) 2 (ai + 1), uF F 8 g), rfl, (by first | exact ⟨g, jj, _, by rw [i3, f_12, plA_no hpk, ← hpf], rfl, Or.inl rfl, by omega, by omega, i2⟩ | (exfalso; omega)), by rw [ht9]; exact hP, hS.F ht9⟩) hS.2.2 dX3_readPlaces_36
      · skip
        -- 15 f
        refine lv_aload_n hx hb dX3_readPlaces_18 rfl (lv_at hl 0 rfl) ?_
        refine mu_call (g_runV (rest := []) hx hb hml hown hG hK hP mV_X3_readAnyByte (c_X3_readAnyByte l D a k (uI (uI (uI I 7 0) 7 jj) 2 ai) (uF F 8 g) hdis n ai e1 rfl ht (by omega)) lk_X3_69 (va_recv hK hP (ci := 4) (q0 := 1) rfl rfl) rfl hl.1 rfl (Nat.le_of_ble_eq_true rfl) ⟨(Nat.le_of_ble_eq_true rfl), (Nat.le_of_ble_eq_true rfl)⟩ ⟨(Nat.le_of_ble_eq_true rfl), (Nat.le_of_ble_eq_true rfl)⟩ dX3_readPlaces_19) hS (fun _ h => h) (fun r_13 u H locs q_14 hP _ _ hS => ?_)
        obtain ⟨I2, F2⟩ := u
        try dsimp only at q_14
        rcases q_14 with ⟨ho, rfl, hu⟩ | ⟨ho, rfl, hu⟩
        · skip
          cases hu
          have hP : va_P D vwC (xW a k (uI (uI (uI (uI (uI I 7 0) 7 jj) 2 ai) 2 (ai + 1)) 2 (ai + 1 + 1)) (uF F 8 g)) H := hP
          have ho : lk (F 7) n (ai + 1) = 63 := ho
          have hpk : pOk (F 7) n ai := Or.inl ⟨by omega, ho⟩
          have hpv : 256 = pV (F 7) n ai := (if_pos (by omega)).symm
          have hlt := pOk_lt hpk
          refine lv_goto (tgt := 29) hx hb dX3_readPlaces_22 (by decide) ?_
          refine lv_istore_n (lv' := [(1, .int (iI 256)), (0, .ref (a 1))]) hx hb dX3_readPlaces_29 rfl hl (by decide) rfl (fun ls hl => ?_)
          refine lv_iload_n hx hb dX3_readPlaces_30 rfl (lv_at hl 0 rfl) ?_
          refine xr_iconst hx hb dX3_readPlaces_31 ?_
          refine xr_icmp_ne (a := 256) (b := (-1)) (tgt := 37) hx hb dX3_readPlaces_32 (by decide) (fun c_15 => ?_) (fun c_15 => ?_) (by omega) (by omega)
          · skip
            -- 32 t
            have f_pv := pV_in hpk
            have hnew : ∀ j, 0 ≤ j → j < jj + 1 → uA g jj (pV (F 7) n ai) j = pV (F 7) n (ta + 2 * j) ∧ 0 ≤ uA g jj (pV (F 7) n ai) j ∧ uA g jj (pV (F 7) n ai) j ≤ 256 := by
              intro j j0 j1
              by_cases h : j = jj
              · rw [h, uA_s, ← i1.1]; exact ⟨rfl, f_pv⟩
              · rw [uA_n h]; exact i2 j j0 (by omega)
            rw [← hpv] at hnew
            refine lv_aload_n hx hb dX3_readPlaces_37 rfl (lv_at hl 1 rfl) ?_
            refine va_get (D := D) (cl := vwC) (ci := 4) (v := .ref (a 8)) (C := RX3) (T := TX3) (N := 9) hx hb hG.use i_X3 hown hK hP 1 rfl rfl 7 (by decide) (hG.use _ lf_X3_35) (fun _ h9 => h9) rfl dX3_readPlaces_38 ?_
            refine lv_aload_n hx hb dX3_readPlaces_41 rfl (lv_at hl 1 rfl) ?_
            refine va_get (D := D) (cl := vwC) (ci := 4) (v := .int (iI jj)) (C := RX3) (T := TX3) (N := 9) hx hb hG.use i_X3 hown hK hP 1 rfl rfl 8 (by decide) (hG.use _ lf_X3_38) (fun _ h9 => h9) rfl dX3_readPlaces_42 ?_
            refine lv_iload_n hx hb dX3_readPlaces_45 rfl (lv_at hl 0 rfl) ?_
            refine xr_iast (f := g) (z := jj) (v := 256) hx hb hK hP (xD hdis) hS 8 2 rfl rfl (by omega) (by omega) (by decide) dX3_readPlaces_46 (fun H locs hP hS => ?_)
            have hP : va_P D vwC (xW a k (uI (uI (uI (uI (uI I 7 0) 7 jj) 2 ai) 2 (ai + 1)) 2 (ai + 1 + 1)) (uF (uF F 8 g) 8 (uA g jj 256))) H := hP
            refine lv_aload_n hx hb dX3_readPlaces_47 rfl (lv_at hl 1 rfl) ?_
            refine lv_dup hx hb dX3_readPlaces_48 rfl ?_
            refine va_get (D := D) (cl := vwC) (ci := 4) (v := .int (iI jj)) (C := RX3) (T := TX3) (N := 9) hx hb hG.use i_X3 hown hK hP 1 rfl rfl 8 (by decide) (hG.use _ lf_X3_38) (fun _ h9 => h9) rfl dX3_readPlaces_49 ?_
            refine xr_iconst hx hb dX3_readPlaces_52 ?_
            refine xr_iadd (a := jj) (b := 1) hx hb dX3_readPlaces_53 ?_
            refine va_put (D := D) (cl := vwC) (ci := 4) (v := .int (iI (jj + 1))) (ty := .int) (C := RX3) (T := TX3) (N := 9) hx hb hG.use i_X3 tyX3 tyX3_ok nmX3 hown hK hP (xD hdis) hS 1 rfl rfl 8 (by decide) (hG.use _ lf_X3_38) (fun _ h9 => h9) rfl (by decide +kernel) rfl rfl (Nat.le_of_ble_eq_true rfl) dX3_readPlaces_54 (fun H locs hP _ hS => ?_)
            have hP : va_P D vwC (xW a k (uI (uI (uI (uI (uI (uI I 7 0) 7 jj) 2 ai) 2 (ai + 1)) 2 (ai + 1 + 1)) 7 (jj + 1)) (uF (uF F 8 g) 8 (uA g jj 256))) H := hP
            refine lv_aload_n hx hb dX3_readPlaces_57 rfl (lv_at hl 1 rfl) ?_
            refine va_get (D := D) (cl := vwC) (ci := 4) (v := .int (iI (jj + 1))) (C := RX3) (T := TX3) (N := 9) hx hb hG.use i_X3 hown hK hP 1 rfl rfl 8 (by decide) (hG.use _ lf_X3_38) (fun _ h9 => h9) rfl dX3_readPlaces_58 ?_
            refine xr_bipush hx hb dX3_readPlaces_61 (by decide +kernel) ?_
            refine xr_icmp_ge (a := jj + 1) (b := 12) (tgt := 77) hx hb dX3_readPlaces_63 (by decide) (fun c_16 => ?_) (fun c_16 => ?_) (by omega) (by omega)
            · skip
              -- 63 t
              refine lv_aload_n hx hb dX3_readPlaces_77 rfl (lv_at hl 1 rfl) ?_
              refine va_get (D := D) (cl := vwC) (ci := 4) (v := .int (iI (ai + 1 + 1))) (C := RX3) (T := TX3) (N := 9) hx hb hG.use i_X3 hown hK hP 1 rfl rfl 2 (by decide) (hG.use _ lf_X3_19) (fun _ h9 => h9) rfl dX3_readPlaces_78 ?_
              refine lv_aload_n hx hb dX3_readPlaces_81 rfl (lv_at hl 1 rfl) ?_
              refine va_get (D := D) (cl := vwC) (ci := 4) (v := .int (iI (I 1))) (C := RX3) (T := TX3) (N := 9) hx hb hG.use i_X3 hown hK hP 1 rfl rfl 1 (by decide) (hG.use _ lf_X3_15) (fun _ h9 => h9) rfl dX3_readPlaces_82 ?_
              refine xr_icmp_ne (a := ai + 1 + 1) (b := I 1) (tgt := 92) hx hb dX3_readPlaces_85 (by decide) (fun c_17 => ?_) (fun c_17 => ?_) (by omega) (by omega)
              · skip
                -- 85 t
                refine xr_iconst hx hb dX3_readPlaces_92 ?_
                exact W.zret (v := iI 0) hx hb hr (bz_nar (by omega)) (fun t ht9 hW => ⟨0, (uI (uI I 7 (jj + 1)) 2 (ai + 1 + 1), uF F 8 (uA g jj 256)), rfl, (by first | (exfalso; omega) | exact ⟨_, jj + 1, _, by rw [i3, f_12, plA_end hpk (by omega), show ai + 2 = ai + 1 + 1 by omega]; first | rw [if_pos (by omega)] | rw [if_neg (by omega)], rfl, by omega, by omega, by omega, hnew⟩), by rw [ht9]; exact hP, hS.F ht9⟩) hS.2.2 dX3_readPlaces_93
              · skip
                -- 85 f
                refine xr_iconst hx hb dX3_readPlaces_88 ?_
                refine lv_goto (tgt := 93) hx hb dX3_readPlaces_89 (by decide) ?_
                exact W.zret (v := iI 1) hx hb hr (bz_nar (by omega)) (fun t ht9 hW => ⟨1, (uI (uI I 7 (jj + 1)) 2 (ai + 1 + 1), uF F 8 (uA g jj 256)), rfl, (by first | (exfalso; omega) | exact ⟨_, jj + 1, _, by rw [i3, f_12, plA_end hpk (by omega), show ai + 2 = ai + 1 + 1 by omega]; first | rw [if_pos (by omega)] | rw [if_neg (by omega)], rfl, by omega, by omega, by omega, hnew⟩), by rw [ht9]; exact hP, hS.F ht9⟩) hS.2.2 dX3_readPlaces_93
            · skip
              -- 63 f
              refine lv_aload_n hx hb dX3_readPlaces_66 rfl (lv_at hl 1 rfl) ?_
              refine va_get (D := D) (cl := vwC) (ci := 4) (v := .int (iI (ai + 1 + 1))) (C := RX3) (T := TX3) (N := 9) hx hb hG.use i_X3 hown hK hP 1 rfl rfl 2 (by decide) (hG.use _ lf_X3_19) (fun _ h9 => h9) rfl dX3_readPlaces_67 ?_
              refine lv_aload_n hx hb dX3_readPlaces_70 rfl (lv_at hl 1 rfl) ?_
              refine va_get (D := D) (cl := vwC) (ci := 4) (v := .int (iI (I 1))) (C := RX3) (T := TX3) (N := 9) hx hb hG.use i_X3 hown hK hP 1 rfl rfl 1 (by decide) (hG.use _ lf_X3_15) (fun _ h9 => h9) rfl dX3_readPlaces_71 ?_
              refine xr_icmp_lt (a := ai + 1 + 1) (b := I 1) (tgt := 5) hx hb dX3_readPlaces_74 (by decide) (fun c_18 => ?_) (fun c_18 => ?_) (by omega) (by omega)
              · skip
                -- 74 t
                exact ih_5 (jj + 1) (ai + 1 + 1) (uA g jj 256) _ _ (by omega) (by omega) (by omega) (by exact hnew) (by rw [i3, f_12, plA_go hpk (by omega)]; congr 1; omega) hP hS ls (lv_sub hl [1] rfl)
              · skip
                -- 74 f
                refine lv_aload_n hx hb dX3_readPlaces_77 rfl (lv_at hl 1 rfl) ?_
                refine va_get (D := D) (cl := vwC) (ci := 4) (v := .int (iI (ai + 1 + 1))) (C := RX3) (T := TX3) (N := 9) hx hb hG.use i_X3 hown hK hP 1 rfl rfl 2 (by decide) (hG.use _ lf_X3_19) (fun _ h9 => h9) rfl dX3_readPlaces_78 ?_
                refine lv_aload_n hx hb dX3_readPlaces_81 rfl (lv_at hl 1 rfl) ?_
                refine va_get (D := D) (cl := vwC) (ci := 4) (v := .int (iI (I 1))) (C := RX3) (T := TX3) (N := 9) hx hb hG.use i_X3 hown hK hP 1 rfl rfl 1 (by decide) (hG.use _ lf_X3_15) (fun _ h9 => h9) rfl dX3_readPlaces_82 ?_
                refine xr_icmp_ne (a := ai + 1 + 1) (b := I 1) (tgt := 92) hx hb dX3_readPlaces_85 (by decide) (fun c_19 => ?_) (fun c_19 => ?_) (by omega) (by omega)
                · skip
                  -- 85 t
                  refine xr_iconst hx hb dX3_readPlaces_92 ?_
                  exact W.zret (v := iI 0) hx hb hr (bz_nar (by omega)) (fun t ht9 hW => ⟨0, (uI (uI I 7 (jj + 1)) 2 (ai + 1 + 1), uF F 8 (uA g jj 256)), rfl, (by first | (exfalso; omega) | exact ⟨_, jj + 1, _, by rw [i3, f_12, plA_end hpk (by omega), show ai + 2 = ai + 1 + 1 by omega]; first | rw [if_pos (by omega)] | rw [if_neg (by omega)], rfl, by omega, by omega, by omega, hnew⟩), by rw [ht9]; exact hP, hS.F ht9⟩) hS.2.2 dX3_readPlaces_93
                · skip
                  -- 85 f
                  refine xr_iconst hx hb dX3_readPlaces_88 ?_
                  refine lv_goto (tgt := 93) hx hb dX3_readPlaces_89 (by decide) ?_
                  exact W.zret (v := iI 1) hx hb hr (bz_nar (by omega)) (fun t ht9 hW => ⟨1, (uI (uI I 7 (jj + 1)) 2 (ai + 1 + 1), uF F 8 (uA g jj 256)), rfl, (by first | (exfalso; omega) | exact ⟨_, jj + 1, _, by rw [i3, f_12, plA_end hpk (by omega), show ai + 2 = ai + 1 + 1 by omega]; first | rw [if_pos (by omega)] | rw [if_neg (by omega)], rfl, by omega, by omega, by omega, hnew⟩), by rw [ht9]; exact hP, hS.F ht9⟩) hS.2.2 dX3_readPlaces_93
          · exact absurd c_15 (by omega)
        · skip
          cases hu
          have hP : va_P D vwC (xW a k (uI (uI (uI (uI I 7 0) 7 jj) 2 ai) 2 (ai + 1)) (uF F 8 g)) H := hP
          have ho : lk (F 7) n (ai + 1) ≠ 63 := ho
          have hpk : ¬ pOk (F 7) n ai := by
            intro hz
            rcases hz with hz | hz
            · exact ho hz.2
            · exact hz.1 (by rw [show lk (F 7) n ai = 63 by omega]; rfl)
          have hpf : ai + 1 = pF (F 7) n ai := (if_pos (Or.inl (by omega))).symm
          refine lv_goto (tgt := 29) hx hb dX3_readPlaces_22 (by decide) ?_
          refine lv_istore_n (lv' := [(1, .int (iI (-1))), (0, .ref (a 1))]) hx hb dX3_readPlaces_29 rfl hl (by decide) rfl (fun ls hl => ?_)
          refine lv_iload_n hx hb dX3_readPlaces_30 rfl (lv_at hl 0 rfl) ?_
          refine xr_iconst hx hb dX3_readPlaces_31 ?_
          refine xr_icmp_ne (a := (-1)) (b := (-1)) (tgt := 37) hx hb dX3_readPlaces_32 (by decide) (fun c_20 => ?_) (fun c_20 => ?_) (by omega) (by omega)
          · exact absurd c_20 (by omega)
          · skip
            -- 32 f
            refine xr_iconst hx hb dX3_readPlaces_35 ?_
            exact W.zret (v := iI 0) hx hb hr (bz_nar (by omega)) (fun t ht9 hW => ⟨0, (uI (uI I 7 jj) 2 (ai + 1), uF F 8 g), rfl, (by first | exact ⟨g, jj, _, by rw [i3, f_12, plA_no hpk, ← hpf], rfl, Or.inl rfl, by omega, by omega, i2⟩ | (exfalso; omega)), by rw [ht9]; exact hP, hS.F ht9⟩) hS.2.2 dX3_readPlaces_36
  exact lp_5 _ 0 (I 2) (F 8) _ _ (Nat.lt_succ_self _) (by omega) (by omega) (by intro j j0 j1; omega) (by rw [e2]; rfl) hP hS ls (lv_sub hl [0] rfl)
