theorem dm_or {F : Nat → Int → Int} {g : Int → Int} {M ot p0 z : Int} (h : bits M (fun k => (0 ≤ k ∧ k < 30) ∧ ∃ o : Int, (0 ≤ o ∧ o < ot) ∧ F 18 o = p0 ∧ g o = k)) (h0 : 0 ≤ ot) (hp : F 18 ot = p0) (hz : z = g ot) (hz2 : 0 ≤ z ∧ z < 30) : bits (iI M ||| ((iI 1) <<< (iI z &&& 31))).toInt (fun k => (0 ≤ k ∧ k < 30) ∧ ∃ o : Int, (0 ≤ o ∧ o < ot + 1) ∧ F 18 o = p0 ∧ g o = k) := by
  refine bits_or h hz2.1 hz2.2 (fun k => ⟨fun ⟨q, o, o1, o2, o3⟩ => ?_, fun q => ?_⟩)
  · by_cases e : o = ot
    · subst e; exact Or.inr (o3.symm.trans hz.symm)
    · exact Or.inl ⟨q, o, by omega, o2, o3⟩
  · rcases q with ⟨q, o, o1, o2, o3⟩ | q
    · exact ⟨q, o, by omega, o2, o3⟩
    · exact ⟨by omega, ot, by omega, hp, by rw [q, hz]⟩
theorem dm_skip {F : Nat → Int → Int} {g : Int → Int} {M ot p0 : Int} (h : bits M (fun k => (0 ≤ k ∧ k < 30) ∧ ∃ o : Int, (0 ≤ o ∧ o < ot) ∧ F 18 o = p0 ∧ g o = k)) (h0 : 0 ≤ ot) (hs : ¬ F 18 ot = p0 ∨ ¬ (0 ≤ g ot ∧ g ot < 30)) : bits M (fun k => (0 ≤ k ∧ k < 30) ∧ ∃ o : Int, (0 ≤ o ∧ o < ot + 1) ∧ F 18 o = p0 ∧ g o = k) := by
  refine bits_ext h (fun k => ⟨fun ⟨q, o, o1, o2, o3⟩ => ⟨q, o, by omega, o2, o3⟩, fun ⟨q, o, o1, o2, o3⟩ => ?_⟩)
  by_cases e : o = ot
  · subst e
    rcases hs with hs | hs
    · exact absurd o2 hs
    · exact absurd (by rw [o3]; exact q) hs
  · exact ⟨q, o, by omega, o2, o3⟩

set_option maxHeartbeats 4000000 in
set_option maxRecDepth 100000 in
theorem c_X5_formatsOf (l : Launch) (D : va_G) (a : Nat → Nat) (k : Nat → ClassId) (I : Nat → Int) (F : Nat → Int → Int) (p0 p1 : Int) (hv : xInv I F) (h0 : 0 ≤ p0 ∧ p0 < I 9) (h1 : 0 ≤ p1 ∧ p1 ≤ I 8) : ro_M l yX5_formatsOf cX5_formatsOf 8 (some .int) 2 [.ref (a 0), .int (iI p0), .int (iI p1)] D (xT k) (xW a k I F) (fun r => bits r (xset F p0 p1)) := by
  refine me_start (by decide) (Nat.le_of_ble_eq_true rfl) rfl ?_
  intro p e s m below meth c hx hb hml hr hown hlocks hnm hG hK hP ls hl
  have hown : s.vm.findClass RX5 = some m.cls := hown
  have hl : lv_has ls 8 [(0, .ref (a 0)), (1, .int (iI p0)), (2, .int (iI p1))] := hl
  have f_n := hv.n
  have f_fl := hv.fl p0 (by omega) (by omega)
  refine lv_aload_n hx hb dX5_formatsOf_0 rfl (lv_at hl 0 rfl) ?_
  refine va_get (D := D) (cl := vwC) (ci := 6) (v := .ref (a 3)) (C := RX5) (T := TX5) (N := 7) hx hb hG.use i_X5 hown hK hP 0 rfl rfl 2 (by decide) (hG.use _ lf_X5_26) (fun _ h9 => h9) rfl dX5_formatsOf_1 ?_
  refine va_getN (host := "FormatRows") (D := D) (cl := vwC) (ci := 2) (v := .ref (a 15)) (C := RX1) (T := TX1) (N := 5) hx hb hG.use i_X1 hown hK hP 3 rfl rfl 1 (by decide) (hG.use _ lf_X5_159) (fun _ h9 => h9) rfl dX5_formatsOf_4 ?_
  refine lv_iload_n hx hb dX5_formatsOf_7 rfl (lv_at hl 1 rfl) ?_
  refine xr_iald (f := F 15) (z := p0) hx hb hK hP 15 9 rfl rfl (by omega) (by omega) (by decide) dX5_formatsOf_8 ?_
  refine xr_if_ne (a := (F 15) p0) (tgt := 14) hx hb dX5_formatsOf_9 (by decide) (fun c_1 => ?_) (fun c_1 => ?_) (by omega)
  · skip
    -- 9 t
    refine xr_iconst hx hb dX5_formatsOf_14 ?_
    refine lv_istore_n (lv' := [(3, .int (iI 0)), (0, .ref (a 0)), (1, .int (iI p0)), (2, .int (iI p1))]) hx hb dX5_formatsOf_15 rfl hl (by decide) rfl (fun ls hl => ?_)
    refine xr_iconst hx hb dX5_formatsOf_16 ?_
    refine lv_istore (lv' := [(4, .int (iI (-1))), (3, .int (iI 0)), (0, .ref (a 0)), (1, .int (iI p0)), (2, .int (iI p1))]) hx hb dX5_formatsOf_17 hl (by decide) rfl (fun ls hl => ?_)
    refine xr_iconst hx hb dX5_formatsOf_19 ?_
    refine lv_istore (lv' := [(5, .int (iI 0)), (4, .int (iI (-1))), (3, .int (iI 0)), (0, .ref (a 0)), (1, .int (iI p0)), (2, .int (iI p1))]) hx hb dX5_formatsOf_20 hl (by decide) rfl (fun ls hl => ?_)
    have lp_22 : ∀ (nz : Nat) (se : Int) (gr : Int) (ro : Int), (p1 - ro).toNat < nz → (0 ≤ ro ∧ ro ≤ p1) → (-1 ≤ gr ∧ gr < 10) → (stI (F 9) (F 10) (fun r => xfit F r p0) ro gr se) → ∀ ls : Array Slot, lv_has ls 8 [(3, .int (iI se)), (4, .int (iI gr)), (5, .int (iI ro)), (0, .ref (a 0)), (1, .int (iI p0)), (2, .int (iI p1))] → W p l e (rmd 2) s m ([.ref (a 0), .int (iI p0), .int (iI p1)] : List Value).toArray below meth c s.heap [] 0 0 (MQ below (ro_Q (fun r => bits r (xset F p0 p1))) ([.ref (a 0), .int (iI p0), .int (iI p1)] : List Value).toArray s 0 0 (fun _ => False)) (F0 m 22 ls []) := by
      clear hl
      intro nz
      induction nz with
      | zero =>
        intro se gr ro hn
        exact absurd hn (Nat.not_lt_zero _)
      | succ n_22 ih_22 =>
        intro se gr ro hn_22 i0 i2 i1 ls hl
        refine lv_iload hx hb dX5_formatsOf_22 (lv_at hl 2 rfl) ?_
        refine lv_iload_n hx hb dX5_formatsOf_24 rfl (lv_at hl 5 rfl) ?_
        refine xr_icmp_ge (a := ro) (b := p1) (tgt := 97) hx hb dX5_formatsOf_25 (by decide) (fun c_2 => ?_) (fun c_2 => ?_) (by omega) (by omega)
        · skip
          -- 25 t
          refine lv_iload_n hx hb dX5_formatsOf_97 rfl (lv_at hl 0 rfl) ?_
          exact W.iret (v := iI se) hx hb hr (fun t ht9 hW => ⟨se, rfl, (by have e9 : ro = p1 := (by omega); rw [e9] at i1; exact st_end i1 (fun r q0 q1 => (hv.rw r q0 (by omega)).2.1.1) (by omega)), ht9⟩) t_nil dX5_formatsOf_98
        · skip
          -- 25 f
          have f_rw := hv.rw ro (by omega) (by omega)
          refine lv_aload_n hx hb dX5_formatsOf_28 rfl (lv_at hl 3 rfl) ?_
          refine va_get (D := D) (cl := vwC) (ci := 6) (v := .ref (a 2)) (C := RX5) (T := TX5) (N := 7) hx hb hG.use i_X5 hown hK hP 0 rfl rfl 1 (by decide) (hG.use _ lf_X5_19) (fun _ h9 => h9) rfl dX5_formatsOf_29 ?_
          refine va_getN (host := "FormatRows") (D := D) (cl := vwC) (ci := 5) (v := .ref (a 10)) (C := RX4) (T := TX4) (N := 7) hx hb hG.use i_X4 hown hK hP 2 rfl rfl 2 (by decide) (hG.use _ lf_X5_162) (fun _ h9 => h9) rfl dX5_formatsOf_32 ?_
          refine lv_iload hx hb dX5_formatsOf_35 (lv_at hl 2 rfl) ?_
          refine xr_iald (f := F 10) (z := ro) hx hb hK hP 10 4 rfl rfl (by omega) (by omega) (by decide) dX5_formatsOf_37 ?_
          refine lv_istore (lv' := [(6, .int (iI ((F 10) ro))), (3, .int (iI se)), (4, .int (iI gr)), (5, .int (iI ro)), (0, .ref (a 0)), (1, .int (iI p0)), (2, .int (iI p1))]) hx hb dX5_formatsOf_38 hl (by decide) rfl (fun ls hl => ?_)
          refine lv_iload hx hb dX5_formatsOf_40 (lv_at hl 0 rfl) ?_
          refine lv_iload hx hb dX5_formatsOf_42 (lv_at hl 2 rfl) ?_
          refine xr_icmp_lt (a := (F 10) ro) (b := gr) (tgt := 91) hx hb dX5_formatsOf_44 (by decide) (fun c_3 => ?_) (fun c_3 => ?_) (by omega) (by omega)
          · skip
            -- 44 t
            refine xr_iinc (z := ro) (lv' := [(5, .int (iI (ro + 1))), (6, .int (iI ((F 10) ro))), (3, .int (iI se)), (4, .int (iI gr)), (0, .ref (a 0)), (1, .int (iI p0)), (2, .int (iI p1))]) hx hb dX5_formatsOf_91 hl (k := 3) rfl (by decide) rfl (fun ls hl => ?_)
            refine lv_goto (tgt := 22) hx hb dX5_formatsOf_94 (by decide) ?_
            exact ih_22 se gr (ro + 1) (by omega) (by omega) (by omega) (by first | exact st_skip i1 (by omega) (Or.inl (by omega)) | exact st_skip i1 (by omega) (Or.inr (by assumption)) | (have e9 : gr = F 10 ro := (by omega); subst e9; exact st_eq i1 (by omega) (by assumption) rfl (by omega) (by omega)) | exact st_gt i1 (by omega) (by assumption) (by omega) (by omega) (by omega)) ls (lv_sub hl [2, 3, 0, 4, 5, 6] rfl)
          · skip
            -- 44 f
            refine lv_aload_n hx hb dX5_formatsOf_47 rfl (lv_at hl 4 rfl) ?_
            refine lv_iload hx hb dX5_formatsOf_48 (lv_at hl 3 rfl) ?_
            refine lv_iload_n hx hb dX5_formatsOf_50 rfl (lv_at hl 5 rfl) ?_
            refine ro_call (g_runV (rest := []) hx hb hml hown hG hK hP mV_X5_fits (c_X5_fits l D a k I F ro p0 hv (by omega) (by omega)) lk_X5_117 (va_recv hK hP (ci := 6) (q0 := 0) rfl rfl) rfl hl.1 rfl (Nat.le_of_ble_eq_true rfl) ⟨(Nat.le_of_ble_eq_true rfl), (Nat.le_of_ble_eq_true rfl)⟩ ⟨(Nat.le_of_ble_eq_true rfl), (Nat.le_of_ble_eq_true rfl)⟩ dX5_formatsOf_51) (fun r_4 q_5 => ?_)
            refine xr_if_eqZ (tgt := 91) hx hb q_5 dX5_formatsOf_54 (by decide) (fun c_6 => ?_) (fun c_6 => ?_)
            · skip
              -- 54 t
              refine xr_iinc (z := ro) (lv' := [(5, .int (iI (ro + 1))), (6, .int (iI ((F 10) ro))), (3, .int (iI se)), (4, .int (iI gr)), (0, .ref (a 0)), (1, .int (iI p0)), (2, .int (iI p1))]) hx hb dX5_formatsOf_91 hl (k := 3) rfl (by decide) rfl (fun ls hl => ?_)
              refine lv_goto (tgt := 22) hx hb dX5_formatsOf_94 (by decide) ?_
              exact ih_22 se gr (ro + 1) (by omega) (by omega) (by omega) (by first | exact st_skip i1 (by omega) (Or.inl (by omega)) | exact st_skip i1 (by omega) (Or.inr (by assumption)) | (have e9 : gr = F 10 ro := (by omega); subst e9; exact st_eq i1 (by omega) (by assumption) rfl (by omega) (by omega)) | exact st_gt i1 (by omega) (by assumption) (by omega) (by omega) (by omega)) ls (lv_sub hl [2, 3, 0, 4, 5, 6] rfl)
            · skip
              -- 54 f
              refine lv_iload hx hb dX5_formatsOf_57 (lv_at hl 0 rfl) ?_
              refine lv_iload hx hb dX5_formatsOf_59 (lv_at hl 2 rfl) ?_
              refine xr_icmp_ne (a := (F 10) ro) (b := gr) (tgt := 68) hx hb dX5_formatsOf_61 (by decide) (fun c_7 => ?_) (fun c_7 => ?_) (by omega) (by omega)
              · skip
                -- 61 t
                refine xr_iconst hx hb dX5_formatsOf_68 ?_
                refine lv_istore (lv' := [(7, .int (iI 0)), (6, .int (iI ((F 10) ro))), (3, .int (iI se)), (4, .int (iI gr)), (5, .int (iI ro)), (0, .ref (a 0)), (1, .int (iI p0)), (2, .int (iI p1))]) hx hb dX5_formatsOf_69 hl (by decide) rfl (fun ls hl => ?_)
                refine lv_iload hx hb dX5_formatsOf_71 (lv_at hl 0 rfl) ?_
                refine xr_iconst hx hb dX5_formatsOf_73 ?_
                refine lv_aload_n hx hb dX5_formatsOf_74 rfl (lv_at hl 5 rfl) ?_
                refine va_get (D := D) (cl := vwC) (ci := 6) (v := .ref (a 2)) (C := RX5) (T := TX5) (N := 7) hx hb hG.use i_X5 hown hK hP 0 rfl rfl 1 (by decide) (hG.use _ lf_X5_19) (fun _ h9 => h9) rfl dX5_formatsOf_75 ?_
                refine va_getN (host := "FormatRows") (D := D) (cl := vwC) (ci := 5) (v := .ref (a 9)) (C := RX4) (T := TX4) (N := 7) hx hb hG.use i_X4 hown hK hP 2 rfl rfl 1 (by decide) (hG.use _ lf_X5_165) (fun _ h9 => h9) rfl dX5_formatsOf_78 ?_
                refine lv_iload hx hb dX5_formatsOf_81 (lv_at hl 4 rfl) ?_
                refine xr_iald (f := F 9) (z := ro) hx hb hK hP 9 3 rfl rfl (by omega) (by omega) (by decide) dX5_formatsOf_83 ?_
                refine lv_ishl hx hb dX5_formatsOf_84 ?_
                refine xr_mor (M := 0) (z := (F 9) ro) hx hb dX5_formatsOf_85 ?_
                refine lv_istore_n (lv' := [(3, .int (iI ((iI 0 ||| ((iI 1) <<< (iI ((F 9) ro) &&& 31))).toInt))), (7, .int (iI 0)), (6, .int (iI ((F 10) ro))), (4, .int (iI gr)), (5, .int (iI ro)), (0, .ref (a 0)), (1, .int (iI p0)), (2, .int (iI p1))]) hx hb dX5_formatsOf_86 rfl hl (by decide) rfl (fun ls hl => ?_)
                refine lv_iload hx hb dX5_formatsOf_87 (lv_at hl 2 rfl) ?_
                refine lv_istore (lv' := [(4, .int (iI ((F 10) ro))), (3, .int (iI ((iI 0 ||| ((iI 1) <<< (iI ((F 9) ro) &&& 31))).toInt))), (7, .int (iI 0)), (6, .int (iI ((F 10) ro))), (5, .int (iI ro)), (0, .ref (a 0)), (1, .int (iI p0)), (2, .int (iI p1))]) hx hb dX5_formatsOf_89 hl (by decide) rfl (fun ls hl => ?_)
                refine xr_iinc (z := ro) (lv' := [(5, .int (iI (ro + 1))), (4, .int (iI ((F 10) ro))), (3, .int (iI ((iI 0 ||| ((iI 1) <<< (iI ((F 9) ro) &&& 31))).toInt))), (7, .int (iI 0)), (6, .int (iI ((F 10) ro))), (0, .ref (a 0)), (1, .int (iI p0)), (2, .int (iI p1))]) hx hb dX5_formatsOf_91 hl (k := 4) rfl (by decide) rfl (fun ls hl => ?_)
                refine lv_goto (tgt := 22) hx hb dX5_formatsOf_94 (by decide) ?_
                exact ih_22 ((iI 0 ||| ((iI 1) <<< (iI ((F 9) ro) &&& 31))).toInt) ((F 10) ro) (ro + 1) (by omega) (by omega) (by omega) (by first | exact st_skip i1 (by omega) (Or.inl (by omega)) | exact st_skip i1 (by omega) (Or.inr (by assumption)) | (have e9 : gr = F 10 ro := (by omega); subst e9; exact st_eq i1 (by omega) (by assumption) rfl (by omega) (by omega)) | exact st_gt i1 (by omega) (by assumption) (by omega) (by omega) (by omega)) ls (lv_sub hl [2, 1, 0, 5, 6, 7] rfl)
              · skip
                -- 61 f
                refine lv_iload_n hx hb dX5_formatsOf_64 rfl (lv_at hl 1 rfl) ?_
                refine lv_goto (tgt := 69) hx hb dX5_formatsOf_65 (by decide) ?_
                refine lv_istore (lv' := [(7, .int (iI se)), (6, .int (iI ((F 10) ro))), (3, .int (iI se)), (4, .int (iI gr)), (5, .int (iI ro)), (0, .ref (a 0)), (1, .int (iI p0)), (2, .int (iI p1))]) hx hb dX5_formatsOf_69 hl (by decide) rfl (fun ls hl => ?_)
                refine lv_iload hx hb dX5_formatsOf_71 (lv_at hl 0 rfl) ?_
                refine xr_iconst hx hb dX5_formatsOf_73 ?_
                refine lv_aload_n hx hb dX5_formatsOf_74 rfl (lv_at hl 5 rfl) ?_
                refine va_get (D := D) (cl := vwC) (ci := 6) (v := .ref (a 2)) (C := RX5) (T := TX5) (N := 7) hx hb hG.use i_X5 hown hK hP 0 rfl rfl 1 (by decide) (hG.use _ lf_X5_19) (fun _ h9 => h9) rfl dX5_formatsOf_75 ?_
                refine va_getN (host := "FormatRows") (D := D) (cl := vwC) (ci := 5) (v := .ref (a 9)) (C := RX4) (T := TX4) (N := 7) hx hb hG.use i_X4 hown hK hP 2 rfl rfl 1 (by decide) (hG.use _ lf_X5_165) (fun _ h9 => h9) rfl dX5_formatsOf_78 ?_
                refine lv_iload hx hb dX5_formatsOf_81 (lv_at hl 4 rfl) ?_
                refine xr_iald (f := F 9) (z := ro) hx hb hK hP 9 3 rfl rfl (by omega) (by omega) (by decide) dX5_formatsOf_83 ?_
                refine lv_ishl hx hb dX5_formatsOf_84 ?_
                refine xr_mor (M := se) (z := (F 9) ro) hx hb dX5_formatsOf_85 ?_
                refine lv_istore_n (lv' := [(3, .int (iI ((iI se ||| ((iI 1) <<< (iI ((F 9) ro) &&& 31))).toInt))), (7, .int (iI se)), (6, .int (iI ((F 10) ro))), (4, .int (iI gr)), (5, .int (iI ro)), (0, .ref (a 0)), (1, .int (iI p0)), (2, .int (iI p1))]) hx hb dX5_formatsOf_86 rfl hl (by decide) rfl (fun ls hl => ?_)
                refine lv_iload hx hb dX5_formatsOf_87 (lv_at hl 2 rfl) ?_
                refine lv_istore (lv' := [(4, .int (iI ((F 10) ro))), (3, .int (iI ((iI se ||| ((iI 1) <<< (iI ((F 9) ro) &&& 31))).toInt))), (7, .int (iI se)), (6, .int (iI ((F 10) ro))), (5, .int (iI ro)), (0, .ref (a 0)), (1, .int (iI p0)), (2, .int (iI p1))]) hx hb dX5_formatsOf_89 hl (by decide) rfl (fun ls hl => ?_)
                refine xr_iinc (z := ro) (lv' := [(5, .int (iI (ro + 1))), (4, .int (iI ((F 10) ro))), (3, .int (iI ((iI se ||| ((iI 1) <<< (iI ((F 9) ro) &&& 31))).toInt))), (7, .int (iI se)), (6, .int (iI ((F 10) ro))), (0, .ref (a 0)), (1, .int (iI p0)), (2, .int (iI p1))]) hx hb dX5_formatsOf_91 hl (k := 4) rfl (by decide) rfl (fun ls hl => ?_)
                refine lv_goto (tgt := 22) hx hb dX5_formatsOf_94 (by decide) ?_
                exact ih_22 ((iI se ||| ((iI 1) <<< (iI ((F 9) ro) &&& 31))).toInt) ((F 10) ro) (ro + 1) (by omega) (by omega) (by omega) (by first | exact st_skip i1 (by omega) (Or.inl (by omega)) | exact st_skip i1 (by omega) (Or.inr (by assumption)) | (have e9 : gr = F 10 ro := (by omega); subst e9; exact st_eq i1 (by omega) (by assumption) rfl (by omega) (by omega)) | exact st_gt i1 (by omega) (by assumption) (by omega) (by omega) (by omega)) ls (lv_sub hl [2, 1, 0, 5, 6, 7] rfl)
    exact lp_22 _ 0 (-1) 0 (Nat.lt_succ_self _) (by omega) (by omega) (by exact st_0) ls (lv_sub hl [2, 1, 0, 3, 4, 5] rfl)
  · skip
    -- 9 f
    refine xr_iconst hx hb dX5_formatsOf_12 ?_
    exact W.iret (v := iI 1) hx hb hr (fun t ht9 hW => ⟨1, rfl, (by exact bits_1 (fun k => ⟨fun q => by rcases q with q | q; exact q.2; exact absurd (by omega) q.1, fun q => Or.inl ⟨by omega, q⟩⟩)), ht9⟩) t_nil dX5_formatsOf_13
set_option maxHeartbeats 4000000 in
set_option maxRecDepth 100000 in
theorem c_X5_formatOfSet (l : Launch) (D : va_G) (p0 : Int) (S : Int → Prop) (hS : bits p0 S) : ro_M l yX5_formatOfSet cX5_formatOfSet 1 (some .int) 1 [.int (iI p0)] D ([]) ([]) (fun r => r = fv S) := by
  refine me_start (by decide) (Nat.le_of_ble_eq_true rfl) rfl ?_
  intro p e s m below meth c hx hb hml hr hown hlocks hnm hG hK hP ls hl
  have hown : s.vm.findClass RX5 = some m.cls := hown
  have hl : lv_has ls 1 [(0, .int (iI p0))] := hl
  have f_b := hS.1
  refine lv_iload_n hx hb dX5_formatOfSet_0 rfl (lv_at hl 0 rfl) ?_
  refine ro_call (g_runS (rest := []) hx hb hml hown hG (hK.sub (tys' := []) [] rfl) (va_P0) mS_J6_bitCount_0f7a4 (c_J6_bitCount l D p0 (by omega)) lk_X5_154 rfl hl.1 rfl (Nat.le_of_ble_eq_true rfl) ⟨(Nat.le_of_ble_eq_true rfl), (Nat.le_of_ble_eq_true rfl)⟩ ⟨(Nat.le_of_ble_eq_true rfl), (Nat.le_of_ble_eq_true rfl)⟩ dX5_formatOfSet_1) (fun r_1 q_2 => ?_)
  have f_3 := cnt_in (fun k => bt p0 k) 32
  refine xr_iconst hx hb dX5_formatOfSet_4 ?_
  refine xr_icmp_le (a := r_1) (b := 1) (tgt := 13) hx hb dX5_formatOfSet_5 (by decide) (fun c_4 => ?_) (fun c_4 => ?_) (by omega) (by omega)
  · skip
    -- 5 t
    refine lv_iload_n hx hb dX5_formatOfSet_13 rfl (lv_at hl 0 rfl) ?_
    refine xr_iconst hx hb dX5_formatOfSet_14 ?_
    refine ro_call (g_runS (rest := []) hx hb hml hown hG (hK.sub (tys' := []) [] rfl) (va_P0) mS_X5_formatInSet (c_X5_formatInSet l D p0 0 (by omega) (by omega)) lk_X5_106 rfl hl.1 rfl (Nat.le_of_ble_eq_true rfl) ⟨(Nat.le_of_ble_eq_true rfl), (Nat.le_of_ble_eq_true rfl)⟩ ⟨(Nat.le_of_ble_eq_true rfl), (Nat.le_of_ble_eq_true rfl)⟩ dX5_formatOfSet_15) (fun r_5 q_6 => ?_)
    exact W.iret (v := iI r_5) hx hb hr (fun t ht9 hW => ⟨r_5, rfl, (by first | (rw [bits_two hS (by omega)]; done) | exact bits_fv hS (by assumption) (by omega)), ht9⟩) t_nil dX5_formatOfSet_18
  · skip
    -- 5 f
    refine xr_bipush hx hb dX5_formatOfSet_8 (by decide +kernel) ?_
    refine lv_goto (tgt := 18) hx hb dX5_formatOfSet_10 (by decide) ?_
    exact W.iret (v := iI (-5)) hx hb hr (fun t ht9 hW => ⟨(-5), rfl, (by first | (rw [bits_two hS (by omega)]; done) | exact bits_fv hS (by assumption) (by omega)), ht9⟩) t_nil dX5_formatOfSet_18
set_option maxHeartbeats 4000000 in
set_option maxRecDepth 100000 in
theorem c_X5_formatOf (l : Launch) (D : va_G) (a : Nat → Nat) (k : Nat → ClassId) (I : Nat → Int) (F : Nat → Int → Int) (p0 p1 : Int) (hv : xInv I F) (h0 : 0 ≤ p0 ∧ p0 < I 9) (h1 : 0 ≤ p1 ∧ p1 ≤ I 8) : ro_M l yX5_formatOf cX5_formatOf 3 (some .int) 3 [.ref (a 0), .int (iI p0), .int (iI p1)] D (xT k) (xW a k I F) (fun r => r = fv (xset F p0 p1)) := by
  refine me_start (by decide) (Nat.le_of_ble_eq_true rfl) rfl ?_
  intro p e s m below meth c hx hb hml hr hown hlocks hnm hG hK hP ls hl
  have hown : s.vm.findClass RX5 = some m.cls := hown
  have hl : lv_has ls 3 [(0, .ref (a 0)), (1, .int (iI p0)), (2, .int (iI p1))] := hl
  refine lv_aload_n hx hb dX5_formatOf_0 rfl (lv_at hl 0 rfl) ?_
  refine lv_iload_n hx hb dX5_formatOf_1 rfl (lv_at hl 1 rfl) ?_
  refine lv_iload_n hx hb dX5_formatOf_2 rfl (lv_at hl 2 rfl) ?_
  refine ro_call (g_runV (rest := []) hx hb hml hown hG hK hP mV_X5_formatsOf (c_X5_formatsOf l D a k I F p0 p1 hv (by omega) (by omega)) lk_X5_99 (va_recv hK hP (ci := 6) (q0 := 0) rfl rfl) rfl hl.1 rfl (Nat.le_of_ble_eq_true rfl) ⟨(Nat.le_of_ble_eq_true rfl), (Nat.le_of_ble_eq_true rfl)⟩ ⟨(Nat.le_of_ble_eq_true rfl), (Nat.le_of_ble_eq_true rfl)⟩ dX5_formatOf_3) (fun r_1 q_2 => ?_)
  refine ro_call (g_runS (rest := []) hx hb hml hown hG (hK.sub (tys' := []) [] rfl) (va_P0) mS_X5_formatOfSet (c_X5_formatOfSet l D r_1 _ q_2) lk_X5_102 rfl hl.1 rfl (Nat.le_of_ble_eq_true rfl) ⟨(Nat.le_of_ble_eq_true rfl), (Nat.le_of_ble_eq_true rfl)⟩ ⟨(Nat.le_of_ble_eq_true rfl), (Nat.le_of_ble_eq_true rfl)⟩ dX5_formatOf_6) (fun r_3 q_4 => ?_)
  exact W.iret (v := iI r_3) hx hb hr (fun t ht9 hW => ⟨r_3, rfl, (by assumption), ht9⟩) t_nil dX5_formatOf_9
set_option maxHeartbeats 4000000 in
set_option maxRecDepth 100000 in
theorem c_X5_deep0 (l : Launch) (D : va_G) (a : Nat → Nat) (k : Nat → ClassId) (I : Nat → Int) (F : Nat → Int → Int) (p0 : Int) (hv : xInv I F) (h0 : 0 ≤ p0 ∧ p0 < I 9) : ro_M l yX5_deepFormat cX5_deepFormat 7 (some .int) 4 [.ref (a 0), .int (iI p0), .int (iI 3)] D (xT k) (xW a k I F) (fun r => r = xdv I F 0 p0) := by
  refine me_start (by decide) (Nat.le_of_ble_eq_true rfl) rfl ?_
  intro p e s m below meth c hx hb hml hr hown hlocks hnm hG hK hP ls hl
  have hown : s.vm.findClass RX5 = some m.cls := hown
  have hl : lv_has ls 7 [(0, .ref (a 0)), (1, .int (iI p0)), (2, .int (iI 3))] := hl
  have f_n := hv.n
  refine lv_aload_n hx hb dX5_deepFormat_0 rfl (lv_at hl 0 rfl) ?_
  refine lv_iload_n hx hb dX5_deepFormat_1 rfl (lv_at hl 1 rfl) ?_
  refine lv_aload_n hx hb dX5_deepFormat_2 rfl (lv_at hl 0 rfl) ?_
  refine va_get (D := D) (cl := vwC) (ci := 6) (v := .ref (a 2)) (C := RX5) (T := TX5) (N := 7) hx hb hG.use i_X5 hown hK hP 0 rfl rfl 1 (by decide) (hG.use _ lf_X5_19) (fun _ h9 => h9) rfl dX5_deepFormat_3 ?_
  refine va_getN (host := "FormatRows") (D := D) (cl := vwC) (ci := 5) (v := .int (iI (I 8))) (C := RX4) (T := TX4) (N := 7) hx hb hG.use i_X4 hown hK hP 2 rfl rfl 0 (by decide) (hG.use _ lf_X5_96) (fun _ h9 => h9) rfl dX5_deepFormat_6 ?_
  refine ro_call (g_runV (rest := []) hx hb hml hown hG hK hP mV_X5_formatOf (c_X5_formatOf l D a k I F p0 (I 8) hv (by omega) (by omega)) lk_X5_143 (va_recv hK hP (ci := 6) (q0 := 0) rfl rfl) rfl hl.1 rfl (Nat.le_of_ble_eq_true rfl) ⟨(Nat.le_of_ble_eq_true rfl), (Nat.le_of_ble_eq_true rfl)⟩ ⟨(Nat.le_of_ble_eq_true rfl), (Nat.le_of_ble_eq_true rfl)⟩ dX5_deepFormat_9) (fun r_1 q_2 => ?_)
  have f_m := xfm_in hv p0
  have e_m : r_1 = xfm I F p0 := q_2
  refine lv_istore_n (lv' := [(3, .int (iI r_1)), (0, .ref (a 0)), (1, .int (iI p0)), (2, .int (iI 3))]) hx hb dX5_deepFormat_12 rfl hl (by decide) rfl (fun ls hl => ?_)
  refine lv_iload_n hx hb dX5_deepFormat_13 rfl (lv_at hl 0 rfl) ?_
  refine ro_call (g_runS (rest := []) hx hb hml hown hG (hK.sub (tys' := []) [] rfl) (va_P0) mS_X5_isFormat (c_X5_isFormat l D r_1 (by omega)) lk_X5_120 rfl hl.1 rfl (Nat.le_of_ble_eq_true rfl) ⟨(Nat.le_of_ble_eq_true rfl), (Nat.le_of_ble_eq_true rfl)⟩ ⟨(Nat.le_of_ble_eq_true rfl), (Nat.le_of_ble_eq_true rfl)⟩ dX5_deepFormat_14) (fun r_3 q_4 => ?_)
  refine xr_if_eqZ (tgt := 25) hx hb q_4 dX5_deepFormat_17 (by decide) (fun c_5 => ?_) (fun c_5 => ?_)
  · skip
    -- 17 t
    refine lv_iload_n hx hb dX5_deepFormat_25 rfl (lv_at hl 0 rfl) ?_
    exact W.iret (v := iI r_1) hx hb hr (fun t ht9 hW => ⟨r_1, rfl, (by exact q_2), ht9⟩) t_nil dX5_deepFormat_26
  · skip
    -- 17 f
    refine lv_iload_n hx hb dX5_deepFormat_20 rfl (lv_at hl 3 rfl) ?_
    refine xr_iconst hx hb dX5_deepFormat_21 ?_
    refine xr_icmp_lt (a := 3) (b := 3) (tgt := 27) hx hb dX5_deepFormat_22 (by decide) (fun c_6 => ?_) (fun c_6 => ?_) (by omega) (by omega)
    · exact absurd c_6 (by omega)
    · skip
      -- 22 f
      refine lv_iload_n hx hb dX5_deepFormat_25 rfl (lv_at hl 0 rfl) ?_
      exact W.iret (v := iI r_1) hx hb hr (fun t ht9 hW => ⟨r_1, rfl, (by exact q_2), ht9⟩) t_nil dX5_deepFormat_26
set_option maxHeartbeats 4000000 in
set_option maxRecDepth 100000 in
theorem c_X5_deep1 (l : Launch) (D : va_G) (a : Nat → Nat) (k : Nat → ClassId) (I : Nat → Int) (F : Nat → Int → Int) (p0 : Int) (hv : xInv I F) (h0 : 0 ≤ p0 ∧ p0 < I 9) : ro_M l yX5_deepFormat cX5_deepFormat 7 (some .int) 5 [.ref (a 0), .int (iI p0), .int (iI 2)] D (xT k) (xW a k I F) (fun r => r = xdv I F 1 p0) := by
  refine me_start (by decide) (Nat.le_of_ble_eq_true rfl) rfl ?_
  intro p e s m below meth c hx hb hml hr hown hlocks hnm hG hK hP ls hl
  have hown : s.vm.findClass RX5 = some m.cls := hown
  have hl : lv_has ls 7 [(0, .ref (a 0)), (1, .int (iI p0)), (2, .int (iI 2))] := hl
  have f_n := hv.n
  refine lv_aload_n hx hb dX5_deepFormat_0 rfl (lv_at hl 0 rfl) ?_
  refine lv_iload_n hx hb dX5_deepFormat_1 rfl (lv_at hl 1 rfl) ?_
  refine lv_aload_n hx hb dX5_deepFormat_2 rfl (lv_at hl 0 rfl) ?_
  refine va_get (D := D) (cl := vwC) (ci := 6) (v := .ref (a 2)) (C := RX5) (T := TX5) (N := 7) hx hb hG.use i_X5 hown hK hP 0 rfl rfl 1 (by decide) (hG.use _ lf_X5_19) (fun _ h9 => h9) rfl dX5_deepFormat_3 ?_
  refine va_getN (host := "FormatRows") (D := D) (cl := vwC) (ci := 5) (v := .int (iI (I 8))) (C := RX4) (T := TX4) (N := 7) hx hb hG.use i_X4 hown hK hP 2 rfl rfl 0 (by decide) (hG.use _ lf_X5_96) (fun _ h9 => h9) rfl dX5_deepFormat_6 ?_
  refine ro_call (g_runV (rest := []) hx hb hml hown hG hK hP mV_X5_formatOf (c_X5_formatOf l D a k I F p0 (I 8) hv (by omega) (by omega)) lk_X5_143 (va_recv hK hP (ci := 6) (q0 := 0) rfl rfl) rfl hl.1 rfl (Nat.le_of_ble_eq_true rfl) ⟨(Nat.le_of_ble_eq_true rfl), (Nat.le_of_ble_eq_true rfl)⟩ ⟨(Nat.le_of_ble_eq_true rfl), (Nat.le_of_ble_eq_true rfl)⟩ dX5_deepFormat_9) (fun r_1 q_2 => ?_)
  have f_m := xfm_in hv p0
  have e_m : r_1 = xfm I F p0 := q_2
  refine lv_istore_n (lv' := [(3, .int (iI r_1)), (0, .ref (a 0)), (1, .int (iI p0)), (2, .int (iI 2))]) hx hb dX5_deepFormat_12 rfl hl (by decide) rfl (fun ls hl => ?_)
  refine lv_iload_n hx hb dX5_deepFormat_13 rfl (lv_at hl 0 rfl) ?_
  refine ro_call (g_runS (rest := []) hx hb hml hown hG (hK.sub (tys' := []) [] rfl) (va_P0) mS_X5_isFormat (c_X5_isFormat l D r_1 (by omega)) lk_X5_120 rfl hl.1 rfl (Nat.le_of_ble_eq_true rfl) ⟨(Nat.le_of_ble_eq_true rfl), (Nat.le_of_ble_eq_true rfl)⟩ ⟨(Nat.le_of_ble_eq_true rfl), (Nat.le_of_ble_eq_true rfl)⟩ dX5_deepFormat_14) (fun r_3 q_4 => ?_)
  refine xr_if_eqZ (tgt := 25) hx hb q_4 dX5_deepFormat_17 (by decide) (fun c_5 => ?_) (fun c_5 => ?_)
  · skip
    -- 17 t
    refine lv_iload_n hx hb dX5_deepFormat_25 rfl (lv_at hl 0 rfl) ?_
    exact W.iret (v := iI r_1) hx hb hr (fun t ht9 hW => ⟨r_1, rfl, (by rw [xdv_lo (by omega)]; omega), ht9⟩) t_nil dX5_deepFormat_26
  · skip
    -- 17 f
    refine lv_iload_n hx hb dX5_deepFormat_20 rfl (lv_at hl 3 rfl) ?_
    refine xr_iconst hx hb dX5_deepFormat_21 ?_
    refine xr_icmp_lt (a := 2) (b := 3) (tgt := 27) hx hb dX5_deepFormat_22 (by decide) (fun c_6 => ?_) (fun c_6 => ?_) (by omega) (by omega)
    · skip
      -- 22 t
      refine xr_iconst hx hb dX5_deepFormat_27 ?_
      refine lv_istore (lv' := [(4, .int (iI 0)), (3, .int (iI r_1)), (0, .ref (a 0)), (1, .int (iI p0)), (2, .int (iI 2))]) hx hb dX5_deepFormat_28 hl (by decide) rfl (fun ls hl => ?_)
      refine xr_iconst hx hb dX5_deepFormat_30 ?_
      refine lv_istore (lv' := [(5, .int (iI 0)), (4, .int (iI 0)), (3, .int (iI r_1)), (0, .ref (a 0)), (1, .int (iI p0)), (2, .int (iI 2))]) hx hb dX5_deepFormat_31 hl (by decide) rfl (fun ls hl => ?_)
      have lp_33 : ∀ (nz : Nat) (mf : Int) (ot : Int), (I 9 - ot).toNat < nz → (0 ≤ ot ∧ ot ≤ I 9) → (bits mf (fun k => (0 ≤ k ∧ k < 30) ∧ ∃ o : Int, (0 ≤ o ∧ o < ot) ∧ F 18 o = p0 ∧ xdv I F 0 o = k)) → ∀ ls : Array Slot, lv_has ls 7 [(4, .int (iI mf)), (5, .int (iI ot)), (0, .ref (a 0)), (1, .int (iI p0)), (2, .int (iI 2)), (3, .int (iI r_1))] → W p l e (rmd 5) s m ([.ref (a 0), .int (iI p0), .int (iI 2)] : List Value).toArray below meth c s.heap [] 0 0 (MQ below (ro_Q (fun r => r = xdv I F 1 p0)) ([.ref (a 0), .int (iI p0), .int (iI 2)] : List Value).toArray s 0 0 (fun _ => False)) (F0 m 33 ls []) := by
        clear hl
        intro nz
        induction nz with
        | zero =>
          intro mf ot hn
          exact absurd hn (Nat.not_lt_zero _)
        | succ n_33 ih_33 =>
          intro mf ot hn_33 i0 i1 ls hl
          have f_mf := i1.1
          refine lv_iload hx hb dX5_deepFormat_33 (lv_at hl 1 rfl) ?_
          refine lv_aload_n hx hb dX5_deepFormat_35 rfl (lv_at hl 2 rfl) ?_
          refine va_get (D := D) (cl := vwC) (ci := 6) (v := .ref (a 3)) (C := RX5) (T := TX5) (N := 7) hx hb hG.use i_X5 hown hK hP 0 rfl rfl 2 (by decide) (hG.use _ lf_X5_26) (fun _ h9 => h9) rfl dX5_deepFormat_36 ?_
          refine va_getN (host := "FormatRows") (D := D) (cl := vwC) (ci := 2) (v := .int (iI (I 9))) (C := RX1) (T := TX1) (N := 5) hx hb hG.use i_X1 hown hK hP 3 rfl rfl 0 (by decide) (hG.use _ lf_X5_142) (fun _ h9 => h9) rfl dX5_deepFormat_39 ?_
          refine xr_icmp_ge (a := ot) (b := I 9) (tgt := 93) hx hb dX5_deepFormat_42 (by decide) (fun c_7 => ?_) (fun c_7 => ?_) (by omega) (by omega)
          · skip
            -- 42 t
            refine lv_aload_n hx hb dX5_deepFormat_93 rfl (lv_at hl 2 rfl) ?_
            refine va_get (D := D) (cl := vwC) (ci := 6) (v := .ref (a 4)) (C := RX5) (T := TX5) (N := 7) hx hb hG.use i_X5 hown hK hP 0 rfl rfl 3 (by decide) (hG.use _ lf_X5_33) (fun _ h9 => h9) rfl dX5_deepFormat_94 ?_
            refine lv_iload_n hx hb dX5_deepFormat_97 rfl (lv_at hl 5 rfl) ?_
            refine lv_iload hx hb dX5_deepFormat_98 (lv_at hl 0 rfl) ?_
            refine ro_call (g_runV (rest := []) hx hb hml hown hG hK hP mV_X0_targetOf (c_X0_targetOf l D a k I F r_1 mf (by omega) (by first | omega | exact i1.1) (by omega) hv.cn) lk_X5_177 (va_recv hK hP (ci := 1) (q0 := 4) rfl rfl) rfl hl.1 rfl (Nat.le_of_ble_eq_true rfl) ⟨(Nat.le_of_ble_eq_true rfl), (Nat.le_of_ble_eq_true rfl)⟩ ⟨(Nat.le_of_ble_eq_true rfl), (Nat.le_of_ble_eq_true rfl)⟩ dX5_deepFormat_100) (fun r_8 q_9 => ?_)
            exact W.iret (v := iI r_8) hx hb hr (fun t ht9 hW => ⟨r_8, rfl, (by have e9 : ot = I 9 := (by omega); rw [e9] at i1; rw [← xdv_hi (by omega) hv i1, ← e_m]; assumption), ht9⟩) t_nil dX5_deepFormat_103
          · skip
            -- 42 f
            have f_p := hv.pr ot (by omega) (by omega)
            refine lv_aload_n hx hb dX5_deepFormat_45 rfl (lv_at hl 2 rfl) ?_
            refine va_get (D := D) (cl := vwC) (ci := 6) (v := .ref (a 3)) (C := RX5) (T := TX5) (N := 7) hx hb hG.use i_X5 hown hK hP 0 rfl rfl 2 (by decide) (hG.use _ lf_X5_26) (fun _ h9 => h9) rfl dX5_deepFormat_46 ?_
            refine va_getN (host := "FormatRows") (D := D) (cl := vwC) (ci := 2) (v := .ref (a 18)) (C := RX1) (T := TX1) (N := 5) hx hb hG.use i_X1 hown hK hP 3 rfl rfl 4 (by decide) (hG.use _ lf_X5_174) (fun _ h9 => h9) rfl dX5_deepFormat_49 ?_
            refine lv_iload hx hb dX5_deepFormat_52 (lv_at hl 1 rfl) ?_
            refine xr_iald (f := F 18) (z := ot) hx hb hK hP 18 12 rfl rfl (by omega) (by omega) (by decide) dX5_deepFormat_54 ?_
            refine lv_iload_n hx hb dX5_deepFormat_55 rfl (lv_at hl 3 rfl) ?_
            refine xr_icmp_ne (a := (F 18) ot) (b := p0) (tgt := 87) hx hb dX5_deepFormat_56 (by decide) (fun c_10 => ?_) (fun c_10 => ?_) (by omega) (by omega)
            · skip
              -- 56 t
              refine xr_iinc (z := ot) (lv' := [(5, .int (iI (ot + 1))), (4, .int (iI mf)), (0, .ref (a 0)), (1, .int (iI p0)), (2, .int (iI 2)), (3, .int (iI r_1))]) hx hb dX5_deepFormat_87 hl (k := 1) rfl (by decide) rfl (fun ls hl => ?_)
              refine lv_goto (tgt := 33) hx hb dX5_deepFormat_90 (by decide) ?_
              exact ih_33 mf (ot + 1) (by omega) (by omega) (by first | exact dm_or i1 (by omega) (by assumption) (by first | assumption | omega) (by omega) | exact dm_skip i1 (by omega) (by first | (left; assumption) | (right; rw [← q_5]; assumption) | (right; rw [← q_6]; assumption) | (right; rw [← q_7]; assumption) | (right; rw [← q_8]; assumption) | (right; rw [← q_9]; assumption) | (right; rw [← q_10]; assumption) | (right; rw [← q_11]; assumption) | (right; rw [← q_12]; assumption))) ls (lv_sub hl [1, 0, 2, 3, 4, 5] rfl)
            · skip
              -- 56 f
              refine lv_aload_n hx hb dX5_deepFormat_59 rfl (lv_at hl 2 rfl) ?_
              refine lv_iload hx hb dX5_deepFormat_60 (lv_at hl 1 rfl) ?_
              refine lv_iload_n hx hb dX5_deepFormat_62 rfl (lv_at hl 4 rfl) ?_
              refine xr_iconst hx hb dX5_deepFormat_63 ?_
              refine xr_iadd (a := 2) (b := 1) hx hb dX5_deepFormat_64 ?_
              refine ro_call (g_runV (rest := []) hx hb hml hown hG hK hP mV_X5_deepFormat (c_X5_deep0 l D a k I F ot hv (by omega)) lk_X5_126 (va_recv hK hP (ci := 6) (q0 := 0) rfl rfl) rfl hl.1 rfl (Nat.le_of_ble_eq_true rfl) ⟨(Nat.le_of_ble_eq_true rfl), (Nat.le_of_ble_eq_true rfl)⟩ ⟨(Nat.le_of_ble_eq_true rfl), (Nat.le_of_ble_eq_true rfl)⟩ dX5_deepFormat_65) (fun r_11 q_12 => ?_)
              have f_13 := xdv_in hv 0 ot
              refine lv_istore (lv' := [(6, .int (iI r_11)), (4, .int (iI mf)), (5, .int (iI ot)), (0, .ref (a 0)), (1, .int (iI p0)), (2, .int (iI 2)), (3, .int (iI r_1))]) hx hb dX5_deepFormat_68 hl (by decide) rfl (fun ls hl => ?_)
              refine lv_iload hx hb dX5_deepFormat_70 (lv_at hl 0 rfl) ?_
              refine ro_call (g_runS (rest := []) hx hb hml hown hG (hK.sub (tys' := []) [] rfl) (va_P0) mS_X5_isFormat (c_X5_isFormat l D r_11 (by omega)) lk_X5_120 rfl hl.1 rfl (Nat.le_of_ble_eq_true rfl) ⟨(Nat.le_of_ble_eq_true rfl), (Nat.le_of_ble_eq_true rfl)⟩ ⟨(Nat.le_of_ble_eq_true rfl), (Nat.le_of_ble_eq_true rfl)⟩ dX5_deepFormat_72) (fun r_14 q_15 => ?_)
              refine xr_if_eqZ (tgt := 87) hx hb q_15 dX5_deepFormat_75 (by decide) (fun c_16 => ?_) (fun c_16 => ?_)
              · skip
                -- 75 t
                refine xr_iinc (z := ot) (lv' := [(5, .int (iI (ot + 1))), (6, .int (iI r_11)), (4, .int (iI mf)), (0, .ref (a 0)), (1, .int (iI p0)), (2, .int (iI 2)), (3, .int (iI r_1))]) hx hb dX5_deepFormat_87 hl (k := 2) rfl (by decide) rfl (fun ls hl => ?_)
                refine lv_goto (tgt := 33) hx hb dX5_deepFormat_90 (by decide) ?_
                exact ih_33 mf (ot + 1) (by omega) (by omega) (by first | exact dm_or i1 (by omega) (by assumption) (by first | assumption | omega) (by omega) | exact dm_skip i1 (by omega) (by first | (left; assumption) | (right; rw [← q_5]; assumption) | (right; rw [← q_6]; assumption) | (right; rw [← q_7]; assumption) | (right; rw [← q_8]; assumption) | (right; rw [← q_9]; assumption) | (right; rw [← q_10]; assumption) | (right; rw [← q_11]; assumption) | (right; rw [← q_12]; assumption))) ls (lv_sub hl [2, 0, 3, 4, 5, 6] rfl)
              · skip
                -- 75 f
                refine lv_iload hx hb dX5_deepFormat_78 (lv_at hl 1 rfl) ?_
                refine xr_iconst hx hb dX5_deepFormat_80 ?_
                refine lv_iload hx hb dX5_deepFormat_81 (lv_at hl 0 rfl) ?_
                refine lv_ishl hx hb dX5_deepFormat_83 ?_
                refine xr_mor (M := mf) (z := r_11) hx hb dX5_deepFormat_84 ?_
                refine lv_istore (lv' := [(4, .int (iI ((iI mf ||| ((iI 1) <<< (iI r_11 &&& 31))).toInt))), (6, .int (iI r_11)), (5, .int (iI ot)), (0, .ref (a 0)), (1, .int (iI p0)), (2, .int (iI 2)), (3, .int (iI r_1))]) hx hb dX5_deepFormat_85 hl (by decide) rfl (fun ls hl => ?_)
                refine xr_iinc (z := ot) (lv' := [(5, .int (iI (ot + 1))), (4, .int (iI ((iI mf ||| ((iI 1) <<< (iI r_11 &&& 31))).toInt))), (6, .int (iI r_11)), (0, .ref (a 0)), (1, .int (iI p0)), (2, .int (iI 2)), (3, .int (iI r_1))]) hx hb dX5_deepFormat_87 hl (k := 2) rfl (by decide) rfl (fun ls hl => ?_)
                refine lv_goto (tgt := 33) hx hb dX5_deepFormat_90 (by decide) ?_
                exact ih_33 ((iI mf ||| ((iI 1) <<< (iI r_11 &&& 31))).toInt) (ot + 1) (by omega) (by omega) (by first | exact dm_or i1 (by omega) (by assumption) (by first | assumption | omega) (by omega) | exact dm_skip i1 (by omega) (by first | (left; assumption) | (right; rw [← q_5]; assumption) | (right; rw [← q_6]; assumption) | (right; rw [← q_7]; assumption) | (right; rw [← q_8]; assumption) | (right; rw [← q_9]; assumption) | (right; rw [← q_10]; assumption) | (right; rw [← q_11]; assumption) | (right; rw [← q_12]; assumption))) ls (lv_sub hl [1, 0, 3, 4, 5, 6] rfl)
      exact lp_33 _ 0 0 (Nat.lt_succ_self _) (by omega) (by exact bits_0 (fun k ⟨_, o, ho, _⟩ => by omega)) ls (lv_sub hl [1, 0, 3, 4, 5, 2] rfl)
    · exact absurd c_6 (by omega)
set_option maxHeartbeats 4000000 in
set_option maxRecDepth 100000 in
theorem c_X5_deep2 (l : Launch) (D : va_G) (a : Nat → Nat) (k : Nat → ClassId) (I : Nat → Int) (F : Nat → Int → Int) (p0 : Int) (hv : xInv I F) (h0 : 0 ≤ p0 ∧ p0 < I 9) : ro_M l yX5_deepFormat cX5_deepFormat 7 (some .int) 6 [.ref (a 0), .int (iI p0), .int (iI 1)] D (xT k) (xW a k I F) (fun r => r = xdv I F 2 p0) := by
  refine me_start (by decide) (Nat.le_of_ble_eq_true rfl) rfl ?_
  intro p e s m below meth c hx hb hml hr hown hlocks hnm hG hK hP ls hl
  have hown : s.vm.findClass RX5 = some m.cls := hown
  have hl : lv_has ls 7 [(0, .ref (a 0)), (1, .int (iI p0)), (2, .int (iI 1))] := hl
  have f_n := hv.n
  refine lv_aload_n hx hb dX5_deepFormat_0 rfl (lv_at hl 0 rfl) ?_
  refine lv_iload_n hx hb dX5_deepFormat_1 rfl (lv_at hl 1 rfl) ?_
  refine lv_aload_n hx hb dX5_deepFormat_2 rfl (lv_at hl 0 rfl) ?_
  refine va_get (D := D) (cl := vwC) (ci := 6) (v := .ref (a 2)) (C := RX5) (T := TX5) (N := 7) hx hb hG.use i_X5 hown hK hP 0 rfl rfl 1 (by decide) (hG.use _ lf_X5_19) (fun _ h9 => h9) rfl dX5_deepFormat_3 ?_
  refine va_getN (host := "FormatRows") (D := D) (cl := vwC) (ci := 5) (v := .int (iI (I 8))) (C := RX4) (T := TX4) (N := 7) hx hb hG.use i_X4 hown hK hP 2 rfl rfl 0 (by decide) (hG.use _ lf_X5_96) (fun _ h9 => h9) rfl dX5_deepFormat_6 ?_
  refine ro_call (g_runV (rest := []) hx hb hml hown hG hK hP mV_X5_formatOf (c_X5_formatOf l D a k I F p0 (I 8) hv (by omega) (by omega)) lk_X5_143 (va_recv hK hP (ci := 6) (q0 := 0) rfl rfl) rfl hl.1 rfl (Nat.le_of_ble_eq_true rfl) ⟨(Nat.le_of_ble_eq_true rfl), (Nat.le_of_ble_eq_true rfl)⟩ ⟨(Nat.le_of_ble_eq_true rfl), (Nat.le_of_ble_eq_true rfl)⟩ dX5_deepFormat_9) (fun r_1 q_2 => ?_)
  have f_m := xfm_in hv p0
  have e_m : r_1 = xfm I F p0 := q_2
  refine lv_istore_n (lv' := [(3, .int (iI r_1)), (0, .ref (a 0)), (1, .int (iI p0)), (2, .int (iI 1))]) hx hb dX5_deepFormat_12 rfl hl (by decide) rfl (fun ls hl => ?_)
  refine lv_iload_n hx hb dX5_deepFormat_13 rfl (lv_at hl 0 rfl) ?_
  refine ro_call (g_runS (rest := []) hx hb hml hown hG (hK.sub (tys' := []) [] rfl) (va_P0) mS_X5_isFormat (c_X5_isFormat l D r_1 (by omega)) lk_X5_120 rfl hl.1 rfl (Nat.le_of_ble_eq_true rfl) ⟨(Nat.le_of_ble_eq_true rfl), (Nat.le_of_ble_eq_true rfl)⟩ ⟨(Nat.le_of_ble_eq_true rfl), (Nat.le_of_ble_eq_true rfl)⟩ dX5_deepFormat_14) (fun r_3 q_4 => ?_)
  refine xr_if_eqZ (tgt := 25) hx hb q_4 dX5_deepFormat_17 (by decide) (fun c_5 => ?_) (fun c_5 => ?_)
  · skip
    -- 17 t
    refine lv_iload_n hx hb dX5_deepFormat_25 rfl (lv_at hl 0 rfl) ?_
    exact W.iret (v := iI r_1) hx hb hr (fun t ht9 hW => ⟨r_1, rfl, (by rw [xdv_lo (by omega)]; omega), ht9⟩) t_nil dX5_deepFormat_26
  · skip
    -- 17 f
    refine lv_iload_n hx hb dX5_deepFormat_20 rfl (lv_at hl 3 rfl) ?_
    refine xr_iconst hx hb dX5_deepFormat_21 ?_
    refine xr_icmp_lt (a := 1) (b := 3) (tgt := 27) hx hb dX5_deepFormat_22 (by decide) (fun c_6 => ?_) (fun c_6 => ?_) (by omega) (by omega)
    · skip
      -- 22 t
      refine xr_iconst hx hb dX5_deepFormat_27 ?_
      refine lv_istore (lv' := [(4, .int (iI 0)), (3, .int (iI r_1)), (0, .ref (a 0)), (1, .int (iI p0)), (2, .int (iI 1))]) hx hb dX5_deepFormat_28 hl (by decide) rfl (fun ls hl => ?_)
      refine xr_iconst hx hb dX5_deepFormat_30 ?_
      refine lv_istore (lv' := [(5, .int (iI 0)), (4, .int (iI 0)), (3, .int (iI r_1)), (0, .ref (a 0)), (1, .int (iI p0)), (2, .int (iI 1))]) hx hb dX5_deepFormat_31 hl (by decide) rfl (fun ls hl => ?_)
      have lp_33 : ∀ (nz : Nat) (mf : Int) (ot : Int), (I 9 - ot).toNat < nz → (0 ≤ ot ∧ ot ≤ I 9) → (bits mf (fun k => (0 ≤ k ∧ k < 30) ∧ ∃ o : Int, (0 ≤ o ∧ o < ot) ∧ F 18 o = p0 ∧ xdv I F 1 o = k)) → ∀ ls : Array Slot, lv_has ls 7 [(4, .int (iI mf)), (5, .int (iI ot)), (0, .ref (a 0)), (1, .int (iI p0)), (2, .int (iI 1)), (3, .int (iI r_1))] → W p l e (rmd 6) s m ([.ref (a 0), .int (iI p0), .int (iI 1)] : List Value).toArray below meth c s.heap [] 0 0 (MQ below (ro_Q (fun r => r = xdv I F 2 p0)) ([.ref (a 0), .int (iI p0), .int (iI 1)] : List Value).toArray s 0 0 (fun _ => False)) (F0 m 33 ls []) := by
        clear hl
        intro nz
        induction nz with
        | zero =>
          intro mf ot hn
          exact absurd hn (Nat.not_lt_zero _)
        | succ n_33 ih_33 =>
          intro mf ot hn_33 i0 i1 ls hl
          have f_mf := i1.1
          refine lv_iload hx hb dX5_deepFormat_33 (lv_at hl 1 rfl) ?_
          refine lv_aload_n hx hb dX5_deepFormat_35 rfl (lv_at hl 2 rfl) ?_
          refine va_get (D := D) (cl := vwC) (ci := 6) (v := .ref (a 3)) (C := RX5) (T := TX5) (N := 7) hx hb hG.use i_X5 hown hK hP 0 rfl rfl 2 (by decide) (hG.use _ lf_X5_26) (fun _ h9 => h9) rfl dX5_deepFormat_36 ?_
          refine va_getN (host := "FormatRows") (D := D) (cl := vwC) (ci := 2) (v := .int (iI (I 9))) (C := RX1) (T := TX1) (N := 5) hx hb hG.use i_X1 hown hK hP 3 rfl rfl 0 (by decide) (hG.use _ lf_X5_142) (fun _ h9 => h9) rfl dX5_deepFormat_39 ?_
          refine xr_icmp_ge (a := ot) (b := I 9) (tgt := 93) hx hb dX5_deepFormat_42 (by decide) (fun c_7 => ?_) (fun c_7 => ?_) (by omega) (by omega)
          · skip
            -- 42 t
            refine lv_aload_n hx hb dX5_deepFormat_93 rfl (lv_at hl 2 rfl) ?_
            refine va_get (D := D) (cl := vwC) (ci := 6) (v := .ref (a 4)) (C := RX5) (T := TX5) (N := 7) hx hb hG.use i_X5 hown hK hP 0 rfl rfl 3 (by decide) (hG.use _ lf_X5_33) (fun _ h9 => h9) rfl dX5_deepFormat_94 ?_
            refine lv_iload_n hx hb dX5_deepFormat_97 rfl (lv_at hl 5 rfl) ?_
            refine lv_iload hx hb dX5_deepFormat_98 (lv_at hl 0 rfl) ?_
            refine ro_call (g_runV (rest := []) hx hb hml hown hG hK hP mV_X0_targetOf (c_X0_targetOf l D a k I F r_1 mf (by omega) (by first | omega | exact i1.1) (by omega) hv.cn) lk_X5_177 (va_recv hK hP (ci := 1) (q0 := 4) rfl rfl) rfl hl.1 rfl (Nat.le_of_ble_eq_true rfl) ⟨(Nat.le_of_ble_eq_true rfl), (Nat.le_of_ble_eq_true rfl)⟩ ⟨(Nat.le_of_ble_eq_true rfl), (Nat.le_of_ble_eq_true rfl)⟩ dX5_deepFormat_100) (fun r_8 q_9 => ?_)
            exact W.iret (v := iI r_8) hx hb hr (fun t ht9 hW => ⟨r_8, rfl, (by have e9 : ot = I 9 := (by omega); rw [e9] at i1; rw [← xdv_hi (by omega) hv i1, ← e_m]; assumption), ht9⟩) t_nil dX5_deepFormat_103
          · skip
            -- 42 f
            have f_p := hv.pr ot (by omega) (by omega)
            refine lv_aload_n hx hb dX5_deepFormat_45 rfl (lv_at hl 2 rfl) ?_
            refine va_get (D := D) (cl := vwC) (ci := 6) (v := .ref (a 3)) (C := RX5) (T := TX5) (N := 7) hx hb hG.use i_X5 hown hK hP 0 rfl rfl 2 (by decide) (hG.use _ lf_X5_26) (fun _ h9 => h9) rfl dX5_deepFormat_46 ?_
            refine va_getN (host := "FormatRows") (D := D) (cl := vwC) (ci := 2) (v := .ref (a 18)) (C := RX1) (T := TX1) (N := 5) hx hb hG.use i_X1 hown hK hP 3 rfl rfl 4 (by decide) (hG.use _ lf_X5_174) (fun _ h9 => h9) rfl dX5_deepFormat_49 ?_
            refine lv_iload hx hb dX5_deepFormat_52 (lv_at hl 1 rfl) ?_
            refine xr_iald (f := F 18) (z := ot) hx hb hK hP 18 12 rfl rfl (by omega) (by omega) (by decide) dX5_deepFormat_54 ?_
            refine lv_iload_n hx hb dX5_deepFormat_55 rfl (lv_at hl 3 rfl) ?_
            refine xr_icmp_ne (a := (F 18) ot) (b := p0) (tgt := 87) hx hb dX5_deepFormat_56 (by decide) (fun c_10 => ?_) (fun c_10 => ?_) (by omega) (by omega)
            · skip
              -- 56 t
              refine xr_iinc (z := ot) (lv' := [(5, .int (iI (ot + 1))), (4, .int (iI mf)), (0, .ref (a 0)), (1, .int (iI p0)), (2, .int (iI 1)), (3, .int (iI r_1))]) hx hb dX5_deepFormat_87 hl (k := 1) rfl (by decide) rfl (fun ls hl => ?_)
              refine lv_goto (tgt := 33) hx hb dX5_deepFormat_90 (by decide) ?_
              exact ih_33 mf (ot + 1) (by omega) (by omega) (by first | exact dm_or i1 (by omega) (by assumption) (by first | assumption | omega) (by omega) | exact dm_skip i1 (by omega) (by first | (left; assumption) | (right; rw [← q_5]; assumption) | (right; rw [← q_6]; assumption) | (right; rw [← q_7]; assumption) | (right; rw [← q_8]; assumption) | (right; rw [← q_9]; assumption) | (right; rw [← q_10]; assumption) | (right; rw [← q_11]; assumption) | (right; rw [← q_12]; assumption))) ls (lv_sub hl [1, 0, 2, 3, 4, 5] rfl)
            · skip
              -- 56 f
              refine lv_aload_n hx hb dX5_deepFormat_59 rfl (lv_at hl 2 rfl) ?_
              refine lv_iload hx hb dX5_deepFormat_60 (lv_at hl 1 rfl) ?_
              refine lv_iload_n hx hb dX5_deepFormat_62 rfl (lv_at hl 4 rfl) ?_
              refine xr_iconst hx hb dX5_deepFormat_63 ?_
              refine xr_iadd (a := 1) (b := 1) hx hb dX5_deepFormat_64 ?_
              refine ro_call (g_runV (rest := []) hx hb hml hown hG hK hP mV_X5_deepFormat (c_X5_deep1 l D a k I F ot hv (by omega)) lk_X5_126 (va_recv hK hP (ci := 6) (q0 := 0) rfl rfl) rfl hl.1 rfl (Nat.le_of_ble_eq_true rfl) ⟨(Nat.le_of_ble_eq_true rfl), (Nat.le_of_ble_eq_true rfl)⟩ ⟨(Nat.le_of_ble_eq_true rfl), (Nat.le_of_ble_eq_true rfl)⟩ dX5_deepFormat_65) (fun r_11 q_12 => ?_)
              have f_13 := xdv_in hv 1 ot
              refine lv_istore (lv' := [(6, .int (iI r_11)), (4, .int (iI mf)), (5, .int (iI ot)), (0, .ref (a 0)), (1, .int (iI p0)), (2, .int (iI 1)), (3, .int (iI r_1))]) hx hb dX5_deepFormat_68 hl (by decide) rfl (fun ls hl => ?_)
              refine lv_iload hx hb dX5_deepFormat_70 (lv_at hl 0 rfl) ?_
              refine ro_call (g_runS (rest := []) hx hb hml hown hG (hK.sub (tys' := []) [] rfl) (va_P0) mS_X5_isFormat (c_X5_isFormat l D r_11 (by omega)) lk_X5_120 rfl hl.1 rfl (Nat.le_of_ble_eq_true rfl) ⟨(Nat.le_of_ble_eq_true rfl), (Nat.le_of_ble_eq_true rfl)⟩ ⟨(Nat.le_of_ble_eq_true rfl), (Nat.le_of_ble_eq_true rfl)⟩ dX5_deepFormat_72) (fun r_14 q_15 => ?_)
              refine xr_if_eqZ (tgt := 87) hx hb q_15 dX5_deepFormat_75 (by decide) (fun c_16 => ?_) (fun c_16 => ?_)
              · skip
                -- 75 t
                refine xr_iinc (z := ot) (lv' := [(5, .int (iI (ot + 1))), (6, .int (iI r_11)), (4, .int (iI mf)), (0, .ref (a 0)), (1, .int (iI p0)), (2, .int (iI 1)), (3, .int (iI r_1))]) hx hb dX5_deepFormat_87 hl (k := 2) rfl (by decide) rfl (fun ls hl => ?_)
                refine lv_goto (tgt := 33) hx hb dX5_deepFormat_90 (by decide) ?_
                exact ih_33 mf (ot + 1) (by omega) (by omega) (by first | exact dm_or i1 (by omega) (by assumption) (by first | assumption | omega) (by omega) | exact dm_skip i1 (by omega) (by first | (left; assumption) | (right; rw [← q_5]; assumption) | (right; rw [← q_6]; assumption) | (right; rw [← q_7]; assumption) | (right; rw [← q_8]; assumption) | (right; rw [← q_9]; assumption) | (right; rw [← q_10]; assumption) | (right; rw [← q_11]; assumption) | (right; rw [← q_12]; assumption))) ls (lv_sub hl [2, 0, 3, 4, 5, 6] rfl)
              · skip
                -- 75 f
                refine lv_iload hx hb dX5_deepFormat_78 (lv_at hl 1 rfl) ?_
                refine xr_iconst hx hb dX5_deepFormat_80 ?_
                refine lv_iload hx hb dX5_deepFormat_81 (lv_at hl 0 rfl) ?_
                refine lv_ishl hx hb dX5_deepFormat_83 ?_
                refine xr_mor (M := mf) (z := r_11) hx hb dX5_deepFormat_84 ?_
                refine lv_istore (lv' := [(4, .int (iI ((iI mf ||| ((iI 1) <<< (iI r_11 &&& 31))).toInt))), (6, .int (iI r_11)), (5, .int (iI ot)), (0, .ref (a 0)), (1, .int (iI p0)), (2, .int (iI 1)), (3, .int (iI r_1))]) hx hb dX5_deepFormat_85 hl (by decide) rfl (fun ls hl => ?_)
                refine xr_iinc (z := ot) (lv' := [(5, .int (iI (ot + 1))), (4, .int (iI ((iI mf ||| ((iI 1) <<< (iI r_11 &&& 31))).toInt))), (6, .int (iI r_11)), (0, .ref (a 0)), (1, .int (iI p0)), (2, .int (iI 1)), (3, .int (iI r_1))]) hx hb dX5_deepFormat_87 hl (k := 2) rfl (by decide) rfl (fun ls hl => ?_)
                refine lv_goto (tgt := 33) hx hb dX5_deepFormat_90 (by decide) ?_
                exact ih_33 ((iI mf ||| ((iI 1) <<< (iI r_11 &&& 31))).toInt) (ot + 1) (by omega) (by omega) (by first | exact dm_or i1 (by omega) (by assumption) (by first | assumption | omega) (by omega) | exact dm_skip i1 (by omega) (by first | (left; assumption) | (right; rw [← q_5]; assumption) | (right; rw [← q_6]; assumption) | (right; rw [← q_7]; assumption) | (right; rw [← q_8]; assumption) | (right; rw [← q_9]; assumption) | (right; rw [← q_10]; assumption) | (right; rw [← q_11]; assumption) | (right; rw [← q_12]; assumption))) ls (lv_sub hl [1, 0, 3, 4, 5, 6] rfl)
      exact lp_33 _ 0 0 (Nat.lt_succ_self _) (by omega) (by exact bits_0 (fun k ⟨_, o, ho, _⟩ => by omega)) ls (lv_sub hl [1, 0, 3, 4, 5, 2] rfl)
    · exact absurd c_6 (by omega)
set_option maxHeartbeats 4000000 in
set_option maxRecDepth 100000 in
theorem c_X5_deep3 (l : Launch) (D : va_G) (a : Nat → Nat) (k : Nat → ClassId) (I : Nat → Int) (F : Nat → Int → Int) (p0 : Int) (hv : xInv I F) (h0 : 0 ≤ p0 ∧ p0 < I 9) : ro_M l yX5_deepFormat cX5_deepFormat 7 (some .int) 7 [.ref (a 0), .int (iI p0), .int (iI 0)] D (xT k) (xW a k I F) (fun r => r = xdv I F 3 p0) := by
  refine me_start (by decide) (Nat.le_of_ble_eq_true rfl) rfl ?_
  intro p e s m below meth c hx hb hml hr hown hlocks hnm hG hK hP ls hl
  have hown : s.vm.findClass RX5 = some m.cls := hown
  have hl : lv_has ls 7 [(0, .ref (a 0)), (1, .int (iI p0)), (2, .int (iI 0))] := hl
  have f_n := hv.n
  refine lv_aload_n hx hb dX5_deepFormat_0 rfl (lv_at hl 0 rfl) ?_
  refine lv_iload_n hx hb dX5_deepFormat_1 rfl (lv_at hl 1 rfl) ?_
  refine lv_aload_n hx hb dX5_deepFormat_2 rfl (lv_at hl 0 rfl) ?_
  refine va_get (D := D) (cl := vwC) (ci := 6) (v := .ref (a 2)) (C := RX5) (T := TX5) (N := 7) hx hb hG.use i_X5 hown hK hP 0 rfl rfl 1 (by decide) (hG.use _ lf_X5_19) (fun _ h9 => h9) rfl dX5_deepFormat_3 ?_
  refine va_getN (host := "FormatRows") (D := D) (cl := vwC) (ci := 5) (v := .int (iI (I 8))) (C := RX4) (T := TX4) (N := 7) hx hb hG.use i_X4 hown hK hP 2 rfl rfl 0 (by decide) (hG.use _ lf_X5_96) (fun _ h9 => h9) rfl dX5_deepFormat_6 ?_
  refine ro_call (g_runV (rest := []) hx hb hml hown hG hK hP mV_X5_formatOf (c_X5_formatOf l D a k I F p0 (I 8) hv (by omega) (by omega)) lk_X5_143 (va_recv hK hP (ci := 6) (q0 := 0) rfl rfl) rfl hl.1 rfl (Nat.le_of_ble_eq_true rfl) ⟨(Nat.le_of_ble_eq_true rfl), (Nat.le_of_ble_eq_true rfl)⟩ ⟨(Nat.le_of_ble_eq_true rfl), (Nat.le_of_ble_eq_true rfl)⟩ dX5_deepFormat_9) (fun r_1 q_2 => ?_)
  have f_m := xfm_in hv p0
  have e_m : r_1 = xfm I F p0 := q_2
  refine lv_istore_n (lv' := [(3, .int (iI r_1)), (0, .ref (a 0)), (1, .int (iI p0)), (2, .int (iI 0))]) hx hb dX5_deepFormat_12 rfl hl (by decide) rfl (fun ls hl => ?_)
  refine lv_iload_n hx hb dX5_deepFormat_13 rfl (lv_at hl 0 rfl) ?_
  refine ro_call (g_runS (rest := []) hx hb hml hown hG (hK.sub (tys' := []) [] rfl) (va_P0) mS_X5_isFormat (c_X5_isFormat l D r_1 (by omega)) lk_X5_120 rfl hl.1 rfl (Nat.le_of_ble_eq_true rfl) ⟨(Nat.le_of_ble_eq_true rfl), (Nat.le_of_ble_eq_true rfl)⟩ ⟨(Nat.le_of_ble_eq_true rfl), (Nat.le_of_ble_eq_true rfl)⟩ dX5_deepFormat_14) (fun r_3 q_4 => ?_)
  refine xr_if_eqZ (tgt := 25) hx hb q_4 dX5_deepFormat_17 (by decide) (fun c_5 => ?_) (fun c_5 => ?_)
  · skip
    -- 17 t
    refine lv_iload_n hx hb dX5_deepFormat_25 rfl (lv_at hl 0 rfl) ?_
    exact W.iret (v := iI r_1) hx hb hr (fun t ht9 hW => ⟨r_1, rfl, (by rw [xdv_lo (by omega)]; omega), ht9⟩) t_nil dX5_deepFormat_26
  · skip
    -- 17 f
    refine lv_iload_n hx hb dX5_deepFormat_20 rfl (lv_at hl 3 rfl) ?_
    refine xr_iconst hx hb dX5_deepFormat_21 ?_
    refine xr_icmp_lt (a := 0) (b := 3) (tgt := 27) hx hb dX5_deepFormat_22 (by decide) (fun c_6 => ?_) (fun c_6 => ?_) (by omega) (by omega)
    · skip
      -- 22 t
      refine xr_iconst hx hb dX5_deepFormat_27 ?_
      refine lv_istore (lv' := [(4, .int (iI 0)), (3, .int (iI r_1)), (0, .ref (a 0)), (1, .int (iI p0)), (2, .int (iI 0))]) hx hb dX5_deepFormat_28 hl (by decide) rfl (fun ls hl => ?_)
      refine xr_iconst hx hb dX5_deepFormat_30 ?_
      refine lv_istore (lv' := [(5, .int (iI 0)), (4, .int (iI 0)), (3, .int (iI r_1)), (0, .ref (a 0)), (1, .int (iI p0)), (2, .int (iI 0))]) hx hb dX5_deepFormat_31 hl (by decide) rfl (fun ls hl => ?_)
      have lp_33 : ∀ (nz : Nat) (mf : Int) (ot : Int), (I 9 - ot).toNat < nz → (0 ≤ ot ∧ ot ≤ I 9) → (bits mf (fun k => (0 ≤ k ∧ k < 30) ∧ ∃ o : Int, (0 ≤ o ∧ o < ot) ∧ F 18 o = p0 ∧ xdv I F 2 o = k)) → ∀ ls : Array Slot, lv_has ls 7 [(4, .int (iI mf)), (5, .int (iI ot)), (0, .ref (a 0)), (1, .int (iI p0)), (2, .int (iI 0)), (3, .int (iI r_1))] → W p l e (rmd 7) s m ([.ref (a 0), .int (iI p0), .int (iI 0)] : List Value).toArray below meth c s.heap [] 0 0 (MQ below (ro_Q (fun r => r = xdv I F 3 p0)) ([.ref (a 0), .int (iI p0), .int (iI 0)] : List Value).toArray s 0 0 (fun _ => False)) (F0 m 33 ls []) := by
        clear hl
        intro nz
        induction nz with
        | zero =>
          intro mf ot hn
          exact absurd hn (Nat.not_lt_zero _)
        | succ n_33 ih_33 =>
          intro mf ot hn_33 i0 i1 ls hl
          have f_mf := i1.1
          refine lv_iload hx hb dX5_deepFormat_33 (lv_at hl 1 rfl) ?_
          refine lv_aload_n hx hb dX5_deepFormat_35 rfl (lv_at hl 2 rfl) ?_
          refine va_get (D := D) (cl := vwC) (ci := 6) (v := .ref (a 3)) (C := RX5) (T := TX5) (N := 7) hx hb hG.use i_X5 hown hK hP 0 rfl rfl 2 (by decide) (hG.use _ lf_X5_26) (fun _ h9 => h9) rfl dX5_deepFormat_36 ?_
          refine va_getN (host := "FormatRows") (D := D) (cl := vwC) (ci := 2) (v := .int (iI (I 9))) (C := RX1) (T := TX1) (N := 5) hx hb hG.use i_X1 hown hK hP 3 rfl rfl 0 (by decide) (hG.use _ lf_X5_142) (fun _ h9 => h9) rfl dX5_deepFormat_39 ?_
          refine xr_icmp_ge (a := ot) (b := I 9) (tgt := 93) hx hb dX5_deepFormat_42 (by decide) (fun c_7 => ?_) (fun c_7 => ?_) (by omega) (by omega)
          · skip
            -- 42 t
            refine lv_aload_n hx hb dX5_deepFormat_93 rfl (lv_at hl 2 rfl) ?_
            refine va_get (D := D) (cl := vwC) (ci := 6) (v := .ref (a 4)) (C := RX5) (T := TX5) (N := 7) hx hb hG.use i_X5 hown hK hP 0 rfl rfl 3 (by decide) (hG.use _ lf_X5_33) (fun _ h9 => h9) rfl dX5_deepFormat_94 ?_
            refine lv_iload_n hx hb dX5_deepFormat_97 rfl (lv_at hl 5 rfl) ?_
            refine lv_iload hx hb dX5_deepFormat_98 (lv_at hl 0 rfl) ?_
            refine ro_call (g_runV (rest := []) hx hb hml hown hG hK hP mV_X0_targetOf (c_X0_targetOf l D a k I F r_1 mf (by omega) (by first | omega | exact i1.1) (by omega) hv.cn) lk_X5_177 (va_recv hK hP (ci := 1) (q0 := 4) rfl rfl) rfl hl.1 rfl (Nat.le_of_ble_eq_true rfl) ⟨(Nat.le_of_ble_eq_true rfl), (Nat.le_of_ble_eq_true rfl)⟩ ⟨(Nat.le_of_ble_eq_true rfl), (Nat.le_of_ble_eq_true rfl)⟩ dX5_deepFormat_100) (fun r_8 q_9 => ?_)
            exact W.iret (v := iI r_8) hx hb hr (fun t ht9 hW => ⟨r_8, rfl, (by have e9 : ot = I 9 := (by omega); rw [e9] at i1; rw [← xdv_hi (by omega) hv i1, ← e_m]; assumption), ht9⟩) t_nil dX5_deepFormat_103
          · skip
            -- 42 f
            have f_p := hv.pr ot (by omega) (by omega)
            refine lv_aload_n hx hb dX5_deepFormat_45 rfl (lv_at hl 2 rfl) ?_
            refine va_get (D := D) (cl := vwC) (ci := 6) (v := .ref (a 3)) (C := RX5) (T := TX5) (N := 7) hx hb hG.use i_X5 hown hK hP 0 rfl rfl 2 (by decide) (hG.use _ lf_X5_26) (fun _ h9 => h9) rfl dX5_deepFormat_46 ?_
            refine va_getN (host := "FormatRows") (D := D) (cl := vwC) (ci := 2) (v := .ref (a 18)) (C := RX1) (T := TX1) (N := 5) hx hb hG.use i_X1 hown hK hP 3 rfl rfl 4 (by decide) (hG.use _ lf_X5_174) (fun _ h9 => h9) rfl dX5_deepFormat_49 ?_
            refine lv_iload hx hb dX5_deepFormat_52 (lv_at hl 1 rfl) ?_
            refine xr_iald (f := F 18) (z := ot) hx hb hK hP 18 12 rfl rfl (by omega) (by omega) (by decide) dX5_deepFormat_54 ?_
            refine lv_iload_n hx hb dX5_deepFormat_55 rfl (lv_at hl 3 rfl) ?_
            refine xr_icmp_ne (a := (F 18) ot) (b := p0) (tgt := 87) hx hb dX5_deepFormat_56 (by decide) (fun c_10 => ?_) (fun c_10 => ?_) (by omega) (by omega)
            · skip
              -- 56 t
              refine xr_iinc (z := ot) (lv' := [(5, .int (iI (ot + 1))), (4, .int (iI mf)), (0, .ref (a 0)), (1, .int (iI p0)), (2, .int (iI 0)), (3, .int (iI r_1))]) hx hb dX5_deepFormat_87 hl (k := 1) rfl (by decide) rfl (fun ls hl => ?_)
              refine lv_goto (tgt := 33) hx hb dX5_deepFormat_90 (by decide) ?_
              exact ih_33 mf (ot + 1) (by omega) (by omega) (by first | exact dm_or i1 (by omega) (by assumption) (by first | assumption | omega) (by omega) | exact dm_skip i1 (by omega) (by first | (left; assumption) | (right; rw [← q_5]; assumption) | (right; rw [← q_6]; assumption) | (right; rw [← q_7]; assumption) | (right; rw [← q_8]; assumption) | (right; rw [← q_9]; assumption) | (right; rw [← q_10]; assumption) | (right; rw [← q_11]; assumption) | (right; rw [← q_12]; assumption))) ls (lv_sub hl [1, 0, 2, 3, 4, 5] rfl)
            · skip
              -- 56 f
              refine lv_aload_n hx hb dX5_deepFormat_59 rfl (lv_at hl 2 rfl) ?_
              refine lv_iload hx hb dX5_deepFormat_60 (lv_at hl 1 rfl) ?_
              refine lv_iload_n hx hb dX5_deepFormat_62 rfl (lv_at hl 4 rfl) ?_
              refine xr_iconst hx hb dX5_deepFormat_63 ?_
              refine xr_iadd (a := 0) (b := 1) hx hb dX5_deepFormat_64 ?_
              refine ro_call (g_runV (rest := []) hx hb hml hown hG hK hP mV_X5_deepFormat (c_X5_deep2 l D a k I F ot hv (by omega)) lk_X5_126 (va_recv hK hP (ci := 6) (q0 := 0) rfl rfl) rfl hl.1 rfl (Nat.le_of_ble_eq_true rfl) ⟨(Nat.le_of_ble_eq_true rfl), (Nat.le_of_ble_eq_true rfl)⟩ ⟨(Nat.le_of_ble_eq_true rfl), (Nat.le_of_ble_eq_true rfl)⟩ dX5_deepFormat_65) (fun r_11 q_12 => ?_)
              have f_13 := xdv_in hv 2 ot
              refine lv_istore (lv' := [(6, .int (iI r_11)), (4, .int (iI mf)), (5, .int (iI ot)), (0, .ref (a 0)), (1, .int (iI p0)), (2, .int (iI 0)), (3, .int (iI r_1))]) hx hb dX5_deepFormat_68 hl (by decide) rfl (fun ls hl => ?_)
              refine lv_iload hx hb dX5_deepFormat_70 (lv_at hl 0 rfl) ?_
              refine ro_call (g_runS (rest := []) hx hb hml hown hG (hK.sub (tys' := []) [] rfl) (va_P0) mS_X5_isFormat (c_X5_isFormat l D r_11 (by omega)) lk_X5_120 rfl hl.1 rfl (Nat.le_of_ble_eq_true rfl) ⟨(Nat.le_of_ble_eq_true rfl), (Nat.le_of_ble_eq_true rfl)⟩ ⟨(Nat.le_of_ble_eq_true rfl), (Nat.le_of_ble_eq_true rfl)⟩ dX5_deepFormat_72) (fun r_14 q_15 => ?_)
              refine xr_if_eqZ (tgt := 87) hx hb q_15 dX5_deepFormat_75 (by decide) (fun c_16 => ?_) (fun c_16 => ?_)
              · skip
                -- 75 t
                refine xr_iinc (z := ot) (lv' := [(5, .int (iI (ot + 1))), (6, .int (iI r_11)), (4, .int (iI mf)), (0, .ref (a 0)), (1, .int (iI p0)), (2, .int (iI 0)), (3, .int (iI r_1))]) hx hb dX5_deepFormat_87 hl (k := 2) rfl (by decide) rfl (fun ls hl => ?_)
                refine lv_goto (tgt := 33) hx hb dX5_deepFormat_90 (by decide) ?_
                exact ih_33 mf (ot + 1) (by omega) (by omega) (by first | exact dm_or i1 (by omega) (by assumption) (by first | assumption | omega) (by omega) | exact dm_skip i1 (by omega) (by first | (left; assumption) | (right; rw [← q_5]; assumption) | (right; rw [← q_6]; assumption) | (right; rw [← q_7]; assumption) | (right; rw [← q_8]; assumption) | (right; rw [← q_9]; assumption) | (right; rw [← q_10]; assumption) | (right; rw [← q_11]; assumption) | (right; rw [← q_12]; assumption))) ls (lv_sub hl [2, 0, 3, 4, 5, 6] rfl)
              · skip
                -- 75 f
                refine lv_iload hx hb dX5_deepFormat_78 (lv_at hl 1 rfl) ?_
                refine xr_iconst hx hb dX5_deepFormat_80 ?_
                refine lv_iload hx hb dX5_deepFormat_81 (lv_at hl 0 rfl) ?_
                refine lv_ishl hx hb dX5_deepFormat_83 ?_
                refine xr_mor (M := mf) (z := r_11) hx hb dX5_deepFormat_84 ?_
                refine lv_istore (lv' := [(4, .int (iI ((iI mf ||| ((iI 1) <<< (iI r_11 &&& 31))).toInt))), (6, .int (iI r_11)), (5, .int (iI ot)), (0, .ref (a 0)), (1, .int (iI p0)), (2, .int (iI 0)), (3, .int (iI r_1))]) hx hb dX5_deepFormat_85 hl (by decide) rfl (fun ls hl => ?_)
                refine xr_iinc (z := ot) (lv' := [(5, .int (iI (ot + 1))), (4, .int (iI ((iI mf ||| ((iI 1) <<< (iI r_11 &&& 31))).toInt))), (6, .int (iI r_11)), (0, .ref (a 0)), (1, .int (iI p0)), (2, .int (iI 0)), (3, .int (iI r_1))]) hx hb dX5_deepFormat_87 hl (k := 2) rfl (by decide) rfl (fun ls hl => ?_)
                refine lv_goto (tgt := 33) hx hb dX5_deepFormat_90 (by decide) ?_
                exact ih_33 ((iI mf ||| ((iI 1) <<< (iI r_11 &&& 31))).toInt) (ot + 1) (by omega) (by omega) (by first | exact dm_or i1 (by omega) (by assumption) (by first | assumption | omega) (by omega) | exact dm_skip i1 (by omega) (by first | (left; assumption) | (right; rw [← q_5]; assumption) | (right; rw [← q_6]; assumption) | (right; rw [← q_7]; assumption) | (right; rw [← q_8]; assumption) | (right; rw [← q_9]; assumption) | (right; rw [← q_10]; assumption) | (right; rw [← q_11]; assumption) | (right; rw [← q_12]; assumption))) ls (lv_sub hl [1, 0, 3, 4, 5, 6] rfl)
      exact lp_33 _ 0 0 (Nat.lt_succ_self _) (by omega) (by exact bits_0 (fun k ⟨_, o, ho, _⟩ => by omega)) ls (lv_sub hl [1, 0, 3, 4, 5, 2] rfl)
    · exact absurd c_6 (by omega)
