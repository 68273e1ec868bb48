set_option maxHeartbeats 4000000 in
set_option maxRecDepth 100000 in
theorem c_X1_isInside (l : Launch) (D : va_G) (a : Nat → Nat) (k : Nat → ClassId) (I : Nat → Int) (F : Nat → Int → Int) (p0 p1 : Int) (h0 : 0 ≤ p0 ∧ p0 < I 9) (h1 : 0 ≤ p1 ∧ p1 < I 9) (h9 : 0 ≤ I 9 ∧ I 9 ≤ 40) (hp : ∀ f, 0 ≤ f → f < I 9 → -1 ≤ F 18 f ∧ F 18 f < I 9) : ro_M l yX1_isInside cX1_isInside 5 (some .boolean) 0 [.ref (a 3), .int (iI p0), .int (iI p1)] D (xT k) (xW a k I F) (fun r => bz (∃ n : Nat, n < 40 ∧ up (F 18) p0 n = p1) r) := by
  refine me_start (by decide) (Nat.le_of_ble_eq_true rfl) rfl ?_
  intro p e s m below meth c hx hb hml hr hown hlocks hnm hG hK hP ls hl
  have hown : s.vm.findClass RX1 = some m.cls := hown
  have hl : lv_has ls 5 [(0, .ref (a 3)), (1, .int (iI p0)), (2, .int (iI p1))] := hl
  refine lv_iload_n hx hb dX1_isInside_0 rfl (lv_at hl 1 rfl) ?_
  refine lv_istore_n (lv' := [(3, .int (iI p0)), (0, .ref (a 3)), (1, .int (iI p0)), (2, .int (iI p1))]) hx hb dX1_isInside_1 rfl hl (by decide) rfl (fun ls hl => ?_)
  refine xr_iconst hx hb dX1_isInside_2 ?_
  refine lv_istore (lv' := [(4, .int (iI 0)), (3, .int (iI p0)), (0, .ref (a 3)), (1, .int (iI p0)), (2, .int (iI p1))]) hx hb dX1_isInside_3 hl (by decide) rfl (fun ls hl => ?_)
  have lp_5 : ∀ (nz : Nat) (ab : Int) (st : Int), (40 - st).toNat < nz → (0 ≤ st ∧ st ≤ 40) → (ab = up (F 18) p0 st.toNat) → (-1 ≤ ab ∧ ab < I 9) → (∀ n : Nat, n < st.toNat → up (F 18) p0 n ≠ p1) → ∀ ls : Array Slot, lv_has ls 5 [(3, .int (iI ab)), (4, .int (iI st)), (0, .ref (a 3)), (2, .int (iI p1))] → W p l e (rmd 0) s m ([.ref (a 3), .int (iI p0), .int (iI p1)] : List Value).toArray below meth c s.heap [] 0 0 (MQ below (ro_Q (fun r => bz (∃ n : Nat, n < 40 ∧ up (F 18) p0 n = p1) r)) ([.ref (a 3), .int (iI p0), .int (iI p1)] : List Value).toArray s 0 0 (fun _ => False)) (F0 m 5 ls []) := by
    clear hl
    intro nz
    induction nz with
    | zero =>
      intro ab st hn
      exact absurd hn (Nat.not_lt_zero _)
    | succ n_5 ih_5 =>
      intro ab st hn_5 i0 i1 i2 i3 ls hl
      refine lv_iload hx hb dX1_isInside_5 (lv_at hl 1 rfl) ?_
      refine xr_bipush hx hb dX1_isInside_7 (by decide +kernel) ?_
      refine xr_icmp_ge (a := st) (b := 40) (tgt := 37) hx hb dX1_isInside_9 (by decide) (fun c_1 => ?_) (fun c_1 => ?_) (by omega) (by omega)
      · skip
        -- 9 t
        refine xr_iconst hx hb dX1_isInside_37 ?_
        refine W.zret (v := iI 0) hx hb hr (bz_nar (by omega)) (fun t ht9 hW => ⟨0, rfl, ?_, ht9⟩) t_nil dX1_isInside_38
        refine bz_f ?_
        rintro ⟨n, hn, hu⟩
        by_cases e : n < st.toNat
        · exact i3 n e hu
        · first
          | omega
          | (have hz := up_end (g := F 18) (z := p0) (n := st.toNat) (by rw [← i1]; assumption) (n - st.toNat); rw [show st.toNat + (n - st.toNat) = n by omega] at hz; omega)
      · skip
        -- 9 f
        refine lv_iload_n hx hb dX1_isInside_12 rfl (lv_at hl 0 rfl) ?_
        refine xr_iconst hx hb dX1_isInside_13 ?_
        refine xr_icmp_eq (a := ab) (b := (-1)) (tgt := 37) hx hb dX1_isInside_14 (by decide) (fun c_2 => ?_) (fun c_2 => ?_) (by omega) (by omega)
        · skip
          -- 14 t
          refine xr_iconst hx hb dX1_isInside_37 ?_
          refine W.zret (v := iI 0) hx hb hr (bz_nar (by omega)) (fun t ht9 hW => ⟨0, rfl, ?_, ht9⟩) t_nil dX1_isInside_38
          refine bz_f ?_
          rintro ⟨n, hn, hu⟩
          by_cases e : n < st.toNat
          · exact i3 n e hu
          · first
            | omega
            | (have hz := up_end (g := F 18) (z := p0) (n := st.toNat) (by rw [← i1]; assumption) (n - st.toNat); rw [show st.toNat + (n - st.toNat) = n by omega] at hz; omega)
        · skip
          -- 14 f
          refine lv_iload_n hx hb dX1_isInside_17 rfl (lv_at hl 0 rfl) ?_
          refine lv_iload_n hx hb dX1_isInside_18 rfl (lv_at hl 3 rfl) ?_
          refine xr_icmp_ne (a := ab) (b := p1) (tgt := 24) hx hb dX1_isInside_19 (by decide) (fun c_3 => ?_) (fun c_3 => ?_) (by omega) (by omega)
          · skip
            -- 19 t
            refine lv_aload_n hx hb dX1_isInside_24 rfl (lv_at hl 2 rfl) ?_
            refine va_get (D := D) (cl := vwC) (ci := 2) (v := .ref (a 18)) (C := RX1) (T := TX1) (N := 5) hx hb hG.use i_X1 hown hK hP 3 rfl rfl 4 (by decide) (hG.use _ lf_X1_25) (fun _ h9 => h9) rfl dX1_isInside_25 ?_
            refine lv_iload_n hx hb dX1_isInside_28 rfl (lv_at hl 0 rfl) ?_
            refine xr_iald (f := F 18) (z := ab) hx hb hK hP 18 12 rfl rfl (by omega) (by omega) (by decide) dX1_isInside_29 ?_
            have f_4 := hp ab (by omega) (by omega)
            refine lv_istore_n (lv' := [(3, .int (iI ((F 18) ab))), (4, .int (iI st)), (0, .ref (a 3)), (2, .int (iI p1))]) hx hb dX1_isInside_30 rfl hl (by decide) rfl (fun ls hl => ?_)
            refine xr_iinc (z := st) (lv' := [(4, .int (iI (st + 1))), (3, .int (iI ((F 18) ab))), (0, .ref (a 3)), (2, .int (iI p1))]) hx hb dX1_isInside_31 hl (k := 1) rfl (by decide) rfl (fun ls hl => ?_)
            refine lv_goto (tgt := 5) hx hb dX1_isInside_34 (by decide) ?_
            exact ih_5 ((F 18) ab) (st + 1) (by omega) (by omega) (by rw [show (st + 1).toNat = st.toNat + 1 by omega, up_go (by rw [← i1]; assumption), ← i1]) (by omega) (by intro n hn; by_cases e : n = st.toNat; (rw [e, ← i1]; assumption); exact i3 n (by omega)) ls (lv_sub hl [1, 0, 2, 3] rfl)
          · skip
            -- 19 f
            refine xr_iconst hx hb dX1_isInside_22 ?_
            exact W.zret (v := iI 1) hx hb hr (bz_nar (by omega)) (fun t ht9 hW => ⟨1, rfl, (by exact bz_t ⟨st.toNat, by omega, by rw [← i1]; assumption⟩), ht9⟩) t_nil dX1_isInside_23
  exact lp_5 _ p0 0 (Nat.lt_succ_self _) (by omega) (by rfl) (by omega) (by intro n hn; exact absurd hn (by omega)) ls (lv_sub hl [1, 0, 2, 4] rfl)
set_option maxHeartbeats 4000000 in
set_option maxRecDepth 100000 in
theorem c_X2_leads (l : Launch) (D : va_G) (a : Nat → Nat) (k : Nat → ClassId) (I : Nat → Int) (F : Nat → Int → Int) (p0 p1 : Int) (h0 : 0 ≤ p0 ∧ p0 < 30) (h1 : 0 ≤ p1 ∧ p1 < 30) (hp : ∀ f, 0 ≤ f → f < 30 → -1 ≤ F 23 f ∧ F 23 f < 30) : ro_M l yX2_leads cX2_leads 5 (some .boolean) 0 [.ref (a 5), .int (iI p0), .int (iI p1)] D (xT k) (xW a k I F) (fun r => bz (∃ n : Nat, n < 30 ∧ up (F 23) p0 n = p1) r) := by
  refine me_start (by decide) (Nat.le_of_ble_eq_true rfl) rfl ?_
  intro p e s m below meth c hx hb hml hr hown hlocks hnm hG hK hP ls hl
  have hown : s.vm.findClass RX2 = some m.cls := hown
  have hl : lv_has ls 5 [(0, .ref (a 5)), (1, .int (iI p0)), (2, .int (iI p1))] := hl
  refine lv_iload_n hx hb dX2_leads_0 rfl (lv_at hl 1 rfl) ?_
  refine lv_istore_n (lv' := [(3, .int (iI p0)), (0, .ref (a 5)), (1, .int (iI p0)), (2, .int (iI p1))]) hx hb dX2_leads_1 rfl hl (by decide) rfl (fun ls hl => ?_)
  refine xr_iconst hx hb dX2_leads_2 ?_
  refine lv_istore (lv' := [(4, .int (iI 0)), (3, .int (iI p0)), (0, .ref (a 5)), (1, .int (iI p0)), (2, .int (iI p1))]) hx hb dX2_leads_3 hl (by decide) rfl (fun ls hl => ?_)
  have lp_5 : ∀ (nz : Nat) (ab : Int) (st : Int), (30 - st).toNat < nz → (0 ≤ st ∧ st ≤ 30) → (ab = up (F 23) p0 st.toNat) → (-1 ≤ ab ∧ ab < 30) → (∀ n : Nat, n < st.toNat → up (F 23) p0 n ≠ p1) → ∀ ls : Array Slot, lv_has ls 5 [(3, .int (iI ab)), (4, .int (iI st)), (0, .ref (a 5)), (2, .int (iI p1))] → W p l e (rmd 0) s m ([.ref (a 5), .int (iI p0), .int (iI p1)] : List Value).toArray below meth c s.heap [] 0 0 (MQ below (ro_Q (fun r => bz (∃ n : Nat, n < 30 ∧ up (F 23) p0 n = p1) r)) ([.ref (a 5), .int (iI p0), .int (iI p1)] : List Value).toArray s 0 0 (fun _ => False)) (F0 m 5 ls []) := by
    clear hl
    intro nz
    induction nz with
    | zero =>
      intro ab st hn
      exact absurd hn (Nat.not_lt_zero _)
    | succ n_5 ih_5 =>
      intro ab st hn_5 i0 i1 i2 i3 ls hl
      refine lv_iload hx hb dX2_leads_5 (lv_at hl 1 rfl) ?_
      refine xr_bipush hx hb dX2_leads_7 (by decide +kernel) ?_
      refine xr_icmp_ge (a := st) (b := 30) (tgt := 37) hx hb dX2_leads_9 (by decide) (fun c_1 => ?_) (fun c_1 => ?_) (by omega) (by omega)
      · skip
        -- 9 t
        refine xr_iconst hx hb dX2_leads_37 ?_
        refine W.zret (v := iI 0) hx hb hr (bz_nar (by omega)) (fun t ht9 hW => ⟨0, rfl, ?_, ht9⟩) t_nil dX2_leads_38
        refine bz_f ?_
        rintro ⟨n, hn, hu⟩
        by_cases e : n < st.toNat
        · exact i3 n e hu
        · first
          | omega
          | (have hz := up_end (g := F 23) (z := p0) (n := st.toNat) (by rw [← i1]; assumption) (n - st.toNat); rw [show st.toNat + (n - st.toNat) = n by omega] at hz; omega)
      · skip
        -- 9 f
        refine lv_iload_n hx hb dX2_leads_12 rfl (lv_at hl 0 rfl) ?_
        refine xr_iconst hx hb dX2_leads_13 ?_
        refine xr_icmp_eq (a := ab) (b := (-1)) (tgt := 37) hx hb dX2_leads_14 (by decide) (fun c_2 => ?_) (fun c_2 => ?_) (by omega) (by omega)
        · skip
          -- 14 t
          refine xr_iconst hx hb dX2_leads_37 ?_
          refine W.zret (v := iI 0) hx hb hr (bz_nar (by omega)) (fun t ht9 hW => ⟨0, rfl, ?_, ht9⟩) t_nil dX2_leads_38
          refine bz_f ?_
          rintro ⟨n, hn, hu⟩
          by_cases e : n < st.toNat
          · exact i3 n e hu
          · first
            | omega
            | (have hz := up_end (g := F 23) (z := p0) (n := st.toNat) (by rw [← i1]; assumption) (n - st.toNat); rw [show st.toNat + (n - st.toNat) = n by omega] at hz; omega)
        · skip
          -- 14 f
          refine lv_iload_n hx hb dX2_leads_17 rfl (lv_at hl 0 rfl) ?_
          refine lv_iload_n hx hb dX2_leads_18 rfl (lv_at hl 3 rfl) ?_
          refine xr_icmp_ne (a := ab) (b := p1) (tgt := 24) hx hb dX2_leads_19 (by decide) (fun c_3 => ?_) (fun c_3 => ?_) (by omega) (by omega)
          · skip
            -- 19 t
            refine lv_aload_n hx hb dX2_leads_24 rfl (lv_at hl 2 rfl) ?_
            refine va_get (D := D) (cl := vwC) (ci := 3) (v := .ref (a 23)) (C := RX2) (T := TX2) (N := 2) hx hb hG.use i_X2 hown hK hP 5 rfl rfl 1 (by decide) (hG.use _ lf_X2_15) (fun _ h9 => h9) rfl dX2_leads_25 ?_
            refine lv_iload_n hx hb dX2_leads_28 rfl (lv_at hl 0 rfl) ?_
            refine xr_iald (f := F 23) (z := ab) hx hb hK hP 23 17 rfl rfl (by omega) (by omega) (by decide) dX2_leads_29 ?_
            have f_4 := hp ab (by omega) (by omega)
            refine lv_istore_n (lv' := [(3, .int (iI ((F 23) ab))), (4, .int (iI st)), (0, .ref (a 5)), (2, .int (iI p1))]) hx hb dX2_leads_30 rfl hl (by decide) rfl (fun ls hl => ?_)
            refine xr_iinc (z := st) (lv' := [(4, .int (iI (st + 1))), (3, .int (iI ((F 23) ab))), (0, .ref (a 5)), (2, .int (iI p1))]) hx hb dX2_leads_31 hl (k := 1) rfl (by decide) rfl (fun ls hl => ?_)
            refine lv_goto (tgt := 5) hx hb dX2_leads_34 (by decide) ?_
            exact ih_5 ((F 23) ab) (st + 1) (by omega) (by omega) (by rw [show (st + 1).toNat = st.toNat + 1 by omega, up_go (by rw [← i1]; assumption), ← i1]) (by omega) (by intro n hn; by_cases e : n = st.toNat; (rw [e, ← i1]; assumption); exact i3 n (by omega)) ls (lv_sub hl [1, 0, 2, 3] rfl)
          · skip
            -- 19 f
            refine xr_iconst hx hb dX2_leads_22 ?_
            exact W.zret (v := iI 1) hx hb hr (bz_nar (by omega)) (fun t ht9 hW => ⟨1, rfl, (by exact bz_t ⟨st.toNat, by omega, by rw [← i1]; assumption⟩), ht9⟩) t_nil dX2_leads_23
  exact lp_5 _ p0 0 (Nat.lt_succ_self _) (by omega) (by rfl) (by omega) (by intro n hn; exact absurd hn (by omega)) ls (lv_sub hl [1, 0, 2, 4] rfl)
set_option maxHeartbeats 4000000 in
set_option maxRecDepth 100000 in
theorem c_X2_endFrom (l : Launch) (D : va_G) (a : Nat → Nat) (k : Nat → ClassId) (I : Nat → Int) (F : Nat → Int → Int) (p0 : Int) (h0 : 0 ≤ p0 ∧ p0 < 30) (hp : ∀ f, 0 ≤ f → f < 30 → (F 22 f = 0 ∨ F 22 f = 1) ∧ (-1 ≤ F 23 f ∧ F 23 f < 30)) : ro_M l yX2_endFrom cX2_endFrom 4 (some .int) 0 [.ref (a 5), .int (iI p0)] D (xT k) (xW a k I F) (fun r => (bc (F 22) (F 23) p0 30 = p0 ∧ r = -1) ∨ (bc (F 22) (F 23) p0 30 ≠ p0 ∧ r = bc (F 22) (F 23) p0 30)) := by
  refine me_start (by decide) (Nat.le_of_ble_eq_true rfl) rfl ?_
  intro p e s m below meth c hx hb hml hr hown hlocks hnm hG hK hP ls hl
  have hown : s.vm.findClass RX2 = some m.cls := hown
  have hl : lv_has ls 4 [(0, .ref (a 5)), (1, .int (iI p0))] := hl
  refine lv_iload_n hx hb dX2_endFrom_0 rfl (lv_at hl 1 rfl) ?_
  refine lv_istore_n (lv' := [(2, .int (iI p0)), (0, .ref (a 5)), (1, .int (iI p0))]) hx hb dX2_endFrom_1 rfl hl (by decide) rfl (fun ls hl => ?_)
  refine xr_iconst hx hb dX2_endFrom_2 ?_
  refine lv_istore_n (lv' := [(3, .int (iI 0)), (2, .int (iI p0)), (0, .ref (a 5)), (1, .int (iI p0))]) hx hb dX2_endFrom_3 rfl hl (by decide) rfl (fun ls hl => ?_)
  have lp_4 : ∀ (nz : Nat) (en : Int) (st : Int), (30 - st).toNat < nz → (0 ≤ st ∧ st ≤ 30) → (en = bc (F 22) (F 23) p0 st.toNat) → (0 ≤ en ∧ en < 30) → ∀ ls : Array Slot, lv_has ls 4 [(2, .int (iI en)), (3, .int (iI st)), (0, .ref (a 5)), (1, .int (iI p0))] → W p l e (rmd 0) s m ([.ref (a 5), .int (iI p0)] : List Value).toArray below meth c s.heap [] 0 0 (MQ below (ro_Q (fun r => (bc (F 22) (F 23) p0 30 = p0 ∧ r = -1) ∨ (bc (F 22) (F 23) p0 30 ≠ p0 ∧ r = bc (F 22) (F 23) p0 30))) ([.ref (a 5), .int (iI p0)] : List Value).toArray s 0 0 (fun _ => False)) (F0 m 4 ls []) := by
    clear hl
    intro nz
    induction nz with
    | zero =>
      intro en st hn
      exact absurd hn (Nat.not_lt_zero _)
    | succ n_4 ih_4 =>
      intro en st hn_4 i0 i1 i2 ls hl
      have f_0 := hp en (by omega) (by omega)
      refine lv_iload_n hx hb dX2_endFrom_4 rfl (lv_at hl 1 rfl) ?_
      refine xr_bipush hx hb dX2_endFrom_5 (by decide +kernel) ?_
      refine xr_icmp_ge (a := st) (b := 30) (tgt := 42) hx hb dX2_endFrom_7 (by decide) (fun c_1 => ?_) (fun c_1 => ?_) (by omega) (by omega)
      · skip
        -- 7 t
        have hend : en = bc (F 22) (F 23) p0 30 := by
          first
          | (have e30 : st.toNat = 30 := by omega
             rw [i1, e30])
          | (have hb30 := bc_stay (od := F 22) (nx := F 23) (z := p0) (n := st.toNat) (by rw [← i1]; omega) (30 - st.toNat)
             rw [show st.toNat + (30 - st.toNat) = 30 by omega] at hb30
             rw [i1, hb30])
        refine lv_iload_n hx hb dX2_endFrom_42 rfl (lv_at hl 0 rfl) ?_
        refine lv_iload_n hx hb dX2_endFrom_43 rfl (lv_at hl 3 rfl) ?_
        refine xr_icmp_ne (a := en) (b := p0) (tgt := 51) hx hb dX2_endFrom_44 (by decide) (fun c_2 => ?_) (fun c_2 => ?_) (by omega) (by omega)
        · skip
          -- 44 t
          refine lv_iload_n hx hb dX2_endFrom_51 rfl (lv_at hl 0 rfl) ?_
          exact W.iret (v := iI en) hx hb hr (fun t ht9 hW => ⟨en, rfl, (by rw [← hend]; omega), ht9⟩) t_nil dX2_endFrom_52
        · skip
          -- 44 f
          refine xr_iconst hx hb dX2_endFrom_47 ?_
          refine lv_goto (tgt := 52) hx hb dX2_endFrom_48 (by decide) ?_
          exact W.iret (v := iI (-1)) hx hb hr (fun t ht9 hW => ⟨(-1), rfl, (by rw [← hend]; omega), ht9⟩) t_nil dX2_endFrom_52
      · skip
        -- 7 f
        refine lv_aload_n hx hb dX2_endFrom_10 rfl (lv_at hl 2 rfl) ?_
        refine va_get (D := D) (cl := vwC) (ci := 3) (v := .ref (a 22)) (C := RX2) (T := TX2) (N := 2) hx hb hG.use i_X2 hown hK hP 5 rfl rfl 0 (by decide) (hG.use _ lf_X2_9) (fun _ h9 => h9) rfl dX2_endFrom_11 ?_
        refine lv_iload_n hx hb dX2_endFrom_14 rfl (lv_at hl 0 rfl) ?_
        refine xr_zald (f := F 22) (z := en) hx hb hK hP 22 16 rfl rfl (by omega) (by omega) (by decide) dX2_endFrom_15 ?_
        refine xr_if_eq (a := (F 22) en) (tgt := 42) hx hb dX2_endFrom_16 (by decide) (fun c_3 => ?_) (fun c_3 => ?_) (by omega)
        · skip
          -- 16 t
          have hend : en = bc (F 22) (F 23) p0 30 := by
            first
            | (have e30 : st.toNat = 30 := by omega
               rw [i1, e30])
            | (have hb30 := bc_stay (od := F 22) (nx := F 23) (z := p0) (n := st.toNat) (by rw [← i1]; omega) (30 - st.toNat)
               rw [show st.toNat + (30 - st.toNat) = 30 by omega] at hb30
               rw [i1, hb30])
          refine lv_iload_n hx hb dX2_endFrom_42 rfl (lv_at hl 0 rfl) ?_
          refine lv_iload_n hx hb dX2_endFrom_43 rfl (lv_at hl 3 rfl) ?_
          refine xr_icmp_ne (a := en) (b := p0) (tgt := 51) hx hb dX2_endFrom_44 (by decide) (fun c_4 => ?_) (fun c_4 => ?_) (by omega) (by omega)
          · skip
            -- 44 t
            refine lv_iload_n hx hb dX2_endFrom_51 rfl (lv_at hl 0 rfl) ?_
            exact W.iret (v := iI en) hx hb hr (fun t ht9 hW => ⟨en, rfl, (by rw [← hend]; omega), ht9⟩) t_nil dX2_endFrom_52
          · skip
            -- 44 f
            refine xr_iconst hx hb dX2_endFrom_47 ?_
            refine lv_goto (tgt := 52) hx hb dX2_endFrom_48 (by decide) ?_
            exact W.iret (v := iI (-1)) hx hb hr (fun t ht9 hW => ⟨(-1), rfl, (by rw [← hend]; omega), ht9⟩) t_nil dX2_endFrom_52
        · skip
          -- 16 f
          refine lv_aload_n hx hb dX2_endFrom_19 rfl (lv_at hl 2 rfl) ?_
          refine va_get (D := D) (cl := vwC) (ci := 3) (v := .ref (a 23)) (C := RX2) (T := TX2) (N := 2) hx hb hG.use i_X2 hown hK hP 5 rfl rfl 1 (by decide) (hG.use _ lf_X2_15) (fun _ h9 => h9) rfl dX2_endFrom_20 ?_
          refine lv_iload_n hx hb dX2_endFrom_23 rfl (lv_at hl 0 rfl) ?_
          refine xr_iald (f := F 23) (z := en) hx hb hK hP 23 17 rfl rfl (by omega) (by omega) (by decide) dX2_endFrom_24 ?_
          refine xr_iconst hx hb dX2_endFrom_25 ?_
          refine xr_icmp_eq (a := (F 23) en) (b := (-1)) (tgt := 42) hx hb dX2_endFrom_26 (by decide) (fun c_5 => ?_) (fun c_5 => ?_) (by omega) (by omega)
          · skip
            -- 26 t
            have hend : en = bc (F 22) (F 23) p0 30 := by
              first
              | (have e30 : st.toNat = 30 := by omega
                 rw [i1, e30])
              | (have hb30 := bc_stay (od := F 22) (nx := F 23) (z := p0) (n := st.toNat) (by rw [← i1]; omega) (30 - st.toNat)
                 rw [show st.toNat + (30 - st.toNat) = 30 by omega] at hb30
                 rw [i1, hb30])
            refine lv_iload_n hx hb dX2_endFrom_42 rfl (lv_at hl 0 rfl) ?_
            refine lv_iload_n hx hb dX2_endFrom_43 rfl (lv_at hl 3 rfl) ?_
            refine xr_icmp_ne (a := en) (b := p0) (tgt := 51) hx hb dX2_endFrom_44 (by decide) (fun c_6 => ?_) (fun c_6 => ?_) (by omega) (by omega)
            · skip
              -- 44 t
              refine lv_iload_n hx hb dX2_endFrom_51 rfl (lv_at hl 0 rfl) ?_
              exact W.iret (v := iI en) hx hb hr (fun t ht9 hW => ⟨en, rfl, (by rw [← hend]; omega), ht9⟩) t_nil dX2_endFrom_52
            · skip
              -- 44 f
              refine xr_iconst hx hb dX2_endFrom_47 ?_
              refine lv_goto (tgt := 52) hx hb dX2_endFrom_48 (by decide) ?_
              exact W.iret (v := iI (-1)) hx hb hr (fun t ht9 hW => ⟨(-1), rfl, (by rw [← hend]; omega), ht9⟩) t_nil dX2_endFrom_52
          · skip
            -- 26 f
            refine lv_aload_n hx hb dX2_endFrom_29 rfl (lv_at hl 2 rfl) ?_
            refine va_get (D := D) (cl := vwC) (ci := 3) (v := .ref (a 23)) (C := RX2) (T := TX2) (N := 2) hx hb hG.use i_X2 hown hK hP 5 rfl rfl 1 (by decide) (hG.use _ lf_X2_15) (fun _ h9 => h9) rfl dX2_endFrom_30 ?_
            refine lv_iload_n hx hb dX2_endFrom_33 rfl (lv_at hl 0 rfl) ?_
            refine xr_iald (f := F 23) (z := en) hx hb hK hP 23 17 rfl rfl (by omega) (by omega) (by decide) dX2_endFrom_34 ?_
            refine lv_istore_n (lv' := [(2, .int (iI ((F 23) en))), (3, .int (iI st)), (0, .ref (a 5)), (1, .int (iI p0))]) hx hb dX2_endFrom_35 rfl hl (by decide) rfl (fun ls hl => ?_)
            refine xr_iinc (z := st) (lv' := [(3, .int (iI (st + 1))), (2, .int (iI ((F 23) en))), (0, .ref (a 5)), (1, .int (iI p0))]) hx hb dX2_endFrom_36 hl (k := 1) rfl (by decide) rfl (fun ls hl => ?_)
            refine lv_goto (tgt := 4) hx hb dX2_endFrom_39 (by decide) ?_
            exact ih_4 ((F 23) en) (st + 1) (by omega) (by omega) (by rw [show (st + 1).toNat = st.toNat + 1 by omega, bc_go (by rw [← i1]; omega) (by rw [← i1]; omega), ← i1]) (by omega) ls (lv_sub hl [1, 0, 2, 3] rfl)
  exact lp_4 _ p0 0 (Nat.lt_succ_self _) (by omega) (by rfl) (by omega) ls (lv_sub hl [1, 0, 2, 3] rfl)
set_option maxHeartbeats 4000000 in
set_option maxRecDepth 100000 in
theorem c_X0_targetOf (l : Launch) (D : va_G) (a : Nat → Nat) (k : Nat → ClassId) (I : Nat → Int) (F : Nat → Int → Int) (p0 p1 : Int) (h0 : 0 ≤ p0 ∧ p0 < 30) (h1 : -2147483648 ≤ p1 ∧ p1 < 2147483648) (h10 : 0 ≤ I 10 ∧ I 10 ≤ 20) (hc : ∀ i, 0 ≤ i → i < I 10 → (0 ≤ F 19 i ∧ F 19 i < 30) ∧ (0 ≤ F 20 i ∧ F 20 i < 30) ∧ (0 ≤ F 21 i ∧ F 21 i < 30)) : ro_M l yX0_targetOf cX0_targetOf 4 (some .int) 0 [.ref (a 4), .int (iI p0), .int (iI p1)] D (xT k) (xW a k I F) (fun r => r = tg (F 19) (F 20) (F 21) p0 (fun w => bt p1 w) (I 10).toNat) := by
  refine me_start (by decide) (Nat.le_of_ble_eq_true rfl) rfl ?_
  intro p e s m below meth c hx hb hml hr hown hlocks hnm hG hK hP ls hl
  have hown : s.vm.findClass RX0 = some m.cls := hown
  have hl : lv_has ls 4 [(0, .ref (a 4)), (1, .int (iI p0)), (2, .int (iI p1))] := hl
  refine lv_aload_n hx hb dX0_targetOf_0 rfl (lv_at hl 0 rfl) ?_
  refine va_get (D := D) (cl := vwC) (ci := 1) (v := .int (iI (I 10))) (C := RX0) (T := TX0) (N := 4) hx hb hG.use i_X0 hown hK hP 4 rfl rfl 0 (by decide) (hG.use _ lf_X0_9) (fun _ h9 => h9) rfl dX0_targetOf_1 ?_
  refine xr_iconst hx hb dX0_targetOf_4 ?_
  refine xr_isub (a := I 10) (b := 1) hx hb dX0_targetOf_5 ?_
  refine lv_istore_n (lv' := [(3, .int (iI ((I 10) - 1))), (0, .ref (a 4)), (1, .int (iI p0)), (2, .int (iI p1))]) hx hb dX0_targetOf_6 rfl hl (by decide) rfl (fun ls hl => ?_)
  have lp_7 : ∀ (nz : Nat) (i : Int), (i + 1).toNat < nz → (-1 ≤ i ∧ i < I 10) → (tg (F 19) (F 20) (F 21) p0 (fun w => bt p1 w) (I 10).toNat = tg (F 19) (F 20) (F 21) p0 (fun w => bt p1 w) (i + 1).toNat) → ∀ ls : Array Slot, lv_has ls 4 [(3, .int (iI i)), (0, .ref (a 4)), (1, .int (iI p0)), (2, .int (iI p1))] → W p l e (rmd 0) s m ([.ref (a 4), .int (iI p0), .int (iI p1)] : List Value).toArray below meth c s.heap [] 0 0 (MQ below (ro_Q (fun r => r = tg (F 19) (F 20) (F 21) p0 (fun w => bt p1 w) (I 10).toNat)) ([.ref (a 4), .int (iI p0), .int (iI p1)] : List Value).toArray s 0 0 (fun _ => False)) (F0 m 7 ls []) := by
    clear hl
    intro nz
    induction nz with
    | zero =>
      intro i hn
      exact absurd hn (Nat.not_lt_zero _)
    | succ n_7 ih_7 =>
      intro i hn_7 i0 i1 ls hl
      refine lv_iload_n hx hb dX0_targetOf_7 rfl (lv_at hl 0 rfl) ?_
      refine xr_if_lt (a := i) (tgt := 47) hx hb dX0_targetOf_8 (by decide) (fun c_1 => ?_) (fun c_1 => ?_) (by omega)
      · skip
        -- 8 t
        refine lv_iload_n hx hb dX0_targetOf_47 rfl (lv_at hl 2 rfl) ?_
        exact W.iret (v := iI p0) hx hb hr (fun t ht9 hW => ⟨p0, rfl, (by rw [i1, show (i + 1).toNat = 0 by omega]; rfl), ht9⟩) t_nil dX0_targetOf_48
      · skip
        -- 8 f
        have f_0 := hc i (by omega) (by omega)
        refine lv_aload_n hx hb dX0_targetOf_11 rfl (lv_at hl 1 rfl) ?_
        refine va_get (D := D) (cl := vwC) (ci := 1) (v := .ref (a 19)) (C := RX0) (T := TX0) (N := 4) hx hb hG.use i_X0 hown hK hP 4 rfl rfl 1 (by decide) (hG.use _ lf_X0_15) (fun _ h9 => h9) rfl dX0_targetOf_12 ?_
        refine lv_iload_n hx hb dX0_targetOf_15 rfl (lv_at hl 0 rfl) ?_
        refine xr_iald (f := F 19) (z := i) hx hb hK hP 19 13 rfl rfl (by omega) (by omega) (by decide) dX0_targetOf_16 ?_
        refine lv_iload_n hx hb dX0_targetOf_17 rfl (lv_at hl 2 rfl) ?_
        refine xr_icmp_ne (a := (F 19) i) (b := p0) (tgt := 41) hx hb dX0_targetOf_18 (by decide) (fun c_2 => ?_) (fun c_2 => ?_) (by omega) (by omega)
        · skip
          -- 18 t
          refine xr_iinc (z := i) (lv' := [(3, .int (iI (i + (-1)))), (0, .ref (a 4)), (1, .int (iI p0)), (2, .int (iI p1))]) hx hb dX0_targetOf_41 hl (k := 0) rfl (by decide) rfl (fun ls hl => ?_)
          refine lv_goto (tgt := 7) hx hb dX0_targetOf_44 (by decide) ?_
          exact ih_7 (i + (-1)) (by omega) (by omega) (by rw [i1, show (i + 1).toNat = i.toNat + 1 by omega, tg_f (by rw [show ((i.toNat : Nat) : Int) = i by omega]; first | omega | (intro hz; simp_all)), show (i + -1 + 1).toNat = i.toNat by omega]) ls (lv_sub hl [0, 1, 2, 3] rfl)
        · skip
          -- 18 f
          refine lv_iload_n hx hb dX0_targetOf_21 rfl (lv_at hl 3 rfl) ?_
          refine xr_iconst hx hb dX0_targetOf_22 ?_
          refine lv_aload_n hx hb dX0_targetOf_23 rfl (lv_at hl 1 rfl) ?_
          refine va_get (D := D) (cl := vwC) (ci := 1) (v := .ref (a 20)) (C := RX0) (T := TX0) (N := 4) hx hb hG.use i_X0 hown hK hP 4 rfl rfl 2 (by decide) (hG.use _ lf_X0_19) (fun _ h9 => h9) rfl dX0_targetOf_24 ?_
          refine lv_iload_n hx hb dX0_targetOf_27 rfl (lv_at hl 0 rfl) ?_
          refine xr_iald (f := F 20) (z := i) hx hb hK hP 20 14 rfl rfl (by omega) (by omega) (by decide) dX0_targetOf_28 ?_
          refine lv_ishl hx hb dX0_targetOf_29 ?_
          refine xr_mand (M := p1) (z := (F 20) i) hx hb dX0_targetOf_30 (fun v_3 hv_4 hw_5 => ?_)
          refine xr_if_eq (a := v_3) (tgt := 41) hx hb dX0_targetOf_31 (by decide) (fun c_6 => ?_) (fun c_6 => ?_) (by omega)
          · skip
            -- 31 t
            refine xr_iinc (z := i) (lv' := [(3, .int (iI (i + (-1)))), (0, .ref (a 4)), (1, .int (iI p0)), (2, .int (iI p1))]) hx hb dX0_targetOf_41 hl (k := 0) rfl (by decide) rfl (fun ls hl => ?_)
            refine lv_goto (tgt := 7) hx hb dX0_targetOf_44 (by decide) ?_
            exact ih_7 (i + (-1)) (by omega) (by omega) (by rw [i1, show (i + 1).toNat = i.toNat + 1 by omega, tg_f (by rw [show ((i.toNat : Nat) : Int) = i by omega]; first | omega | (intro hz; simp_all)), show (i + -1 + 1).toNat = i.toNat by omega]) ls (lv_sub hl [0, 1, 2, 3] rfl)
          · skip
            -- 31 f
            refine lv_aload_n hx hb dX0_targetOf_34 rfl (lv_at hl 1 rfl) ?_
            refine va_get (D := D) (cl := vwC) (ci := 1) (v := .ref (a 21)) (C := RX0) (T := TX0) (N := 4) hx hb hG.use i_X0 hown hK hP 4 rfl rfl 3 (by decide) (hG.use _ lf_X0_22) (fun _ h9 => h9) rfl dX0_targetOf_35 ?_
            refine lv_iload_n hx hb dX0_targetOf_38 rfl (lv_at hl 0 rfl) ?_
            refine xr_iald (f := F 21) (z := i) hx hb hK hP 21 15 rfl rfl (by omega) (by omega) (by decide) dX0_targetOf_39 ?_
            exact W.iret (v := iI ((F 21) i)) hx hb hr (fun t ht9 hW => ⟨(F 21) i, rfl, (by rw [i1, show (i + 1).toNat = i.toNat + 1 by omega, tg_t (by rw [show ((i.toNat : Nat) : Int) = i by omega]; omega) (by rw [show ((i.toNat : Nat) : Int) = i by omega]; exact Classical.byContradiction fun q => by simp_all), show ((i.toNat : Nat) : Int) = i by omega]), ht9⟩) t_nil dX0_targetOf_40
  exact lp_7 _ ((I 10) - 1) (Nat.lt_succ_self _) (by omega) (by rw [show I 10 - 1 + 1 = I 10 by omega]) ls (lv_sub hl [0, 1, 2, 3] rfl)
set_option maxHeartbeats 4000000 in
set_option maxRecDepth 100000 in
theorem c_X5_formatInSet (l : Launch) (D : va_G) (p0 p1 : Int) (h0 : -2147483648 ≤ p0 ∧ p0 < 2147483648) (h1 : -2147483648 ≤ p1 ∧ p1 < 2147483648) : ro_M l yX5_formatInSet cX5_formatInSet 4 (some .int) 0 [.int (iI p0), .int (iI p1)] D ([]) ([]) (fun r => ith (fun k => bt p0 k) 30 p1 r) := by
  refine me_start (by decide) (Nat.le_of_ble_eq_true rfl) rfl ?_
  intro p e s m below meth c hx hb hml hr hown hlocks hnm hG hK hP ls hl
  have hown : s.vm.findClass RX5 = some m.cls := hown
  have hl : lv_has ls 4 [(0, .int (iI p0)), (1, .int (iI p1))] := hl
  refine xr_iconst hx hb dX5_formatInSet_0 ?_
  refine lv_istore_n (lv' := [(2, .int (iI 0)), (0, .int (iI p0)), (1, .int (iI p1))]) hx hb dX5_formatInSet_1 rfl hl (by decide) rfl (fun ls hl => ?_)
  refine xr_iconst hx hb dX5_formatInSet_2 ?_
  refine lv_istore_n (lv' := [(3, .int (iI 0)), (2, .int (iI 0)), (0, .int (iI p0)), (1, .int (iI p1))]) hx hb dX5_formatInSet_3 rfl hl (by decide) rfl (fun ls hl => ?_)
  have lp_4 : ∀ (nz : Nat) (bf : Int) (fm : Int), (30 - fm).toNat < nz → (0 ≤ fm ∧ fm ≤ 30) → (bf = cnt (fun k => bt p0 k) fm.toNat) → (∀ j, 0 ≤ j → j < fm → bt p0 j → cnt (fun k => bt p0 k) j.toNat ≠ p1) → ∀ ls : Array Slot, lv_has ls 4 [(2, .int (iI bf)), (3, .int (iI fm)), (0, .int (iI p0)), (1, .int (iI p1))] → W p l e (rmd 0) s m ([.int (iI p0), .int (iI p1)] : List Value).toArray below meth c s.heap [] 0 0 (MQ below (ro_Q (fun r => ith (fun k => bt p0 k) 30 p1 r)) ([.int (iI p0), .int (iI p1)] : List Value).toArray s 0 0 (fun _ => False)) (F0 m 4 ls []) := by
    clear hl
    intro nz
    induction nz with
    | zero =>
      intro bf fm hn
      exact absurd hn (Nat.not_lt_zero _)
    | succ n_4 ih_4 =>
      intro bf fm hn_4 i0 i1 i2 ls hl
      have f_0 := cnt_in (fun k => bt p0 k) fm.toNat
      refine lv_iload_n hx hb dX5_formatInSet_4 rfl (lv_at hl 1 rfl) ?_
      refine xr_bipush hx hb dX5_formatInSet_5 (by decide +kernel) ?_
      refine xr_icmp_ge (a := fm) (b := 30) (tgt := 34) hx hb dX5_formatInSet_7 (by decide) (fun c_1 => ?_) (fun c_1 => ?_) (by omega) (by omega)
      · skip
        -- 7 t
        refine xr_iconst hx hb dX5_formatInSet_34 ?_
        exact W.iret (v := iI (-1)) hx hb hr (fun t ht9 hW => ⟨(-1), rfl, (by exact Or.inr ⟨rfl, fun j h0 h1 h2 => i2 j h0 (by omega) h2⟩), ht9⟩) t_nil dX5_formatInSet_35
      · skip
        -- 7 f
        refine lv_iload_n hx hb dX5_formatInSet_10 rfl (lv_at hl 2 rfl) ?_
        refine xr_iconst hx hb dX5_formatInSet_11 ?_
        refine lv_iload_n hx hb dX5_formatInSet_12 rfl (lv_at hl 1 rfl) ?_
        refine lv_ishl hx hb dX5_formatInSet_13 ?_
        refine xr_mand (M := p0) (z := fm) hx hb dX5_formatInSet_14 (fun v_2 hv_3 hw_4 => ?_)
        refine xr_if_eq (a := v_2) (tgt := 28) hx hb dX5_formatInSet_15 (by decide) (fun c_5 => ?_) (fun c_5 => ?_) (by omega)
        · skip
          -- 15 t
          refine xr_iinc (z := fm) (lv' := [(3, .int (iI (fm + 1))), (2, .int (iI bf)), (0, .int (iI p0)), (1, .int (iI p1))]) hx hb dX5_formatInSet_28 hl (k := 1) rfl (by decide) rfl (fun ls hl => ?_)
          refine lv_goto (tgt := 4) hx hb dX5_formatInSet_31 (by decide) ?_
          exact ih_4 bf (fm + 1) (by omega) (by omega) (by first | (rw [cnt_zt (P := fun k => bt p0 k) (by omega) (by exact Classical.byContradiction fun q => by simp_all), i1]; done) | (rw [cnt_zf (P := fun k => bt p0 k) (by omega) (by simp_all), i1]; done)) (by intro j h0 h1 h2; by_cases e : j = fm; (subst e; first | (rw [← i1]; omega) | (exfalso; simp_all)); exact i2 j h0 (by omega) h2) ls (lv_sub hl [1, 0, 2, 3] rfl)
        · skip
          -- 15 f
          refine lv_iload_n hx hb dX5_formatInSet_18 rfl (lv_at hl 0 rfl) ?_
          refine lv_iload_n hx hb dX5_formatInSet_19 rfl (lv_at hl 3 rfl) ?_
          refine xr_icmp_ne (a := bf) (b := p1) (tgt := 25) hx hb dX5_formatInSet_20 (by decide) (fun c_6 => ?_) (fun c_6 => ?_) (by omega) (by omega)
          · skip
            -- 20 t
            refine xr_iinc (z := bf) (lv' := [(2, .int (iI (bf + 1))), (3, .int (iI fm)), (0, .int (iI p0)), (1, .int (iI p1))]) hx hb dX5_formatInSet_25 hl (k := 0) rfl (by decide) rfl (fun ls hl => ?_)
            refine xr_iinc (z := fm) (lv' := [(3, .int (iI (fm + 1))), (2, .int (iI (bf + 1))), (0, .int (iI p0)), (1, .int (iI p1))]) hx hb dX5_formatInSet_28 hl (k := 1) rfl (by decide) rfl (fun ls hl => ?_)
            refine lv_goto (tgt := 4) hx hb dX5_formatInSet_31 (by decide) ?_
            exact ih_4 (bf + 1) (fm + 1) (by omega) (by omega) (by first | (rw [cnt_zt (P := fun k => bt p0 k) (by omega) (by exact Classical.byContradiction fun q => by simp_all), i1]; done) | (rw [cnt_zf (P := fun k => bt p0 k) (by omega) (by simp_all), i1]; done)) (by intro j h0 h1 h2; by_cases e : j = fm; (subst e; first | (rw [← i1]; omega) | (exfalso; simp_all)); exact i2 j h0 (by omega) h2) ls (lv_sub hl [1, 0, 2, 3] rfl)
          · skip
            -- 20 f
            refine lv_iload_n hx hb dX5_formatInSet_23 rfl (lv_at hl 1 rfl) ?_
            exact W.iret (v := iI fm) hx hb hr (fun t ht9 hW => ⟨fm, rfl, (by exact Or.inl ⟨by omega, by omega, Classical.byContradiction fun q => by simp_all, by rw [← i1]; omega⟩), ht9⟩) t_nil dX5_formatInSet_24
  exact lp_4 _ 0 0 (Nat.lt_succ_self _) (by omega) (by rfl) (by intro j h0 h1; omega) ls (lv_sub hl [1, 0, 2, 3] rfl)
set_option maxHeartbeats 4000000 in
set_option maxRecDepth 100000 in
theorem c_X5_fits (l : Launch) (D : va_G) (a : Nat → Nat) (k : Nat → ClassId) (I : Nat → Int) (F : Nat → Int → Int) (p0 p1 : Int) (hv : xInv I F) (h0 : 0 ≤ p0 ∧ p0 < I 8) (h1 : 0 ≤ p1 ∧ p1 < I 9) : ro_M l yX5_fits cX5_fits 8 (some .boolean) 1 [.ref (a 0), .int (iI p0), .int (iI p1)] D (xT k) (xW a k I F) (fun r => bz (xfit F p0 p1) r) := by
  refine me_start (by decide) (Nat.le_of_ble_eq_true rfl) rfl ?_
  intro p e s m below meth c hx hb hml hr hown hlocks hnm hG hK hP ls hl
  have hown : s.vm.findClass RX5 = some m.cls := hown
  have hl : lv_has ls 8 [(0, .ref (a 0)), (1, .int (iI p0)), (2, .int (iI p1))] := hl
  have f_n := hv.n
  have f_rw := hv.rw p0 (by omega) (by omega)
  have f_fl := hv.fl p1 (by omega) (by omega)
  refine lv_aload_n hx hb dX5_fits_0 rfl (lv_at hl 0 rfl) ?_
  refine va_get (D := D) (cl := vwC) (ci := 6) (v := .ref (a 3)) (C := RX5) (T := TX5) (N := 7) hx hb hG.use i_X5 hown hK hP 0 rfl rfl 2 (by decide) (hG.use _ lf_X5_26) (fun _ h9 => h9) rfl dX5_fits_1 ?_
  refine va_getN (host := "FormatRows") (D := D) (cl := vwC) (ci := 2) (v := .ref (a 15)) (C := RX1) (T := TX1) (N := 5) hx hb hG.use i_X1 hown hK hP 3 rfl rfl 1 (by decide) (hG.use _ lf_X5_159) (fun _ h9 => h9) rfl dX5_fits_4 ?_
  refine lv_iload_n hx hb dX5_fits_7 rfl (lv_at hl 2 rfl) ?_
  refine xr_iald (f := F 15) (z := p1) hx hb hK hP 15 9 rfl rfl (by omega) (by omega) (by decide) dX5_fits_8 ?_
  refine lv_istore_n (lv' := [(3, .int (iI ((F 15) p1))), (0, .ref (a 0)), (1, .int (iI p0)), (2, .int (iI p1))]) hx hb dX5_fits_9 rfl hl (by decide) rfl (fun ls hl => ?_)
  refine lv_aload_n hx hb dX5_fits_10 rfl (lv_at hl 1 rfl) ?_
  refine va_get (D := D) (cl := vwC) (ci := 6) (v := .ref (a 2)) (C := RX5) (T := TX5) (N := 7) hx hb hG.use i_X5 hown hK hP 0 rfl rfl 1 (by decide) (hG.use _ lf_X5_19) (fun _ h9 => h9) rfl dX5_fits_11 ?_
  refine va_getN (host := "FormatRows") (D := D) (cl := vwC) (ci := 5) (v := .ref (a 13)) (C := RX4) (T := TX4) (N := 7) hx hb hG.use i_X4 hown hK hP 2 rfl rfl 5 (by decide) (hG.use _ lf_X5_146) (fun _ h9 => h9) rfl dX5_fits_14 ?_
  refine lv_iload_n hx hb dX5_fits_17 rfl (lv_at hl 2 rfl) ?_
  refine xr_iald (f := F 13) (z := p0) hx hb hK hP 13 7 rfl rfl (by omega) (by omega) (by decide) dX5_fits_18 ?_
  refine lv_istore (lv' := [(4, .int (iI ((F 13) p0))), (3, .int (iI ((F 15) p1))), (0, .ref (a 0)), (1, .int (iI p0)), (2, .int (iI p1))]) hx hb dX5_fits_19 hl (by decide) rfl (fun ls hl => ?_)
  refine lv_aload_n hx hb dX5_fits_21 rfl (lv_at hl 2 rfl) ?_
  refine va_get (D := D) (cl := vwC) (ci := 6) (v := .ref (a 2)) (C := RX5) (T := TX5) (N := 7) hx hb hG.use i_X5 hown hK hP 0 rfl rfl 1 (by decide) (hG.use _ lf_X5_19) (fun _ h9 => h9) rfl dX5_fits_22 ?_
  refine lv_iload_n hx hb dX5_fits_25 rfl (lv_at hl 3 rfl) ?_
  refine lv_iload_n hx hb dX5_fits_26 rfl (lv_at hl 1 rfl) ?_
  refine ro_call (g_runV (rest := []) hx hb hml hown hG hK hP mV_X4_startIn (c_X4_startIn l D a k I F p0 ((F 15) p1) (by omega) (by omega)) lk_X5_168 (va_recv hK hP (ci := 5) (q0 := 2) rfl rfl) rfl hl.1 rfl (Nat.le_of_ble_eq_true rfl) ⟨(Nat.le_of_ble_eq_true rfl), (Nat.le_of_ble_eq_true rfl)⟩ ⟨(Nat.le_of_ble_eq_true rfl), (Nat.le_of_ble_eq_true rfl)⟩ dX5_fits_27) (fun r_1 q_2 => ?_)
  have est : r_1 = (if F 11 p0 = 1 then F 15 p1 - F 12 p0 else F 12 p0) := by
    rcases q_2 with ⟨h, e⟩ | ⟨h, e⟩
    · rw [e, if_pos h]
    · rw [e, if_neg (by omega)]
  have hF : xfit F p0 p1 ↔ (0 ≤ r_1 ∧ r_1 + F 13 p0 ≤ F 15 p1 ∧ ∀ j : Int, 0 ≤ j → j < F 13 p0 → F 14 (p0 * 12 + j) = 256 ∨ F 14 (p0 * 12 + j) = F 16 (p1 * 60 + (r_1 + j))) := by
    unfold xfit fitP
    rw [← est]
  have hrr : -1000 ≤ r_1 ∧ r_1 < 1000 := by omega
  refine lv_istore (lv' := [(5, .int (iI r_1)), (4, .int (iI ((F 13) p0))), (3, .int (iI ((F 15) p1))), (0, .ref (a 0)), (1, .int (iI p0)), (2, .int (iI p1))]) hx hb dX5_fits_30 hl (by decide) rfl (fun ls hl => ?_)
  refine lv_iload hx hb dX5_fits_32 (lv_at hl 0 rfl) ?_
  refine xr_if_lt (a := r_1) (tgt := 46) hx hb dX5_fits_34 (by decide) (fun c_3 => ?_) (fun c_3 => ?_) (by omega)
  · skip
    -- 34 t
    refine xr_iconst hx hb dX5_fits_46 ?_
    exact W.zret (v := iI 0) hx hb hr (bz_nar (by omega)) (fun t ht9 hW => ⟨0, rfl, (by exact bz_f (fun h => by have h2 := hF.mp h; omega)), ht9⟩) t_nil dX5_fits_47
  · skip
    -- 34 f
    refine lv_iload hx hb dX5_fits_37 (lv_at hl 0 rfl) ?_
    refine lv_iload hx hb dX5_fits_39 (lv_at hl 1 rfl) ?_
    refine xr_iadd (a := r_1) (b := (F 13) p0) hx hb dX5_fits_41 ?_
    refine lv_iload_n hx hb dX5_fits_42 rfl (lv_at hl 2 rfl) ?_
    refine xr_icmp_le (a := r_1 + ((F 13) p0)) (b := (F 15) p1) (tgt := 48) hx hb dX5_fits_43 (by decide) (fun c_4 => ?_) (fun c_4 => ?_) (by omega) (by omega)
    · skip
      -- 43 t
      refine xr_iconst hx hb dX5_fits_48 ?_
      refine lv_istore (lv' := [(6, .int (iI 0)), (5, .int (iI r_1)), (4, .int (iI ((F 13) p0))), (3, .int (iI ((F 15) p1))), (0, .ref (a 0)), (1, .int (iI p0)), (2, .int (iI p1))]) hx hb dX5_fits_49 hl (by decide) rfl (fun ls hl => ?_)
      have lp_51 : ∀ (nz : Nat) (ki : Int), (F 13 p0 - ki).toNat < nz → (0 ≤ ki ∧ ki ≤ F 13 p0) → (∀ j : Int, 0 ≤ j → j < ki → F 14 (p0 * 12 + j) = 256 ∨ F 14 (p0 * 12 + j) = F 16 (p1 * 60 + (r_1 + j))) → ∀ ls : Array Slot, lv_has ls 8 [(6, .int (iI ki)), (0, .ref (a 0)), (1, .int (iI p0)), (2, .int (iI p1)), (3, .int (iI ((F 15) p1))), (4, .int (iI ((F 13) p0))), (5, .int (iI r_1))] → W p l e (rmd 1) s m ([.ref (a 0), .int (iI p0), .int (iI p1)] : List Value).toArray below meth c s.heap [] 0 0 (MQ below (ro_Q (fun r => bz (xfit F p0 p1) r)) ([.ref (a 0), .int (iI p0), .int (iI p1)] : List Value).toArray s 0 0 (fun _ => False)) (F0 m 51 ls []) := by
        clear hl
        intro nz
        induction nz with
        | zero =>
          intro ki hn
          exact absurd hn (Nat.not_lt_zero _)
        | succ n_51 ih_51 =>
          intro ki hn_51 i0 i1 ls hl
          refine lv_iload hx hb dX5_fits_51 (lv_at hl 0 rfl) ?_
          refine lv_iload hx hb dX5_fits_53 (lv_at hl 5 rfl) ?_
          refine xr_icmp_ge (a := ki) (b := (F 13) p0) (tgt := 104) hx hb dX5_fits_55 (by decide) (fun c_5 => ?_) (fun c_5 => ?_) (by omega) (by omega)
          · skip
            -- 55 t
            refine xr_iconst hx hb dX5_fits_104 ?_
            exact W.zret (v := iI 1) hx hb hr (bz_nar (by omega)) (fun t ht9 hW => ⟨1, rfl, (by exact bz_t (hF.mpr ⟨by omega, by omega, fun j j0 j1 => i1 j j0 (by omega)⟩)), ht9⟩) t_nil dX5_fits_105
          · skip
            -- 55 f
            refine lv_aload_n hx hb dX5_fits_58 rfl (lv_at hl 1 rfl) ?_
            refine va_get (D := D) (cl := vwC) (ci := 6) (v := .ref (a 2)) (C := RX5) (T := TX5) (N := 7) hx hb hG.use i_X5 hown hK hP 0 rfl rfl 1 (by decide) (hG.use _ lf_X5_19) (fun _ h9 => h9) rfl dX5_fits_59 ?_
            refine lv_iload_n hx hb dX5_fits_62 rfl (lv_at hl 2 rfl) ?_
            refine lv_iload hx hb dX5_fits_63 (lv_at hl 0 rfl) ?_
            refine ro_call (g_runV (rest := []) hx hb hml hown hG hK hP mV_X4_placeAt (c_X4_placeAt l D a k I F p0 ki (by omega) (by omega)) lk_X5_151 (va_recv hK hP (ci := 5) (q0 := 2) rfl rfl) rfl hl.1 rfl (Nat.le_of_ble_eq_true rfl) ⟨(Nat.le_of_ble_eq_true rfl), (Nat.le_of_ble_eq_true rfl)⟩ ⟨(Nat.le_of_ble_eq_true rfl), (Nat.le_of_ble_eq_true rfl)⟩ dX5_fits_65) (fun r_6 q_7 => ?_)
            have f_pt := hv.pt p0 ki (by omega) (by omega) (by omega) (by omega)
            refine lv_istore (lv' := [(7, .int (iI r_6)), (6, .int (iI ki)), (0, .ref (a 0)), (1, .int (iI p0)), (2, .int (iI p1)), (3, .int (iI ((F 15) p1))), (4, .int (iI ((F 13) p0))), (5, .int (iI r_1))]) hx hb dX5_fits_68 hl (by decide) rfl (fun ls hl => ?_)
            refine lv_iload hx hb dX5_fits_70 (lv_at hl 0 rfl) ?_
            refine xr_sipush hx hb dX5_fits_72 (by decide +kernel) ?_
            refine xr_icmp_eq (a := r_6) (b := 256) (tgt := 98) hx hb dX5_fits_75 (by decide) (fun c_8 => ?_) (fun c_8 => ?_) (by omega) (by omega)
            · skip
              -- 75 t
              refine xr_iinc (z := ki) (lv' := [(6, .int (iI (ki + 1))), (7, .int (iI r_6)), (0, .ref (a 0)), (1, .int (iI p0)), (2, .int (iI p1)), (3, .int (iI ((F 15) p1))), (4, .int (iI ((F 13) p0))), (5, .int (iI r_1))]) hx hb dX5_fits_98 hl (k := 1) rfl (by decide) rfl (fun ls hl => ?_)
              refine lv_goto (tgt := 51) hx hb dX5_fits_101 (by decide) ?_
              exact ih_51 (ki + 1) (by omega) (by omega) (by intro j j0 j1; by_cases e : j = ki; (subst e; omega); exact i1 j j0 (by omega)) ls (lv_sub hl [0, 2, 3, 4, 5, 6, 7] rfl)
            · skip
              -- 75 f
              refine lv_iload hx hb dX5_fits_78 (lv_at hl 0 rfl) ?_
              refine lv_aload_n hx hb dX5_fits_80 rfl (lv_at hl 2 rfl) ?_
              refine va_get (D := D) (cl := vwC) (ci := 6) (v := .ref (a 3)) (C := RX5) (T := TX5) (N := 7) hx hb hG.use i_X5 hown hK hP 0 rfl rfl 2 (by decide) (hG.use _ lf_X5_26) (fun _ h9 => h9) rfl dX5_fits_81 ?_
              refine lv_iload_n hx hb dX5_fits_84 rfl (lv_at hl 4 rfl) ?_
              refine lv_iload hx hb dX5_fits_85 (lv_at hl 7 rfl) ?_
              refine lv_iload hx hb dX5_fits_87 (lv_at hl 1 rfl) ?_
              refine xr_iadd (a := r_1) (b := ki) hx hb dX5_fits_89 ?_
              refine ro_call (g_runV (rest := [.int (iI r_6)]) hx hb hml hown hG hK hP mV_X1_byteAt (c_X1_byteAt l D a k I F p1 (r_1 + ki) (by omega) (by omega)) lk_X5_171 (va_recv hK hP (ci := 2) (q0 := 3) rfl rfl) rfl hl.1 rfl (Nat.le_of_ble_eq_true rfl) ⟨(Nat.le_of_ble_eq_true rfl), (Nat.le_of_ble_eq_true rfl)⟩ ⟨(Nat.le_of_ble_eq_true rfl), (Nat.le_of_ble_eq_true rfl)⟩ dX5_fits_90) (fun r_9 q_10 => ?_)
              have f_by := hv.byt p1 (r_1 + ki) (by omega) (by omega) (by omega) (by omega)
              refine xr_icmp_eq (a := r_6) (b := r_9) (tgt := 98) hx hb dX5_fits_93 (by decide) (fun c_11 => ?_) (fun c_11 => ?_) (by omega) (by omega)
              · skip
                -- 93 t
                refine xr_iinc (z := ki) (lv' := [(6, .int (iI (ki + 1))), (7, .int (iI r_6)), (0, .ref (a 0)), (1, .int (iI p0)), (2, .int (iI p1)), (3, .int (iI ((F 15) p1))), (4, .int (iI ((F 13) p0))), (5, .int (iI r_1))]) hx hb dX5_fits_98 hl (k := 1) rfl (by decide) rfl (fun ls hl => ?_)
                refine lv_goto (tgt := 51) hx hb dX5_fits_101 (by decide) ?_
                exact ih_51 (ki + 1) (by omega) (by omega) (by intro j j0 j1; by_cases e : j = ki; (subst e; omega); exact i1 j j0 (by omega)) ls (lv_sub hl [0, 2, 3, 4, 5, 6, 7] rfl)
              · skip
                -- 93 f
                refine xr_iconst hx hb dX5_fits_96 ?_
                exact W.zret (v := iI 0) hx hb hr (bz_nar (by omega)) (fun t ht9 hW => ⟨0, rfl, (by exact bz_f (fun h => by have h2 := (hF.mp h).2.2 ki (by omega) (by omega); omega)), ht9⟩) t_nil dX5_fits_97
      exact lp_51 _ 0 (Nat.lt_succ_self _) (by omega) (by intro j j0 j1; omega) ls (lv_sub hl [0, 4, 5, 6, 3, 2, 1] rfl)
    · skip
      -- 43 f
      refine xr_iconst hx hb dX5_fits_46 ?_
      exact W.zret (v := iI 0) hx hb hr (bz_nar (by omega)) (fun t ht9 hW => ⟨0, rfl, (by exact bz_f (fun h => by have h2 := hF.mp h; omega)), ht9⟩) t_nil dX5_fits_47
