/-- what a right row says -/
def rowR (T : Int → Int) (n f r q o c : Int) (g : Int → Int) : Prop := f = nv T 0 (rl T n 0).toNat ∧ r = nv T (hq1 T n + 1) (rl T n (hq1 T n + 1)).toNat ∧ ((lk T n (hq2 T n + 1) = 45 ∧ q = 1) ∨ (lk T n (hq2 T n + 1) = 64 ∧ q = 0)) ∧ o = nv T (hq2 T n + 2) (rl T n (hq2 T n + 2)).toNat ∧ c = (rdA T n).2.2 ∧ (1 ≤ c ∧ c ≤ 12) ∧ ((0 ≤ f ∧ f < 30) ∧ (0 ≤ r ∧ r < 10) ∧ (0 ≤ o ∧ o < 1000)) ∧ ∀ j, 0 ≤ j → j < c → g j = pV T n (hq3 T n + 1 + 2 * j) ∧ 0 ≤ g j ∧ g j ≤ 256
theorem hq1_in {T : Int → Int} {n : Int} (h : 0 ≤ n) : 0 ≤ hq1 T n ∧ hq1 T n ≤ n := by
  have := rl_in (T := T) (n := n) (i := 0) (by omega) h
  unfold hq1
  omega
theorem hq2_in {T : Int → Int} {n : Int} (h : 0 ≤ n) (h1 : hq1 T n < n) : 0 ≤ hq2 T n ∧ hq2 T n ≤ n := by
  have h0 := hq1_in (T := T) h
  have := rl_in (T := T) (n := n) (i := hq1 T n + 1) (by omega) (by omega)
  unfold hq2
  omega
theorem hq3_in {T : Int → Int} {n : Int} (h : 0 ≤ n) (h1 : hq1 T n < n) (h2 : hq2 T n + 1 < n) : 0 ≤ hq3 T n ∧ hq3 T n ≤ n := by
  have h0 := hq2_in (T := T) h h1
  have := rl_in (T := T) (n := n) (i := hq2 T n + 2) (by omega) (by omega)
  unfold hq3
  omega
set_option maxHeartbeats 4000000 in
set_option maxRecDepth 100000 in
theorem c_X3_read (l : Launch) (D : va_G) (a : Nat → Nat) (k : Nat → ClassId) (I : Nat → Int) (F : Nat → Int → Int) (hdis : dis 24 a) (n : Int) (e1 : I 1 = n) (ht : txt (F 7) n) : mu_M (S := (Nat → Int) × (Nat → Int → Int)) l yX3_read cX3_read 1 (some .boolean) 4 [.ref (a 1)] D (xT k) (xW a k I F) (fun u => xW a k u.1 u.2) (fun r u => ∃ (i2 i3 i4 i5 i6 i7 : Int) (g : Int → Int), u = (uI (uI (uI (uI (uI (uI I 2 i2) 3 i3) 4 i4) 5 i5) 6 i6) 7 i7, uF F 8 g) ∧ (rdA (F 7) n).1 = r ∧ (rdA (F 7) n).2.1 = i2 ∧ (r = 0 ∨ r = 1) ∧ (r = 1 → rowR (F 7) n i3 i4 i5 i6 i7 g)) (adr 24 a) := by
  refine me_start (by decide) (Nat.le_of_ble_eq_true rfl) rfl ?_
  intro p e s m below meth c hx hb hml hr hown hlocks hnm hG hK hP ls hl
  have hown : s.vm.findClass RX3 = some m.cls := hown
  have hl : lv_has ls 1 [(0, .ref (a 1))] := hl
  have hS : va_S (adr 24 a) s.heap s.heap [] := va_S.rf
  have hn60 : 0 ≤ I 1 ∧ I 1 ≤ 60 := by rw [e1]; exact ht.1
  refine lv_aload_n hx hb dX3_read_0 rfl (lv_at hl 0 rfl) ?_
  refine xr_iconst hx hb dX3_read_1 ?_
  refine va_put (D := D) (cl := vwC) (ci := 4) (v := .int (iI 0)) (ty := .int) (C := RX3) (T := TX3) (N := 9) hx hb hG.use i_X3 tyX3 tyX3_ok nmX3 hown hK hP (xD hdis) hS 1 rfl rfl 2 (by decide) (hG.use _ lf_X3_19) (fun _ h9 => h9) rfl (by decide +kernel) rfl rfl (Nat.le_of_ble_eq_true rfl) dX3_read_2 (fun H locs hP _ hS => ?_)
  have hP : va_P D vwC (xW a k (uI I 2 0) F) H := hP
  refine lv_aload_n hx hb dX3_read_5 rfl (lv_at hl 0 rfl) ?_
  refine mu_call (g_runV (rest := []) hx hb hml hown hG hK hP mV_X3_readFormat (c_X3_readFormat l D a k (uI I 2 0) F hdis n 0 e1 rfl ht (by omega)) lk_X3_41 (va_recv hK hP (ci := 4) (q0 := 1) rfl rfl) rfl hl.1 rfl (Nat.le_of_ble_eq_true rfl) ⟨(Nat.le_of_ble_eq_true rfl), (Nat.le_of_ble_eq_true rfl)⟩ ⟨(Nat.le_of_ble_eq_true rfl), (Nat.le_of_ble_eq_true rfl)⟩ dX3_read_6) hS (fun _ h => h) (fun r_1 u H locs q_2 hP _ _ hS => ?_)
  obtain ⟨I1, F1⟩ := u
  try dsimp only at q_2
  rcases q_2 with ⟨ho6, rfl, hu⟩ | ⟨ho6, rfl, hu⟩
  · skip
    cases hu
    rw [show (0 : Int) + rl (F 7) n 0 = hq1 (F 7) n by unfold hq1; omega] at hP
    have hP : va_P D vwC (xW a k (uI (uI (uI I 2 0) 2 (hq1 (F 7) n)) 3 (nv (F 7) 0 (rl (F 7) n 0).toNat)) F) H := hP
    have hk3 := nOk_in ho6 (by omega)
    have b3 := hq1_in (T := F 7) (n := n) (by omega)
    refine xr_if_eq (a := 1) (tgt := 58) hx hb dX3_read_9 (by decide) (fun c_3 => ?_) (fun c_3 => ?_) (by omega)
    · exact absurd c_3 (by omega)
    · skip
      -- 9 f
      refine lv_aload_n hx hb dX3_read_12 rfl (lv_at hl 0 rfl) ?_
      refine mu_call (g_runV (rest := []) hx hb hml hown hG hK hP mV_X3_readBlank (c_X3_readBlank l D a k (uI (uI (uI I 2 0) 2 (hq1 (F 7) n)) 3 (nv (F 7) 0 (rl (F 7) n 0).toNat)) F hdis n (hq1 (F 7) n) e1 rfl ht (by omega)) lk_X3_45 (va_recv hK hP (ci := 4) (q0 := 1) rfl rfl) rfl hl.1 rfl (Nat.le_of_ble_eq_true rfl) ⟨(Nat.le_of_ble_eq_true rfl), (Nat.le_of_ble_eq_true rfl)⟩ ⟨(Nat.le_of_ble_eq_true rfl), (Nat.le_of_ble_eq_true rfl)⟩ dX3_read_13) hS (fun _ h => h) (fun r_4 u H locs q_5 hP _ _ hS => ?_)
      obtain ⟨I2, F2⟩ := u
      try dsimp only at q_5
      rcases q_5 with ⟨ho13, rfl, hu⟩ | ⟨ho13, rfl, hu⟩
      · skip
        cases hu
        have hP : va_P D vwC (xW a k (uI (uI (uI (uI I 2 0) 2 (hq1 (F 7) n)) 3 (nv (F 7) 0 (rl (F 7) n 0).toNat)) 2 (hq1 (F 7) n + 1)) F) H := hP
        have lt13 := lk_lt (T := F 7) (n := n) (i := hq1 (F 7) n) (by omega)
        refine xr_if_eq (a := 1) (tgt := 58) hx hb dX3_read_16 (by decide) (fun c_6 => ?_) (fun c_6 => ?_) (by omega)
        · exact absurd c_6 (by omega)
        · skip
          -- 16 f
          refine lv_aload_n hx hb dX3_read_19 rfl (lv_at hl 0 rfl) ?_
          refine mu_call (g_runV (rest := []) hx hb hml hown hG hK hP mV_X3_readRank (c_X3_readRank l D a k (uI (uI (uI (uI I 2 0) 2 (hq1 (F 7) n)) 3 (nv (F 7) 0 (rl (F 7) n 0).toNat)) 2 (hq1 (F 7) n + 1)) F hdis n (hq1 (F 7) n + 1) e1 rfl ht (by omega)) lk_X3_48 (va_recv hK hP (ci := 4) (q0 := 1) rfl rfl) rfl hl.1 rfl (Nat.le_of_ble_eq_true rfl) ⟨(Nat.le_of_ble_eq_true rfl), (Nat.le_of_ble_eq_true rfl)⟩ ⟨(Nat.le_of_ble_eq_true rfl), (Nat.le_of_ble_eq_true rfl)⟩ dX3_read_20) hS (fun _ h => h) (fun r_7 u H locs q_8 hP _ _ hS => ?_)
          obtain ⟨I3, F3⟩ := u
          try dsimp only at q_8
          rcases q_8 with ⟨ho20, rfl, hu⟩ | ⟨ho20, rfl, hu⟩
          · skip
            cases hu
            rw [show hq1 (F 7) n + 1 + rl (F 7) n (hq1 (F 7) n + 1) = hq2 (F 7) n from rfl] at hP
            have hP : va_P D vwC (xW a k (uI (uI (uI (uI (uI (uI I 2 0) 2 (hq1 (F 7) n)) 3 (nv (F 7) 0 (rl (F 7) n 0).toNat)) 2 (hq1 (F 7) n + 1)) 2 (hq2 (F 7) n)) 4 (nv (F 7) (hq1 (F 7) n + 1) (rl (F 7) n (hq1 (F 7) n + 1)).toNat)) F) H := hP
            have hk4 := nOk_in ho20 (by omega)
            have b4 := hq2_in (T := F 7) (n := n) (by omega) (by omega)
            refine xr_if_eq (a := 1) (tgt := 58) hx hb dX3_read_23 (by decide) (fun c_9 => ?_) (fun c_9 => ?_) (by omega)
            · exact absurd c_9 (by omega)
            · skip
              -- 23 f
              refine lv_aload_n hx hb dX3_read_26 rfl (lv_at hl 0 rfl) ?_
              refine mu_call (g_runV (rest := []) hx hb hml hown hG hK hP mV_X3_readBlank (c_X3_readBlank l D a k (uI (uI (uI (uI (uI (uI I 2 0) 2 (hq1 (F 7) n)) 3 (nv (F 7) 0 (rl (F 7) n 0).toNat)) 2 (hq1 (F 7) n + 1)) 2 (hq2 (F 7) n)) 4 (nv (F 7) (hq1 (F 7) n + 1) (rl (F 7) n (hq1 (F 7) n + 1)).toNat)) F hdis n (hq2 (F 7) n) e1 rfl ht (by omega)) lk_X3_45 (va_recv hK hP (ci := 4) (q0 := 1) rfl rfl) rfl hl.1 rfl (Nat.le_of_ble_eq_true rfl) ⟨(Nat.le_of_ble_eq_true rfl), (Nat.le_of_ble_eq_true rfl)⟩ ⟨(Nat.le_of_ble_eq_true rfl), (Nat.le_of_ble_eq_true rfl)⟩ dX3_read_27) hS (fun _ h => h) (fun r_10 u H locs q_11 hP _ _ hS => ?_)
              obtain ⟨I4, F4⟩ := u
              try dsimp only at q_11
              rcases q_11 with ⟨ho27, rfl, hu⟩ | ⟨ho27, rfl, hu⟩
              · skip
                cases hu
                have hP : va_P D vwC (xW a k (uI (uI (uI (uI (uI (uI (uI I 2 0) 2 (hq1 (F 7) n)) 3 (nv (F 7) 0 (rl (F 7) n 0).toNat)) 2 (hq1 (F 7) n + 1)) 2 (hq2 (F 7) n)) 4 (nv (F 7) (hq1 (F 7) n + 1) (rl (F 7) n (hq1 (F 7) n + 1)).toNat)) 2 (hq2 (F 7) n + 1)) F) H := hP
                have lt27 := lk_lt (T := F 7) (n := n) (i := hq2 (F 7) n) (by omega)
                refine xr_if_eq (a := 1) (tgt := 58) hx hb dX3_read_30 (by decide) (fun c_12 => ?_) (fun c_12 => ?_) (by omega)
                · exact absurd c_12 (by omega)
                · skip
                  -- 30 f
                  refine lv_aload_n hx hb dX3_read_33 rfl (lv_at hl 0 rfl) ?_
                  refine mu_call (g_runV (rest := []) hx hb hml hown hG hK hP mV_X3_readOffset (c_X3_readOffset l D a k (uI (uI (uI (uI (uI (uI (uI I 2 0) 2 (hq1 (F 7) n)) 3 (nv (F 7) 0 (rl (F 7) n 0).toNat)) 2 (hq1 (F 7) n + 1)) 2 (hq2 (F 7) n)) 4 (nv (F 7) (hq1 (F 7) n + 1) (rl (F 7) n (hq1 (F 7) n + 1)).toNat)) 2 (hq2 (F 7) n + 1)) F hdis n (hq2 (F 7) n + 1) e1 rfl ht (by omega)) lk_X3_51 (va_recv hK hP (ci := 4) (q0 := 1) rfl rfl) rfl hl.1 rfl (Nat.le_of_ble_eq_true rfl) ⟨(Nat.le_of_ble_eq_true rfl), (Nat.le_of_ble_eq_true rfl)⟩ ⟨(Nat.le_of_ble_eq_true rfl), (Nat.le_of_ble_eq_true rfl)⟩ dX3_read_34) hS (fun _ h => h) (fun r_13 u H locs q_14 hP _ _ hS => ?_)
                  obtain ⟨I5, F5⟩ := u
                  try dsimp only at q_14
                  rcases q_14 with ⟨ho34, rfl, hu⟩ | ⟨fe, hfe, ⟨ho34, rfl, hu⟩ | ⟨ho34, rfl, hu⟩⟩
                  · skip
                    cases hu
                    have hP : va_P D vwC (xW a k (uI (uI (uI (uI (uI (uI (uI I 2 0) 2 (hq1 (F 7) n)) 3 (nv (F 7) 0 (rl (F 7) n 0).toNat)) 2 (hq1 (F 7) n + 1)) 2 (hq2 (F 7) n)) 4 (nv (F 7) (hq1 (F 7) n + 1) (rl (F 7) n (hq1 (F 7) n + 1)).toNat)) 2 (hq2 (F 7) n + 1)) F) H := hP
                    refine xr_if_eq (a := 0) (tgt := 58) hx hb dX3_read_37 (by decide) (fun c_15 => ?_) (fun c_15 => ?_) (by omega)
                    · skip
                      -- 37 t
                      refine xr_iconst hx hb dX3_read_58 ?_
                      exact W.zret (v := iI 0) hx hb hr (bz_nar (by omega)) (fun t ht9 hW => ⟨0, (uI (uI (uI (uI (uI (uI I 2 (hq2 (F 7) n + 1)) 3 (nv (F 7) 0 (rl (F 7) n 0).toNat)) 4 (nv (F 7) (hq1 (F 7) n + 1) (rl (F 7) n (hq1 (F 7) n + 1)).toNat)) 5 (I 5)) 6 (I 6)) 7 (I 7), uF F 8 (F 8)), rfl, (by first | (exfalso; omega) | (have hrd := rd_no (hd_1 ho6); exact ⟨hq2 (F 7) n + 1, nv (F 7) 0 (rl (F 7) n 0).toNat, nv (F 7) (hq1 (F 7) n + 1) (rl (F 7) n (hq1 (F 7) n + 1)).toNat, I 5, I 6, I 7, F 8, rfl, by rw [hrd], by rw [hrd], Or.inl rfl, fun hz => absurd hz (by decide)⟩) | (have hrd := rd_no (hd_2 ho6 ho13); exact ⟨hq2 (F 7) n + 1, nv (F 7) 0 (rl (F 7) n 0).toNat, nv (F 7) (hq1 (F 7) n + 1) (rl (F 7) n (hq1 (F 7) n + 1)).toNat, I 5, I 6, I 7, F 8, rfl, by rw [hrd], by rw [hrd], Or.inl rfl, fun hz => absurd hz (by decide)⟩) | (have hrd := rd_no (hd_3 ho6 ho13 ho20); exact ⟨hq2 (F 7) n + 1, nv (F 7) 0 (rl (F 7) n 0).toNat, nv (F 7) (hq1 (F 7) n + 1) (rl (F 7) n (hq1 (F 7) n + 1)).toNat, I 5, I 6, I 7, F 8, rfl, by rw [hrd], by rw [hrd], Or.inl rfl, fun hz => absurd hz (by decide)⟩) | (have hrd := rd_no (hd_4 ho6 ho13 ho20 ho27); exact ⟨hq2 (F 7) n + 1, nv (F 7) 0 (rl (F 7) n 0).toNat, nv (F 7) (hq1 (F 7) n + 1) (rl (F 7) n (hq1 (F 7) n + 1)).toNat, I 5, I 6, I 7, F 8, rfl, by rw [hrd], by rw [hrd], Or.inl rfl, fun hz => absurd hz (by decide)⟩) | (have hrd := rd_no (hd_5 ho6 ho13 ho20 ho27 ho34); exact ⟨hq2 (F 7) n + 1, nv (F 7) 0 (rl (F 7) n 0).toNat, nv (F 7) (hq1 (F 7) n + 1) (rl (F 7) n (hq1 (F 7) n + 1)).toNat, I 5, I 6, I 7, F 8, rfl, by rw [hrd], by rw [hrd], Or.inl rfl, fun hz => absurd hz (by decide)⟩) | (have hrd := rd_no (hd_6 ho6 ho13 ho20 ho27 (by omega) ho34); exact ⟨hq2 (F 7) n + 1, nv (F 7) 0 (rl (F 7) n 0).toNat, nv (F 7) (hq1 (F 7) n + 1) (rl (F 7) n (hq1 (F 7) n + 1)).toNat, I 5, I 6, I 7, F 8, rfl, by rw [hrd], by rw [hrd], Or.inl rfl, fun hz => absurd hz (by decide)⟩) | (have hrd := rd_no (hd_7 ho6 ho13 ho20 ho27 (by omega) ho34 ho41); exact ⟨hq2 (F 7) n + 1, nv (F 7) 0 (rl (F 7) n 0).toNat, nv (F 7) (hq1 (F 7) n + 1) (rl (F 7) n (hq1 (F 7) n + 1)).toNat, I 5, I 6, I 7, F 8, rfl, by rw [hrd], by rw [hrd], Or.inl rfl, fun hz => absurd hz (by decide)⟩) | (have hrd : rdA (F 7) n = (0, ia, ca) := (by rw [rd_go (hd_8 ho6 ho13 ho20 ho27 (by omega) ho34 ho41), hpl, show r = 0 by omega]); exact ⟨hq2 (F 7) n + 1, nv (F 7) 0 (rl (F 7) n 0).toNat, nv (F 7) (hq1 (F 7) n + 1) (rl (F 7) n (hq1 (F 7) n + 1)).toNat, I 5, I 6, I 7, F 8, rfl, by rw [hrd], by rw [hrd], Or.inl rfl, fun hz => absurd hz (by decide)⟩)), by rw [ht9]; exact hP, hS.F ht9⟩) hS.2.2 dX3_read_59
                    · exact absurd c_15 (by omega)
                  · skip
                    cases hu
                    rw [show hq2 (F 7) n + 1 + 1 = hq2 (F 7) n + 2 by omega] at hP ho34
                    rw [show hq2 (F 7) n + 2 + rl (F 7) n (hq2 (F 7) n + 2) = hq3 (F 7) n from rfl] at hP
                    have hP : va_P D vwC (xW a k (uI (uI (uI (uI (uI (uI (uI (uI (uI (uI (uI I 2 0) 2 (hq1 (F 7) n)) 3 (nv (F 7) 0 (rl (F 7) n 0).toNat)) 2 (hq1 (F 7) n + 1)) 2 (hq2 (F 7) n)) 4 (nv (F 7) (hq1 (F 7) n + 1) (rl (F 7) n (hq1 (F 7) n + 1)).toNat)) 2 (hq2 (F 7) n + 1)) 5 fe) 2 (hq2 (F 7) n + 2)) 2 (hq3 (F 7) n)) 6 (nv (F 7) (hq2 (F 7) n + 2) (rl (F 7) n (hq2 (F 7) n + 2)).toNat)) F) H := hP
                    have hk6 := nOk_in ho34 (by omega)
                    have lt34 := lk_lt (T := F 7) (n := n) (i := hq2 (F 7) n + 1) (by omega)
                    have b6 := hq3_in (T := F 7) (n := n) (by omega) (by omega) (by omega)
                    refine xr_if_eq (a := 1) (tgt := 58) hx hb dX3_read_37 (by decide) (fun c_16 => ?_) (fun c_16 => ?_) (by omega)
                    · exact absurd c_16 (by omega)
                    · skip
                      -- 37 f
                      refine lv_aload_n hx hb dX3_read_40 rfl (lv_at hl 0 rfl) ?_
                      refine mu_call (g_runV (rest := []) hx hb hml hown hG hK hP mV_X3_readBlank (c_X3_readBlank l D a k (uI (uI (uI (uI (uI (uI (uI (uI (uI (uI (uI I 2 0) 2 (hq1 (F 7) n)) 3 (nv (F 7) 0 (rl (F 7) n 0).toNat)) 2 (hq1 (F 7) n + 1)) 2 (hq2 (F 7) n)) 4 (nv (F 7) (hq1 (F 7) n + 1) (rl (F 7) n (hq1 (F 7) n + 1)).toNat)) 2 (hq2 (F 7) n + 1)) 5 fe) 2 (hq2 (F 7) n + 2)) 2 (hq3 (F 7) n)) 6 (nv (F 7) (hq2 (F 7) n + 2) (rl (F 7) n (hq2 (F 7) n + 2)).toNat)) F hdis n (hq3 (F 7) n) e1 rfl ht (by omega)) lk_X3_45 (va_recv hK hP (ci := 4) (q0 := 1) rfl rfl) rfl hl.1 rfl (Nat.le_of_ble_eq_true rfl) ⟨(Nat.le_of_ble_eq_true rfl), (Nat.le_of_ble_eq_true rfl)⟩ ⟨(Nat.le_of_ble_eq_true rfl), (Nat.le_of_ble_eq_true rfl)⟩ dX3_read_41) hS (fun _ h => h) (fun r_17 u H locs q_18 hP _ _ hS => ?_)
                      obtain ⟨I6, F6⟩ := u
                      try dsimp only at q_18
                      rcases q_18 with ⟨ho41, rfl, hu⟩ | ⟨ho41, rfl, hu⟩
                      · skip
                        cases hu
                        have hP : va_P D vwC (xW a k (uI (uI (uI (uI (uI (uI (uI (uI (uI (uI (uI (uI I 2 0) 2 (hq1 (F 7) n)) 3 (nv (F 7) 0 (rl (F 7) n 0).toNat)) 2 (hq1 (F 7) n + 1)) 2 (hq2 (F 7) n)) 4 (nv (F 7) (hq1 (F 7) n + 1) (rl (F 7) n (hq1 (F 7) n + 1)).toNat)) 2 (hq2 (F 7) n + 1)) 5 fe) 2 (hq2 (F 7) n + 2)) 2 (hq3 (F 7) n)) 6 (nv (F 7) (hq2 (F 7) n + 2) (rl (F 7) n (hq2 (F 7) n + 2)).toNat)) 2 (hq3 (F 7) n + 1)) F) H := hP
                        have lt41 := lk_lt (T := F 7) (n := n) (i := hq3 (F 7) n) (by omega)
                        refine xr_if_eq (a := 1) (tgt := 58) hx hb dX3_read_44 (by decide) (fun c_19 => ?_) (fun c_19 => ?_) (by omega)
                        · exact absurd c_19 (by omega)
                        · skip
                          -- 44 f
                          refine lv_aload_n hx hb dX3_read_47 rfl (lv_at hl 0 rfl) ?_
                          refine mu_call (g_runV (rest := []) hx hb hml hown hG hK hP mV_X3_readPlaces (c_X3_readPlaces l D a k (uI (uI (uI (uI (uI (uI (uI (uI (uI (uI (uI (uI I 2 0) 2 (hq1 (F 7) n)) 3 (nv (F 7) 0 (rl (F 7) n 0).toNat)) 2 (hq1 (F 7) n + 1)) 2 (hq2 (F 7) n)) 4 (nv (F 7) (hq1 (F 7) n + 1) (rl (F 7) n (hq1 (F 7) n + 1)).toNat)) 2 (hq2 (F 7) n + 1)) 5 fe) 2 (hq2 (F 7) n + 2)) 2 (hq3 (F 7) n)) 6 (nv (F 7) (hq2 (F 7) n + 2) (rl (F 7) n (hq2 (F 7) n + 2)).toNat)) 2 (hq3 (F 7) n + 1)) F hdis n (hq3 (F 7) n + 1) e1 rfl ht (by omega)) lk_X3_54 (va_recv hK hP (ci := 4) (q0 := 1) rfl rfl) rfl hl.1 rfl (Nat.le_of_ble_eq_true rfl) ⟨(Nat.le_of_ble_eq_true rfl), (Nat.le_of_ble_eq_true rfl)⟩ ⟨(Nat.le_of_ble_eq_true rfl), (Nat.le_of_ble_eq_true rfl)⟩ dX3_read_48) hS (fun _ h => h) (fun r_20 u H locs q_21 hP _ _ hS => ?_)
                          obtain ⟨I7, F7⟩ := u
                          try dsimp only at q_21
                          rcases q_21 with ⟨g, ca, ia, hpl, hu, hr01, hca, hca1, hg⟩
                          · skip
                            cases hu
                            have hP : va_P D vwC (xW a k (uI (uI (uI (uI (uI (uI (uI (uI (uI (uI (uI (uI (uI (uI I 2 0) 2 (hq1 (F 7) n)) 3 (nv (F 7) 0 (rl (F 7) n 0).toNat)) 2 (hq1 (F 7) n + 1)) 2 (hq2 (F 7) n)) 4 (nv (F 7) (hq1 (F 7) n + 1) (rl (F 7) n (hq1 (F 7) n + 1)).toNat)) 2 (hq2 (F 7) n + 1)) 5 fe) 2 (hq2 (F 7) n + 2)) 2 (hq3 (F 7) n)) 6 (nv (F 7) (hq2 (F 7) n + 2) (rl (F 7) n (hq2 (F 7) n + 2)).toNat)) 2 (hq3 (F 7) n + 1)) 7 ca) 2 ia) (uF F 8 g)) H := hP
                            refine xr_if_eq (a := r_20) (tgt := 58) hx hb dX3_read_51 (by decide) (fun c_22 => ?_) (fun c_22 => ?_) (by omega)
                            · skip
                              -- 51 t
                              refine xr_iconst hx hb dX3_read_58 ?_
                              exact W.zret (v := iI 0) hx hb hr (bz_nar (by omega)) (fun t ht9 hW => ⟨0, (uI (uI (uI (uI (uI (uI I 2 ia) 3 (nv (F 7) 0 (rl (F 7) n 0).toNat)) 4 (nv (F 7) (hq1 (F 7) n + 1) (rl (F 7) n (hq1 (F 7) n + 1)).toNat)) 5 fe) 6 (nv (F 7) (hq2 (F 7) n + 2) (rl (F 7) n (hq2 (F 7) n + 2)).toNat)) 7 ca, uF F 8 g), rfl, (by first | (exfalso; omega) | (have hrd := rd_no (hd_1 ho6); exact ⟨ia, nv (F 7) 0 (rl (F 7) n 0).toNat, nv (F 7) (hq1 (F 7) n + 1) (rl (F 7) n (hq1 (F 7) n + 1)).toNat, fe, nv (F 7) (hq2 (F 7) n + 2) (rl (F 7) n (hq2 (F 7) n + 2)).toNat, ca, g, rfl, by rw [hrd], by rw [hrd], Or.inl rfl, fun hz => absurd hz (by decide)⟩) | (have hrd := rd_no (hd_2 ho6 ho13); exact ⟨ia, nv (F 7) 0 (rl (F 7) n 0).toNat, nv (F 7) (hq1 (F 7) n + 1) (rl (F 7) n (hq1 (F 7) n + 1)).toNat, fe, nv (F 7) (hq2 (F 7) n + 2) (rl (F 7) n (hq2 (F 7) n + 2)).toNat, ca, g, rfl, by rw [hrd], by rw [hrd], Or.inl rfl, fun hz => absurd hz (by decide)⟩) | (have hrd := rd_no (hd_3 ho6 ho13 ho20); exact ⟨ia, nv (F 7) 0 (rl (F 7) n 0).toNat, nv (F 7) (hq1 (F 7) n + 1) (rl (F 7) n (hq1 (F 7) n + 1)).toNat, fe, nv (F 7) (hq2 (F 7) n + 2) (rl (F 7) n (hq2 (F 7) n + 2)).toNat, ca, g, rfl, by rw [hrd], by rw [hrd], Or.inl rfl, fun hz => absurd hz (by decide)⟩) | (have hrd := rd_no (hd_4 ho6 ho13 ho20 ho27); exact ⟨ia, nv (F 7) 0 (rl (F 7) n 0).toNat, nv (F 7) (hq1 (F 7) n + 1) (rl (F 7) n (hq1 (F 7) n + 1)).toNat, fe, nv (F 7) (hq2 (F 7) n + 2) (rl (F 7) n (hq2 (F 7) n + 2)).toNat, ca, g, rfl, by rw [hrd], by rw [hrd], Or.inl rfl, fun hz => absurd hz (by decide)⟩) | (have hrd := rd_no (hd_5 ho6 ho13 ho20 ho27 ho34); exact ⟨ia, nv (F 7) 0 (rl (F 7) n 0).toNat, nv (F 7) (hq1 (F 7) n + 1) (rl (F 7) n (hq1 (F 7) n + 1)).toNat, fe, nv (F 7) (hq2 (F 7) n + 2) (rl (F 7) n (hq2 (F 7) n + 2)).toNat, ca, g, rfl, by rw [hrd], by rw [hrd], Or.inl rfl, fun hz => absurd hz (by decide)⟩) | (have hrd := rd_no (hd_6 ho6 ho13 ho20 ho27 (by omega) ho34); exact ⟨ia, nv (F 7) 0 (rl (F 7) n 0).toNat, nv (F 7) (hq1 (F 7) n + 1) (rl (F 7) n (hq1 (F 7) n + 1)).toNat, fe, nv (F 7) (hq2 (F 7) n + 2) (rl (F 7) n (hq2 (F 7) n + 2)).toNat, ca, g, rfl, by rw [hrd], by rw [hrd], Or.inl rfl, fun hz => absurd hz (by decide)⟩) | (have hrd := rd_no (hd_7 ho6 ho13 ho20 ho27 (by omega) ho34 ho41); exact ⟨ia, nv (F 7) 0 (rl (F 7) n 0).toNat, nv (F 7) (hq1 (F 7) n + 1) (rl (F 7) n (hq1 (F 7) n + 1)).toNat, fe, nv (F 7) (hq2 (F 7) n + 2) (rl (F 7) n (hq2 (F 7) n + 2)).toNat, ca, g, rfl, by rw [hrd], by rw [hrd], Or.inl rfl, fun hz => absurd hz (by decide)⟩) | (have hrd : rdA (F 7) n = (0, ia, ca) := (by rw [rd_go (hd_8 ho6 ho13 ho20 ho27 (by omega) ho34 ho41), hpl, show r_20 = 0 by omega]); exact ⟨ia, nv (F 7) 0 (rl (F 7) n 0).toNat, nv (F 7) (hq1 (F 7) n + 1) (rl (F 7) n (hq1 (F 7) n + 1)).toNat, fe, nv (F 7) (hq2 (F 7) n + 2) (rl (F 7) n (hq2 (F 7) n + 2)).toNat, ca, g, rfl, by rw [hrd], by rw [hrd], Or.inl rfl, fun hz => absurd hz (by decide)⟩)), by rw [ht9]; exact hP, hS.F ht9⟩) hS.2.2 dX3_read_59
                            · skip
                              -- 51 f
                              refine xr_iconst hx hb dX3_read_54 ?_
                              refine lv_goto (tgt := 59) hx hb dX3_read_55 (by decide) ?_
                              exact W.zret (v := iI 1) hx hb hr (bz_nar (by omega)) (fun t ht9 hW => ⟨1, (uI (uI (uI (uI (uI (uI I 2 ia) 3 (nv (F 7) 0 (rl (F 7) n 0).toNat)) 4 (nv (F 7) (hq1 (F 7) n + 1) (rl (F 7) n (hq1 (F 7) n + 1)).toNat)) 5 fe) 6 (nv (F 7) (hq2 (F 7) n + 2) (rl (F 7) n (hq2 (F 7) n + 2)).toNat)) 7 ca, uF F 8 g), rfl, (by first | (exfalso; omega) | (have hrd : rdA (F 7) n = (1, ia, ca) := (by rw [rd_go (hd_8 ho6 ho13 ho20 ho27 (by omega) ho34 ho41), hpl, show r_20 = 1 by omega]); exact ⟨ia, nv (F 7) 0 (rl (F 7) n 0).toNat, nv (F 7) (hq1 (F 7) n + 1) (rl (F 7) n (hq1 (F 7) n + 1)).toNat, fe, nv (F 7) (hq2 (F 7) n + 2) (rl (F 7) n (hq2 (F 7) n + 2)).toNat, ca, g, rfl, by rw [hrd], by rw [hrd], Or.inr rfl, fun _ => ⟨rfl, rfl, by omega, rfl, by rw [hrd], by omega, ⟨by omega, by omega, by omega⟩, hg⟩⟩)), by rw [ht9]; exact hP, hS.F ht9⟩) hS.2.2 dX3_read_59
                      · skip
                        cases hu
                        have hP : va_P D vwC (xW a k (uI (uI (uI (uI (uI (uI (uI (uI (uI (uI (uI I 2 0) 2 (hq1 (F 7) n)) 3 (nv (F 7) 0 (rl (F 7) n 0).toNat)) 2 (hq1 (F 7) n + 1)) 2 (hq2 (F 7) n)) 4 (nv (F 7) (hq1 (F 7) n + 1) (rl (F 7) n (hq1 (F 7) n + 1)).toNat)) 2 (hq2 (F 7) n + 1)) 5 fe) 2 (hq2 (F 7) n + 2)) 2 (hq3 (F 7) n)) 6 (nv (F 7) (hq2 (F 7) n + 2) (rl (F 7) n (hq2 (F 7) n + 2)).toNat)) F) H := hP
                        refine xr_if_eq (a := 0) (tgt := 58) hx hb dX3_read_44 (by decide) (fun c_23 => ?_) (fun c_23 => ?_) (by omega)
                        · skip
                          -- 44 t
                          refine xr_iconst hx hb dX3_read_58 ?_
                          exact W.zret (v := iI 0) hx hb hr (bz_nar (by omega)) (fun t ht9 hW => ⟨0, (uI (uI (uI (uI (uI (uI I 2 (hq3 (F 7) n)) 3 (nv (F 7) 0 (rl (F 7) n 0).toNat)) 4 (nv (F 7) (hq1 (F 7) n + 1) (rl (F 7) n (hq1 (F 7) n + 1)).toNat)) 5 fe) 6 (nv (F 7) (hq2 (F 7) n + 2) (rl (F 7) n (hq2 (F 7) n + 2)).toNat)) 7 (I 7), uF F 8 (F 8)), rfl, (by first | (exfalso; omega) | (have hrd := rd_no (hd_1 ho6); exact ⟨hq3 (F 7) n, nv (F 7) 0 (rl (F 7) n 0).toNat, nv (F 7) (hq1 (F 7) n + 1) (rl (F 7) n (hq1 (F 7) n + 1)).toNat, fe, nv (F 7) (hq2 (F 7) n + 2) (rl (F 7) n (hq2 (F 7) n + 2)).toNat, I 7, F 8, rfl, by rw [hrd], by rw [hrd], Or.inl rfl, fun hz => absurd hz (by decide)⟩) | (have hrd := rd_no (hd_2 ho6 ho13); exact ⟨hq3 (F 7) n, nv (F 7) 0 (rl (F 7) n 0).toNat, nv (F 7) (hq1 (F 7) n + 1) (rl (F 7) n (hq1 (F 7) n + 1)).toNat, fe, nv (F 7) (hq2 (F 7) n + 2) (rl (F 7) n (hq2 (F 7) n + 2)).toNat, I 7, F 8, rfl, by rw [hrd], by rw [hrd], Or.inl rfl, fun hz => absurd hz (by decide)⟩) | (have hrd := rd_no (hd_3 ho6 ho13 ho20); exact ⟨hq3 (F 7) n, nv (F 7) 0 (rl (F 7) n 0).toNat, nv (F 7) (hq1 (F 7) n + 1) (rl (F 7) n (hq1 (F 7) n + 1)).toNat, fe, nv (F 7) (hq2 (F 7) n + 2) (rl (F 7) n (hq2 (F 7) n + 2)).toNat, I 7, F 8, rfl, by rw [hrd], by rw [hrd], Or.inl rfl, fun hz => absurd hz (by decide)⟩) | (have hrd := rd_no (hd_4 ho6 ho13 ho20 ho27); exact ⟨hq3 (F 7) n, nv (F 7) 0 (rl (F 7) n 0).toNat, nv (F 7) (hq1 (F 7) n + 1) (rl (F 7) n (hq1 (F 7) n + 1)).toNat, fe, nv (F 7) (hq2 (F 7) n + 2) (rl (F 7) n (hq2 (F 7) n + 2)).toNat, I 7, F 8, rfl, by rw [hrd], by rw [hrd], Or.inl rfl, fun hz => absurd hz (by decide)⟩) | (have hrd := rd_no (hd_5 ho6 ho13 ho20 ho27 ho34); exact ⟨hq3 (F 7) n, nv (F 7) 0 (rl (F 7) n 0).toNat, nv (F 7) (hq1 (F 7) n + 1) (rl (F 7) n (hq1 (F 7) n + 1)).toNat, fe, nv (F 7) (hq2 (F 7) n + 2) (rl (F 7) n (hq2 (F 7) n + 2)).toNat, I 7, F 8, rfl, by rw [hrd], by rw [hrd], Or.inl rfl, fun hz => absurd hz (by decide)⟩) | (have hrd := rd_no (hd_6 ho6 ho13 ho20 ho27 (by omega) ho34); exact ⟨hq3 (F 7) n, nv (F 7) 0 (rl (F 7) n 0).toNat, nv (F 7) (hq1 (F 7) n + 1) (rl (F 7) n (hq1 (F 7) n + 1)).toNat, fe, nv (F 7) (hq2 (F 7) n + 2) (rl (F 7) n (hq2 (F 7) n + 2)).toNat, I 7, F 8, rfl, by rw [hrd], by rw [hrd], Or.inl rfl, fun hz => absurd hz (by decide)⟩) | (have hrd := rd_no (hd_7 ho6 ho13 ho20 ho27 (by omega) ho34 ho41); exact ⟨hq3 (F 7) n, nv (F 7) 0 (rl (F 7) n 0).toNat, nv (F 7) (hq1 (F 7) n + 1) (rl (F 7) n (hq1 (F 7) n + 1)).toNat, fe, nv (F 7) (hq2 (F 7) n + 2) (rl (F 7) n (hq2 (F 7) n + 2)).toNat, I 7, F 8, rfl, by rw [hrd], by rw [hrd], Or.inl rfl, fun hz => absurd hz (by decide)⟩) | (have hrd : rdA (F 7) n = (0, ia, ca) := (by rw [rd_go (hd_8 ho6 ho13 ho20 ho27 (by omega) ho34 ho41), hpl, show r_20 = 0 by omega]); exact ⟨hq3 (F 7) n, nv (F 7) 0 (rl (F 7) n 0).toNat, nv (F 7) (hq1 (F 7) n + 1) (rl (F 7) n (hq1 (F 7) n + 1)).toNat, fe, nv (F 7) (hq2 (F 7) n + 2) (rl (F 7) n (hq2 (F 7) n + 2)).toNat, I 7, F 8, rfl, by rw [hrd], by rw [hrd], Or.inl rfl, fun hz => absurd hz (by decide)⟩)), by rw [ht9]; exact hP, hS.F ht9⟩) hS.2.2 dX3_read_59
                        · exact absurd c_23 (by omega)
                  · skip
                    cases hu
                    rw [show hq2 (F 7) n + 1 + 1 = hq2 (F 7) n + 2 by omega] at hP ho34
                    have hP : va_P D vwC (xW a k (uI (uI (uI (uI (uI (uI (uI (uI (uI (uI I 2 0) 2 (hq1 (F 7) n)) 3 (nv (F 7) 0 (rl (F 7) n 0).toNat)) 2 (hq1 (F 7) n + 1)) 2 (hq2 (F 7) n)) 4 (nv (F 7) (hq1 (F 7) n + 1) (rl (F 7) n (hq1 (F 7) n + 1)).toNat)) 2 (hq2 (F 7) n + 1)) 5 fe) 2 (hq2 (F 7) n + 2)) 6 (-1)) F) H := hP
                    refine xr_if_eq (a := 0) (tgt := 58) hx hb dX3_read_37 (by decide) (fun c_24 => ?_) (fun c_24 => ?_) (by omega)
                    · skip
                      -- 37 t
                      refine xr_iconst hx hb dX3_read_58 ?_
                      exact W.zret (v := iI 0) hx hb hr (bz_nar (by omega)) (fun t ht9 hW => ⟨0, (uI (uI (uI (uI (uI (uI I 2 (hq2 (F 7) n + 2)) 3 (nv (F 7) 0 (rl (F 7) n 0).toNat)) 4 (nv (F 7) (hq1 (F 7) n + 1) (rl (F 7) n (hq1 (F 7) n + 1)).toNat)) 5 fe) 6 (-1)) 7 (I 7), uF F 8 (F 8)), rfl, (by first | (exfalso; omega) | (have hrd := rd_no (hd_1 ho6); exact ⟨hq2 (F 7) n + 2, nv (F 7) 0 (rl (F 7) n 0).toNat, nv (F 7) (hq1 (F 7) n + 1) (rl (F 7) n (hq1 (F 7) n + 1)).toNat, fe, (-1), I 7, F 8, rfl, by rw [hrd], by rw [hrd], Or.inl rfl, fun hz => absurd hz (by decide)⟩) | (have hrd := rd_no (hd_2 ho6 ho13); exact ⟨hq2 (F 7) n + 2, nv (F 7) 0 (rl (F 7) n 0).toNat, nv (F 7) (hq1 (F 7) n + 1) (rl (F 7) n (hq1 (F 7) n + 1)).toNat, fe, (-1), I 7, F 8, rfl, by rw [hrd], by rw [hrd], Or.inl rfl, fun hz => absurd hz (by decide)⟩) | (have hrd := rd_no (hd_3 ho6 ho13 ho20); exact ⟨hq2 (F 7) n + 2, nv (F 7) 0 (rl (F 7) n 0).toNat, nv (F 7) (hq1 (F 7) n + 1) (rl (F 7) n (hq1 (F 7) n + 1)).toNat, fe, (-1), I 7, F 8, rfl, by rw [hrd], by rw [hrd], Or.inl rfl, fun hz => absurd hz (by decide)⟩) | (have hrd := rd_no (hd_4 ho6 ho13 ho20 ho27); exact ⟨hq2 (F 7) n + 2, nv (F 7) 0 (rl (F 7) n 0).toNat, nv (F 7) (hq1 (F 7) n + 1) (rl (F 7) n (hq1 (F 7) n + 1)).toNat, fe, (-1), I 7, F 8, rfl, by rw [hrd], by rw [hrd], Or.inl rfl, fun hz => absurd hz (by decide)⟩) | (have hrd := rd_no (hd_5 ho6 ho13 ho20 ho27 ho34); exact ⟨hq2 (F 7) n + 2, nv (F 7) 0 (rl (F 7) n 0).toNat, nv (F 7) (hq1 (F 7) n + 1) (rl (F 7) n (hq1 (F 7) n + 1)).toNat, fe, (-1), I 7, F 8, rfl, by rw [hrd], by rw [hrd], Or.inl rfl, fun hz => absurd hz (by decide)⟩) | (have hrd := rd_no (hd_6 ho6 ho13 ho20 ho27 (by omega) ho34); exact ⟨hq2 (F 7) n + 2, nv (F 7) 0 (rl (F 7) n 0).toNat, nv (F 7) (hq1 (F 7) n + 1) (rl (F 7) n (hq1 (F 7) n + 1)).toNat, fe, (-1), I 7, F 8, rfl, by rw [hrd], by rw [hrd], Or.inl rfl, fun hz => absurd hz (by decide)⟩) | (have hrd := rd_no (hd_7 ho6 ho13 ho20 ho27 (by omega) ho34 ho41); exact ⟨hq2 (F 7) n + 2, nv (F 7) 0 (rl (F 7) n 0).toNat, nv (F 7) (hq1 (F 7) n + 1) (rl (F 7) n (hq1 (F 7) n + 1)).toNat, fe, (-1), I 7, F 8, rfl, by rw [hrd], by rw [hrd], Or.inl rfl, fun hz => absurd hz (by decide)⟩) | (have hrd : rdA (F 7) n = (0, ia, ca) := (by rw [rd_go (hd_8 ho6 ho13 ho20 ho27 (by omega) ho34 ho41), hpl, show r_20 = 0 by omega]); exact ⟨hq2 (F 7) n + 2, nv (F 7) 0 (rl (F 7) n 0).toNat, nv (F 7) (hq1 (F 7) n + 1) (rl (F 7) n (hq1 (F 7) n + 1)).toNat, fe, (-1), I 7, F 8, rfl, by rw [hrd], by rw [hrd], Or.inl rfl, fun hz => absurd hz (by decide)⟩)), by rw [ht9]; exact hP, hS.F ht9⟩) hS.2.2 dX3_read_59
                    · exact absurd c_24 (by omega)
              · skip
                cases hu
                have hP : va_P D vwC (xW a k (uI (uI (uI (uI (uI (uI I 2 0) 2 (hq1 (F 7) n)) 3 (nv (F 7) 0 (rl (F 7) n 0).toNat)) 2 (hq1 (F 7) n + 1)) 2 (hq2 (F 7) n)) 4 (nv (F 7) (hq1 (F 7) n + 1) (rl (F 7) n (hq1 (F 7) n + 1)).toNat)) F) H := hP
                refine xr_if_eq (a := 0) (tgt := 58) hx hb dX3_read_30 (by decide) (fun c_25 => ?_) (fun c_25 => ?_) (by omega)
                · skip
                  -- 30 t
                  refine xr_iconst hx hb dX3_read_58 ?_
                  exact W.zret (v := iI 0) hx hb hr (bz_nar (by omega)) (fun t ht9 hW => ⟨0, (uI (uI (uI (uI (uI (uI I 2 (hq2 (F 7) n)) 3 (nv (F 7) 0 (rl (F 7) n 0).toNat)) 4 (nv (F 7) (hq1 (F 7) n + 1) (rl (F 7) n (hq1 (F 7) n + 1)).toNat)) 5 (I 5)) 6 (I 6)) 7 (I 7), uF F 8 (F 8)), rfl, (by first | (exfalso; omega) | (have hrd := rd_no (hd_1 ho6); exact ⟨hq2 (F 7) n, nv (F 7) 0 (rl (F 7) n 0).toNat, nv (F 7) (hq1 (F 7) n + 1) (rl (F 7) n (hq1 (F 7) n + 1)).toNat, I 5, I 6, I 7, F 8, rfl, by rw [hrd], by rw [hrd], Or.inl rfl, fun hz => absurd hz (by decide)⟩) | (have hrd := rd_no (hd_2 ho6 ho13); exact ⟨hq2 (F 7) n, nv (F 7) 0 (rl (F 7) n 0).toNat, nv (F 7) (hq1 (F 7) n + 1) (rl (F 7) n (hq1 (F 7) n + 1)).toNat, I 5, I 6, I 7, F 8, rfl, by rw [hrd], by rw [hrd], Or.inl rfl, fun hz => absurd hz (by decide)⟩) | (have hrd := rd_no (hd_3 ho6 ho13 ho20); exact ⟨hq2 (F 7) n, nv (F 7) 0 (rl (F 7) n 0).toNat, nv (F 7) (hq1 (F 7) n + 1) (rl (F 7) n (hq1 (F 7) n + 1)).toNat, I 5, I 6, I 7, F 8, rfl, by rw [hrd], by rw [hrd], Or.inl rfl, fun hz => absurd hz (by decide)⟩) | (have hrd := rd_no (hd_4 ho6 ho13 ho20 ho27); exact ⟨hq2 (F 7) n, nv (F 7) 0 (rl (F 7) n 0).toNat, nv (F 7) (hq1 (F 7) n + 1) (rl (F 7) n (hq1 (F 7) n + 1)).toNat, I 5, I 6, I 7, F 8, rfl, by rw [hrd], by rw [hrd], Or.inl rfl, fun hz => absurd hz (by decide)⟩) | (have hrd := rd_no (hd_5 ho6 ho13 ho20 ho27 ho34); exact ⟨hq2 (F 7) n, nv (F 7) 0 (rl (F 7) n 0).toNat, nv (F 7) (hq1 (F 7) n + 1) (rl (F 7) n (hq1 (F 7) n + 1)).toNat, I 5, I 6, I 7, F 8, rfl, by rw [hrd], by rw [hrd], Or.inl rfl, fun hz => absurd hz (by decide)⟩) | (have hrd := rd_no (hd_6 ho6 ho13 ho20 ho27 (by omega) ho34); exact ⟨hq2 (F 7) n, nv (F 7) 0 (rl (F 7) n 0).toNat, nv (F 7) (hq1 (F 7) n + 1) (rl (F 7) n (hq1 (F 7) n + 1)).toNat, I 5, I 6, I 7, F 8, rfl, by rw [hrd], by rw [hrd], Or.inl rfl, fun hz => absurd hz (by decide)⟩) | (have hrd := rd_no (hd_7 ho6 ho13 ho20 ho27 (by omega) ho34 ho41); exact ⟨hq2 (F 7) n, nv (F 7) 0 (rl (F 7) n 0).toNat, nv (F 7) (hq1 (F 7) n + 1) (rl (F 7) n (hq1 (F 7) n + 1)).toNat, I 5, I 6, I 7, F 8, rfl, by rw [hrd], by rw [hrd], Or.inl rfl, fun hz => absurd hz (by decide)⟩) | (have hrd : rdA (F 7) n = (0, ia, ca) := (by rw [rd_go (hd_8 ho6 ho13 ho20 ho27 (by omega) ho34 ho41), hpl, show r_20 = 0 by omega]); exact ⟨hq2 (F 7) n, nv (F 7) 0 (rl (F 7) n 0).toNat, nv (F 7) (hq1 (F 7) n + 1) (rl (F 7) n (hq1 (F 7) n + 1)).toNat, I 5, I 6, I 7, F 8, rfl, by rw [hrd], by rw [hrd], Or.inl rfl, fun hz => absurd hz (by decide)⟩)), by rw [ht9]; exact hP, hS.F ht9⟩) hS.2.2 dX3_read_59
                · exact absurd c_25 (by omega)
          · skip
            cases hu
            have hP : va_P D vwC (xW a k (uI (uI (uI (uI (uI I 2 0) 2 (hq1 (F 7) n)) 3 (nv (F 7) 0 (rl (F 7) n 0).toNat)) 2 (hq1 (F 7) n + 1)) 4 (-1)) F) H := hP
            refine xr_if_eq (a := 0) (tgt := 58) hx hb dX3_read_23 (by decide) (fun c_26 => ?_) (fun c_26 => ?_) (by omega)
            · skip
              -- 23 t
              refine xr_iconst hx hb dX3_read_58 ?_
              exact W.zret (v := iI 0) hx hb hr (bz_nar (by omega)) (fun t ht9 hW => ⟨0, (uI (uI (uI (uI (uI (uI I 2 (hq1 (F 7) n + 1)) 3 (nv (F 7) 0 (rl (F 7) n 0).toNat)) 4 (-1)) 5 (I 5)) 6 (I 6)) 7 (I 7), uF F 8 (F 8)), rfl, (by first | (exfalso; omega) | (have hrd := rd_no (hd_1 ho6); exact ⟨hq1 (F 7) n + 1, nv (F 7) 0 (rl (F 7) n 0).toNat, (-1), I 5, I 6, I 7, F 8, rfl, by rw [hrd], by rw [hrd], Or.inl rfl, fun hz => absurd hz (by decide)⟩) | (have hrd := rd_no (hd_2 ho6 ho13); exact ⟨hq1 (F 7) n + 1, nv (F 7) 0 (rl (F 7) n 0).toNat, (-1), I 5, I 6, I 7, F 8, rfl, by rw [hrd], by rw [hrd], Or.inl rfl, fun hz => absurd hz (by decide)⟩) | (have hrd := rd_no (hd_3 ho6 ho13 ho20); exact ⟨hq1 (F 7) n + 1, nv (F 7) 0 (rl (F 7) n 0).toNat, (-1), I 5, I 6, I 7, F 8, rfl, by rw [hrd], by rw [hrd], Or.inl rfl, fun hz => absurd hz (by decide)⟩) | (have hrd := rd_no (hd_4 ho6 ho13 ho20 ho27); exact ⟨hq1 (F 7) n + 1, nv (F 7) 0 (rl (F 7) n 0).toNat, (-1), I 5, I 6, I 7, F 8, rfl, by rw [hrd], by rw [hrd], Or.inl rfl, fun hz => absurd hz (by decide)⟩) | (have hrd := rd_no (hd_5 ho6 ho13 ho20 ho27 ho34); exact ⟨hq1 (F 7) n + 1, nv (F 7) 0 (rl (F 7) n 0).toNat, (-1), I 5, I 6, I 7, F 8, rfl, by rw [hrd], by rw [hrd], Or.inl rfl, fun hz => absurd hz (by decide)⟩) | (have hrd := rd_no (hd_6 ho6 ho13 ho20 ho27 (by omega) ho34); exact ⟨hq1 (F 7) n + 1, nv (F 7) 0 (rl (F 7) n 0).toNat, (-1), I 5, I 6, I 7, F 8, rfl, by rw [hrd], by rw [hrd], Or.inl rfl, fun hz => absurd hz (by decide)⟩) | (have hrd := rd_no (hd_7 ho6 ho13 ho20 ho27 (by omega) ho34 ho41); exact ⟨hq1 (F 7) n + 1, nv (F 7) 0 (rl (F 7) n 0).toNat, (-1), I 5, I 6, I 7, F 8, rfl, by rw [hrd], by rw [hrd], Or.inl rfl, fun hz => absurd hz (by decide)⟩) | (have hrd : rdA (F 7) n = (0, ia, ca) := (by rw [rd_go (hd_8 ho6 ho13 ho20 ho27 (by omega) ho34 ho41), hpl, show r_20 = 0 by omega]); exact ⟨hq1 (F 7) n + 1, nv (F 7) 0 (rl (F 7) n 0).toNat, (-1), I 5, I 6, I 7, F 8, rfl, by rw [hrd], by rw [hrd], Or.inl rfl, fun hz => absurd hz (by decide)⟩)), by rw [ht9]; exact hP, hS.F ht9⟩) hS.2.2 dX3_read_59
            · exact absurd c_26 (by omega)
      · skip
        cases hu
        have hP : va_P D vwC (xW a k (uI (uI (uI I 2 0) 2 (hq1 (F 7) n)) 3 (nv (F 7) 0 (rl (F 7) n 0).toNat)) F) H := hP
        refine xr_if_eq (a := 0) (tgt := 58) hx hb dX3_read_16 (by decide) (fun c_27 => ?_) (fun c_27 => ?_) (by omega)
        · skip
          -- 16 t
          refine xr_iconst hx hb dX3_read_58 ?_
          exact W.zret (v := iI 0) hx hb hr (bz_nar (by omega)) (fun t ht9 hW => ⟨0, (uI (uI (uI (uI (uI (uI I 2 (hq1 (F 7) n)) 3 (nv (F 7) 0 (rl (F 7) n 0).toNat)) 4 (I 4)) 5 (I 5)) 6 (I 6)) 7 (I 7), uF F 8 (F 8)), rfl, (by first | (exfalso; omega) | (have hrd := rd_no (hd_1 ho6); exact ⟨hq1 (F 7) n, nv (F 7) 0 (rl (F 7) n 0).toNat, I 4, I 5, I 6, I 7, F 8, rfl, by rw [hrd], by rw [hrd], Or.inl rfl, fun hz => absurd hz (by decide)⟩) | (have hrd := rd_no (hd_2 ho6 ho13); exact ⟨hq1 (F 7) n, nv (F 7) 0 (rl (F 7) n 0).toNat, I 4, I 5, I 6, I 7, F 8, rfl, by rw [hrd], by rw [hrd], Or.inl rfl, fun hz => absurd hz (by decide)⟩) | (have hrd := rd_no (hd_3 ho6 ho13 ho20); exact ⟨hq1 (F 7) n, nv (F 7) 0 (rl (F 7) n 0).toNat, I 4, I 5, I 6, I 7, F 8, rfl, by rw [hrd], by rw [hrd], Or.inl rfl, fun hz => absurd hz (by decide)⟩) | (have hrd := rd_no (hd_4 ho6 ho13 ho20 ho27); exact ⟨hq1 (F 7) n, nv (F 7) 0 (rl (F 7) n 0).toNat, I 4, I 5, I 6, I 7, F 8, rfl, by rw [hrd], by rw [hrd], Or.inl rfl, fun hz => absurd hz (by decide)⟩) | (have hrd := rd_no (hd_5 ho6 ho13 ho20 ho27 ho34); exact ⟨hq1 (F 7) n, nv (F 7) 0 (rl (F 7) n 0).toNat, I 4, I 5, I 6, I 7, F 8, rfl, by rw [hrd], by rw [hrd], Or.inl rfl, fun hz => absurd hz (by decide)⟩) | (have hrd := rd_no (hd_6 ho6 ho13 ho20 ho27 (by omega) ho34); exact ⟨hq1 (F 7) n, nv (F 7) 0 (rl (F 7) n 0).toNat, I 4, I 5, I 6, I 7, F 8, rfl, by rw [hrd], by rw [hrd], Or.inl rfl, fun hz => absurd hz (by decide)⟩) | (have hrd := rd_no (hd_7 ho6 ho13 ho20 ho27 (by omega) ho34 ho41); exact ⟨hq1 (F 7) n, nv (F 7) 0 (rl (F 7) n 0).toNat, I 4, I 5, I 6, I 7, F 8, rfl, by rw [hrd], by rw [hrd], Or.inl rfl, fun hz => absurd hz (by decide)⟩) | (have hrd : rdA (F 7) n = (0, ia, ca) := (by rw [rd_go (hd_8 ho6 ho13 ho20 ho27 (by omega) ho34 ho41), hpl, show r_20 = 0 by omega]); exact ⟨hq1 (F 7) n, nv (F 7) 0 (rl (F 7) n 0).toNat, I 4, I 5, I 6, I 7, F 8, rfl, by rw [hrd], by rw [hrd], Or.inl rfl, fun hz => absurd hz (by decide)⟩)), by rw [ht9]; exact hP, hS.F ht9⟩) hS.2.2 dX3_read_59
        · exact absurd c_27 (by omega)
  · skip
    cases hu
    have hP : va_P D vwC (xW a k (uI (uI I 2 0) 3 (-1)) F) H := hP
    refine xr_if_eq (a := 0) (tgt := 58) hx hb dX3_read_9 (by decide) (fun c_28 => ?_) (fun c_28 => ?_) (by omega)
    · skip
      -- 9 t
      refine xr_iconst hx hb dX3_read_58 ?_
      exact W.zret (v := iI 0) hx hb hr (bz_nar (by omega)) (fun t ht9 hW => ⟨0, (uI (uI (uI (uI (uI (uI I 2 0) 3 (-1)) 4 (I 4)) 5 (I 5)) 6 (I 6)) 7 (I 7), uF F 8 (F 8)), rfl, (by first | (exfalso; omega) | (have hrd := rd_no (hd_1 ho6); exact ⟨0, (-1), I 4, I 5, I 6, I 7, F 8, rfl, by rw [hrd], by rw [hrd], Or.inl rfl, fun hz => absurd hz (by decide)⟩) | (have hrd := rd_no (hd_2 ho6 ho13); exact ⟨0, (-1), I 4, I 5, I 6, I 7, F 8, rfl, by rw [hrd], by rw [hrd], Or.inl rfl, fun hz => absurd hz (by decide)⟩) | (have hrd := rd_no (hd_3 ho6 ho13 ho20); exact ⟨0, (-1), I 4, I 5, I 6, I 7, F 8, rfl, by rw [hrd], by rw [hrd], Or.inl rfl, fun hz => absurd hz (by decide)⟩) | (have hrd := rd_no (hd_4 ho6 ho13 ho20 ho27); exact ⟨0, (-1), I 4, I 5, I 6, I 7, F 8, rfl, by rw [hrd], by rw [hrd], Or.inl rfl, fun hz => absurd hz (by decide)⟩) | (have hrd := rd_no (hd_5 ho6 ho13 ho20 ho27 ho34); exact ⟨0, (-1), I 4, I 5, I 6, I 7, F 8, rfl, by rw [hrd], by rw [hrd], Or.inl rfl, fun hz => absurd hz (by decide)⟩) | (have hrd := rd_no (hd_6 ho6 ho13 ho20 ho27 (by omega) ho34); exact ⟨0, (-1), I 4, I 5, I 6, I 7, F 8, rfl, by rw [hrd], by rw [hrd], Or.inl rfl, fun hz => absurd hz (by decide)⟩) | (have hrd := rd_no (hd_7 ho6 ho13 ho20 ho27 (by omega) ho34 ho41); exact ⟨0, (-1), I 4, I 5, I 6, I 7, F 8, rfl, by rw [hrd], by rw [hrd], Or.inl rfl, fun hz => absurd hz (by decide)⟩) | (have hrd : rdA (F 7) n = (0, ia, ca) := (by rw [rd_go (hd_8 ho6 ho13 ho20 ho27 (by omega) ho34 ho41), hpl, show r_20 = 0 by omega]); exact ⟨0, (-1), I 4, I 5, I 6, I 7, F 8, rfl, by rw [hrd], by rw [hrd], Or.inl rfl, fun hz => absurd hz (by decide)⟩)), by rw [ht9]; exact hP, hS.F ht9⟩) hS.2.2 dX3_read_59
    · exact absurd c_28 (by omega)
set_option maxHeartbeats 4000000 in
set_option maxRecDepth 100000 in
theorem c_X5_row (l : Launch) (D : va_G) (a : Nat → Nat) (k : Nat → ClassId) (I : Nat → Int) (F : Nat → Int → Int) (hdis : dis 24 a)  (hv : xInv I F) : mu_M (S := (Nat → Int) × (Nat → Int → Int)) l yX5_row cX5_row 2 (some .int) 5 [.ref (a 0)] D (xT k) (xW a k I F) (fun u => xW a k u.1 u.2) (fun r u => ∃ (i2 i3 i4 i5 i6 i7 : Int) (g : Int → Int), (rdA (F 7) (I 1)).2.1 = i2 ∧ (((rdA (F 7) (I 1)).1 = 0 ∧ r = -10 - i2 ∧ u = (uI (uI (uI (uI (uI (uI (uI I 2 i2) 3 i3) 4 i4) 5 i5) 6 i6) 7 i7) 1 0, uF F 8 g)) ∨ ((rdA (F 7) (I 1)).1 = 1 ∧ rowR (F 7) (I 1) i3 i4 i5 i6 i7 g ∧ ((60 ≤ I 8 ∧ r = -4 ∧ u = (uI (uI (uI (uI (uI (uI (uI I 2 i2) 3 i3) 4 i4) 5 i5) 6 i6) 7 i7) 1 0, uF F 8 g)) ∨ (I 8 < 60 ∧ r = I 8 ∧ ∃ gp : Int → Int, u = (uI (uI (uI (uI (uI (uI (uI (uI I 2 i2) 3 i3) 4 i4) 5 i5) 6 i6) 7 i7) 1 0) 8 (I 8 + 1), uF (uF (uF (uF (uF (uF (uF F 8 g) 9 (uA (F 9) (I 8) i3)) 10 (uA (F 10) (I 8) i4)) 11 (uA (F 11) (I 8) i5)) 12 (uA (F 12) (I 8) i6)) 13 (uA (F 13) (I 8) i7)) 14 gp) ∧ (∀ j, 0 ≤ j → j < i7 → gp (I 8 * 12 + j) = g j) ∧ ∀ q, q < I 8 * 12 → gp q = F 14 q))))) (adr 24 a) := by
  refine me_start (by decide) (Nat.le_of_ble_eq_true rfl) rfl ?_
  intro p e s m below meth c hx hb hml hr hown hlocks hnm hG hK hP ls hl
  have hown : s.vm.findClass RX5 = some m.cls := hown
  have hl : lv_has ls 2 [(0, .ref (a 0))] := hl
  have hS : va_S (adr 24 a) s.heap s.heap [] := va_S.rf
  have f_n := hv.n
  have ht : txt (F 7) (I 1) := ⟨by omega, hv.sg⟩
  refine lv_aload_n hx hb dX5_row_0 rfl (lv_at hl 0 rfl) ?_
  refine va_get (D := D) (cl := vwC) (ci := 6) (v := .ref (a 1)) (C := RX5) (T := TX5) (N := 7) hx hb hG.use i_X5 hown hK hP 0 rfl rfl 0 (by decide) (hG.use _ lf_X5_10) (fun _ h9 => h9) rfl dX5_row_1 ?_
  refine mu_call (g_runV (rest := []) hx hb hml hown hG hK hP mV_X3_read (c_X3_read l D a k I F hdis (I 1) rfl ht) lk_X5_62 (va_recv hK hP (ci := 4) (q0 := 1) rfl rfl) rfl hl.1 rfl (Nat.le_of_ble_eq_true rfl) ⟨(Nat.le_of_ble_eq_true rfl), (Nat.le_of_ble_eq_true rfl)⟩ ⟨(Nat.le_of_ble_eq_true rfl), (Nat.le_of_ble_eq_true rfl)⟩ dX5_row_4) hS (fun _ h => h) (fun r_1 u H locs q_2 hP _ _ hS => ?_)
  obtain ⟨I1, F1⟩ := u
  try dsimp only at q_2
  rcases q_2 with ⟨i2, i3, i4, i5, i6, i7, g, hu, hrd1, hrd2, hr01, hrow⟩
  · skip
    cases hu
    have hP : va_P D vwC (xW a k (uI (uI (uI (uI (uI (uI I 2 i2) 3 i3) 4 i4) 5 i5) 6 i6) 7 i7) (uF F 8 g)) H := hP
    refine lv_istore_n (lv' := [(1, .int (iI r_1)), (0, .ref (a 0))]) hx hb dX5_row_7 rfl hl (by decide) rfl (fun ls hl => ?_)
    refine lv_aload_n hx hb dX5_row_8 rfl (lv_at hl 1 rfl) ?_
    refine va_get (D := D) (cl := vwC) (ci := 6) (v := .ref (a 1)) (C := RX5) (T := TX5) (N := 7) hx hb hG.use i_X5 hown hK hP 0 rfl rfl 0 (by decide) (hG.use _ lf_X5_10) (fun _ h9 => h9) rfl dX5_row_9 ?_
    refine mv_call (g_runV (rest := []) hx hb hml hown hG hK hP mV_X3_forget (c_X3_forget l D a k (uI (uI (uI (uI (uI (uI I 2 i2) 3 i3) 4 i4) 5 i5) 6 i6) 7 i7) (uF F 8 g) hdis) lk_X5_66 (va_recv hK hP (ci := 4) (q0 := 1) rfl rfl) rfl hl.1 rfl (Nat.le_of_ble_eq_true rfl) ⟨(Nat.le_of_ble_eq_true rfl), (Nat.le_of_ble_eq_true rfl)⟩ ⟨(Nat.le_of_ble_eq_true rfl), (Nat.le_of_ble_eq_true rfl)⟩ dX5_row_12) hS (fun _ h => h) (fun u H locs q_4 hP _ _ hS => ?_)
    obtain ⟨I2, F2⟩ := u
    try dsimp only at q_4
    have hu := q_4
    · skip
      cases hu
      have hP : va_P D vwC (xW a k (uI (uI (uI (uI (uI (uI (uI I 2 i2) 3 i3) 4 i4) 5 i5) 6 i6) 7 i7) 1 0) (uF F 8 g)) H := hP
      refine lv_iload_n hx hb dX5_row_15 rfl (lv_at hl 0 rfl) ?_
      refine xr_if_ne (a := r_1) (tgt := 30) hx hb dX5_row_16 (by decide) (fun c_5 => ?_) (fun c_5 => ?_) (by omega)
      · skip
        -- 16 t
        have hrr := hrow (by omega)
        have hrr2 := hrr.2.2.1
        have hrr3 := hrr.2.2.2.2.2.1
        refine lv_aload_n hx hb dX5_row_30 rfl (lv_at hl 1 rfl) ?_
        refine va_get (D := D) (cl := vwC) (ci := 6) (v := .ref (a 2)) (C := RX5) (T := TX5) (N := 7) hx hb hG.use i_X5 hown hK hP 0 rfl rfl 1 (by decide) (hG.use _ lf_X5_19) (fun _ h9 => h9) rfl dX5_row_31 ?_
        refine lv_aload_n hx hb dX5_row_34 rfl (lv_at hl 1 rfl) ?_
        refine va_get (D := D) (cl := vwC) (ci := 6) (v := .ref (a 1)) (C := RX5) (T := TX5) (N := 7) hx hb hG.use i_X5 hown hK hP 0 rfl rfl 0 (by decide) (hG.use _ lf_X5_10) (fun _ h9 => h9) rfl dX5_row_35 ?_
        refine mu_call (g_runV (rest := []) hx hb hml hown hG hK hP mV_X4_add (c_X4_add l D a k (uI (uI (uI (uI (uI (uI (uI I 2 i2) 3 i3) 4 i4) 5 i5) 6 i6) 7 i7) 1 0) (uF F 8 g) hdis f_n.1 (show 0 ≤ i7 ∧ i7 ≤ 12 by omega) (show i5 = 0 ∨ i5 = 1 by omega)) lk_X5_72 (va_recv hK hP (ci := 5) (q0 := 2) rfl rfl) rfl hl.1 rfl (Nat.le_of_ble_eq_true rfl) ⟨(Nat.le_of_ble_eq_true rfl), (Nat.le_of_ble_eq_true rfl)⟩ ⟨(Nat.le_of_ble_eq_true rfl), (Nat.le_of_ble_eq_true rfl)⟩ dX5_row_38) hS (fun _ h => h) (fun r_6 u H locs q_7 hP _ _ hS => ?_)
        obtain ⟨I3, F3⟩ := u
        try dsimp only at q_7
        rcases q_7 with ⟨ho, rfl, hu⟩ | ⟨ho, rfl, gp, hu, hgp, hgo⟩
        · skip
          cases hu
          have hP : va_P D vwC (xW a k (uI (uI (uI (uI (uI (uI (uI I 2 i2) 3 i3) 4 i4) 5 i5) 6 i6) 7 i7) 1 0) (uF F 8 g)) H := hP
          have ho : 60 ≤ I 8 := ho
          exact W.iret (v := iI (-4)) hx hb hr (fun t ht9 hW => ⟨(-4), (uI (uI (uI (uI (uI (uI (uI I 2 i2) 3 i3) 4 i4) 5 i5) 6 i6) 7 i7) 1 0, uF F 8 g), rfl, (by first | exact ⟨i2, i3, i4, i5, i6, i7, g, hrd2, Or.inr ⟨by omega, hrr, Or.inl ⟨ho, rfl, rfl⟩⟩⟩ | exact ⟨i2, i3, i4, i5, i6, i7, g, hrd2, Or.inr ⟨by omega, hrr, Or.inr ⟨ho, rfl, gp, rfl, hgp, hgo⟩⟩⟩), by rw [ht9]; exact hP, hS.F ht9⟩) hS.2.2 dX5_row_41
        · skip
          cases hu
          have hP : va_P D vwC (xW a k (uI (uI (uI (uI (uI (uI (uI (uI I 2 i2) 3 i3) 4 i4) 5 i5) 6 i6) 7 i7) 1 0) 8 (I 8 + 1)) (uF (uF (uF (uF (uF (uF (uF F 8 g) 9 (uA (F 9) (I 8) i3)) 10 (uA (F 10) (I 8) i4)) 11 (uA (F 11) (I 8) i5)) 12 (uA (F 12) (I 8) i6)) 13 (uA (F 13) (I 8) i7)) 14 gp)) H := hP
          have ho : I 8 < 60 := ho
          exact W.iret (v := iI (I 8)) hx hb hr (fun t ht9 hW => ⟨I 8, (uI (uI (uI (uI (uI (uI (uI (uI I 2 i2) 3 i3) 4 i4) 5 i5) 6 i6) 7 i7) 1 0) 8 (I 8 + 1), uF (uF (uF (uF (uF (uF (uF F 8 g) 9 (uA (F 9) (I 8) i3)) 10 (uA (F 10) (I 8) i4)) 11 (uA (F 11) (I 8) i5)) 12 (uA (F 12) (I 8) i6)) 13 (uA (F 13) (I 8) i7)) 14 gp), rfl, (by first | exact ⟨i2, i3, i4, i5, i6, i7, g, hrd2, Or.inr ⟨by omega, hrr, Or.inl ⟨ho, rfl, rfl⟩⟩⟩ | exact ⟨i2, i3, i4, i5, i6, i7, g, hrd2, Or.inr ⟨by omega, hrr, Or.inr ⟨ho, rfl, gp, rfl, hgp, hgo⟩⟩⟩), by rw [ht9]; exact hP, hS.F ht9⟩) hS.2.2 dX5_row_41
      · skip
        -- 16 f
        refine xr_bipush hx hb dX5_row_19 (by decide +kernel) ?_
        refine lv_aload_n hx hb dX5_row_21 rfl (lv_at hl 1 rfl) ?_
        refine va_get (D := D) (cl := vwC) (ci := 6) (v := .ref (a 1)) (C := RX5) (T := TX5) (N := 7) hx hb hG.use i_X5 hown hK hP 0 rfl rfl 0 (by decide) (hG.use _ lf_X5_10) (fun _ h9 => h9) rfl dX5_row_22 ?_
        refine va_getN (host := "FormatRows") (D := D) (cl := vwC) (ci := 4) (v := .int (iI i2)) (C := RX3) (T := TX3) (N := 9) hx hb hG.use i_X3 hown hK hP 1 rfl rfl 2 (by decide) (hG.use _ lf_X5_69) (fun _ h9 => h9) rfl dX5_row_25 ?_
        refine xr_isub (a := (-10)) (b := i2) hx hb dX5_row_28 ?_
        exact W.iret (v := iI ((-10) - i2)) hx hb hr (fun t ht9 hW => ⟨(-10) - i2, (uI (uI (uI (uI (uI (uI (uI I 2 i2) 3 i3) 4 i4) 5 i5) 6 i6) 7 i7) 1 0, uF F 8 g), rfl, (by exact ⟨i2, i3, i4, i5, i6, i7, g, hrd2, Or.inl ⟨by omega, rfl, rfl⟩⟩), by rw [ht9]; exact hP, hS.F ht9⟩) hS.2.2 dX5_row_29
