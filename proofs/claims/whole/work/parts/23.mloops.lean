set_option maxHeartbeats 4000000 in
set_option maxRecDepth 100000 in
theorem c_X6_identify (l : Launch) (D : va_G) (a : Nat → Nat) (k : Nat → ClassId) (I : Nat → Int) (F : Nat → Int → Int) (hdis : dis 21 a) (p0 : Int) (hv : mInv I F) (b0 : -2147483648 ≤ p0 ∧ p0 < 2147483648) : mu_M (S := (Nat → Int) × (Nat → Int → Int)) l yX6_identify cX6_identify 4 (some .int) 2 [.ref (a 0), .int (iI p0)] D (mT k) (mW a k I F) (fun u => mW a k u.1 u.2) (fun r u => (¬ (0 ≤ p0 ∧ p0 < I 4) ∧ r = -2 ∧ ∃ (g gf : Int → Int) (nf : Int), u = (uI (uI I 0 0) 6 nf, uF (uF F 20 g) 18 gf) ∧ nf = I 6 ∧ gf = F 18) ∨ ((0 ≤ p0 ∧ p0 < I 4) ∧ r = mfm I F p0 ∧ ∃ (g gf : Int → Int) (nf : Int), u = (uI (uI I 0 0) 6 nf, uF (uF F 20 g) 18 gf) ∧ nf = cnt (mset F p0 (I 3)) 30 ∧ ∀ v, (mset F p0 (I 3)) v → gf (cnt (mset F p0 (I 3)) v.toNat) = v)) (adr 21 a) := by
  refine me_start (by decide) (Nat.le_of_ble_eq_true rfl) rfl ?_
  intro p e s m below meth c hx hb hml hr hown hlocks hnm hG hK hP ls hl
  have hown : s.vm.findClass RX6 = some m.cls := hown
  have hl : lv_has ls 4 [(0, .ref (a 0)), (1, .int (iI p0))] := hl
  have hS : va_S (adr 21 a) s.heap s.heap [] := va_S.rf
  have f_n := hv.n
  refine lv_aload_n hx hb dX6_identify_0 rfl (lv_at hl 0 rfl) ?_
  refine xr_iconst hx hb dX6_identify_1 ?_
  refine va_put (D := D) (cl := vwC) (ci := 7) (v := .int (iI 0)) (ty := .int) (C := RX6) (T := TX6) (N := 27) hx hb hG.use i_X6 tyX6 tyX6_ok nmX6 hown hK hP (mD hdis) hS 0 rfl rfl 0 (by decide) (hG.use _ lf_X6_72) (fun _ h9 => h9) rfl (by decide +kernel) rfl rfl (Nat.le_of_ble_eq_true rfl) dX6_identify_2 (fun H locs hP _ hS => ?_)
  have hP : va_P D vwC (mW a k (uI I 0 0) F) H := hP
  refine lv_aload_n hx hb dX6_identify_5 rfl (lv_at hl 0 rfl) ?_
  refine lv_iload_n hx hb dX6_identify_6 rfl (lv_at hl 1 rfl) ?_
  refine ro_call (g_runV (rest := []) hx hb hml hown hG hK hP mV_X6_isFile (c_X6_isFile l D a k (uI I 0 0) F p0 (by omega) f_n.2.1) lk_X6_118 (va_recv hK hP (ci := 7) (q0 := 0) rfl rfl) rfl hl.1 rfl (Nat.le_of_ble_eq_true rfl) ⟨(Nat.le_of_ble_eq_true rfl), (Nat.le_of_ble_eq_true rfl)⟩ ⟨(Nat.le_of_ble_eq_true rfl), (Nat.le_of_ble_eq_true rfl)⟩ dX6_identify_7) (fun r_1 q_2 => ?_)
  have q_2 : bz (0 ≤ p0 ∧ p0 ≤ I 4 - 1) r_1 := q_2
  refine xr_if_neZ (tgt := 16) hx hb q_2 dX6_identify_10 (by decide) (fun c_3 => ?_) (fun c_3 => ?_)
  · skip
    -- 10 t
    refine lv_aload_n hx hb dX6_identify_16 rfl (lv_at hl 0 rfl) ?_
    refine lv_iload_n hx hb dX6_identify_17 rfl (lv_at hl 1 rfl) ?_
    refine lv_aload_n hx hb dX6_identify_18 rfl (lv_at hl 0 rfl) ?_
    refine va_get (D := D) (cl := vwC) (ci := 7) (v := .int (iI (I 3))) (C := RX6) (T := TX6) (N := 27) hx hb hG.use i_X6 hown hK hP 0 rfl rfl 4 (by decide) (hG.use _ lf_X6_97) (fun _ h9 => h9) rfl dX6_identify_19 ?_
    refine mu_call (g_runV (rest := []) hx hb hml hown hG hK hP mV_X6_formatOf (c_X6_formatOf l D a k (uI I 0 0) F hdis p0 (I 3) hv (show 0 ≤ p0 ∧ p0 < I 4 by omega) (show 0 ≤ I 3 ∧ I 3 ≤ I 3 by omega)) lk_X6_125 (va_recv hK hP (ci := 7) (q0 := 0) rfl rfl) rfl hl.1 rfl (Nat.le_of_ble_eq_true rfl) ⟨(Nat.le_of_ble_eq_true rfl), (Nat.le_of_ble_eq_true rfl)⟩ ⟨(Nat.le_of_ble_eq_true rfl), (Nat.le_of_ble_eq_true rfl)⟩ dX6_identify_22) hS (fun _ h => h) (fun r_4 u H locs q_5 hP _ _ hS => ?_)
    obtain ⟨I1, F1⟩ := u
    try dsimp only at q_5
    rcases q_5 with ⟨hfm, gq_6, hu, hgq⟩
    · skip
      cases hu
      have hP : va_P D vwC (mW a k (uI I 0 0) (uF F 20 gq_6)) H := hP
      have hfm : r_4 = fv (mset F p0 (I 3)) := hfm
      have f_m := fv_in (mset_in hv (f := p0) (n := I 3) (by omega))
      have hgq : ∀ q, 0 ≤ q → q < 30 → (gq_6 q = 0 ∨ gq_6 q = 1) ∧ (gq_6 q = 1 ↔ mset F p0 (I 3) q) := hgq
      refine lv_istore_n (lv' := [(2, .int (iI r_4)), (0, .ref (a 0)), (1, .int (iI p0))]) hx hb dX6_identify_25 rfl hl (by decide) rfl (fun ls hl => ?_)
      refine lv_aload_n hx hb dX6_identify_26 rfl (lv_at hl 1 rfl) ?_
      refine xr_iconst hx hb dX6_identify_27 ?_
      refine va_put (D := D) (cl := vwC) (ci := 7) (v := .int (iI 0)) (ty := .int) (C := RX6) (T := TX6) (N := 27) hx hb hG.use i_X6 tyX6 tyX6_ok nmX6 hown hK hP (mD hdis) hS 0 rfl rfl 23 (by decide) (hG.use _ lf_X6_129) (fun _ h9 => h9) rfl (by decide +kernel) rfl rfl (Nat.le_of_ble_eq_true rfl) dX6_identify_28 (fun H locs hP _ hS => ?_)
      have hP : va_P D vwC (mW a k (uI (uI I 0 0) 6 0) (uF F 20 gq_6)) H := hP
      refine xr_iconst hx hb dX6_identify_31 ?_
      refine lv_istore_n (lv' := [(3, .int (iI 0)), (2, .int (iI r_4)), (0, .ref (a 0)), (1, .int (iI p0))]) hx hb dX6_identify_32 rfl hl (by decide) rfl (fun ls hl => ?_)
      have lp_33 : ∀ (nz : Nat) (kk : Int) (nf : Int) (gf : Int → Int) (H : Heap) (locs : List Loc), (30 - kk).toNat < nz → (0 ≤ kk ∧ kk ≤ 30) → (nf = cnt (mset F p0 (I 3)) kk.toNat) → (∀ v, 0 ≤ v → v < kk → (mset F p0 (I 3)) v → gf (cnt (mset F p0 (I 3)) v.toNat) = v) → va_P D vwC (mW a k (uI (uI (uI I 0 0) 6 0) 6 nf) (uF (uF F 20 gq_6) 18 gf)) H → va_S (adr 21 a) s.heap H locs → ∀ ls : Array Slot, lv_has ls 4 [(3, .int (iI kk)), (0, .ref (a 0)), (2, .int (iI r_4))] → W p l e (rmd 2) s m ([.ref (a 0), .int (iI p0)] : List Value).toArray below meth c H locs 0 0 (MQ below (mu_Q (S := (Nat → Int) × (Nat → Int → Int)) (fun u => mW a k u.1 u.2) D (fun r u => (¬ (0 ≤ p0 ∧ p0 < I 4) ∧ r = -2 ∧ ∃ (g gf : Int → Int) (nf : Int), u = (uI (uI I 0 0) 6 nf, uF (uF F 20 g) 18 gf) ∧ nf = I 6 ∧ gf = F 18) ∨ ((0 ≤ p0 ∧ p0 < I 4) ∧ r = mfm I F p0 ∧ ∃ (g gf : Int → Int) (nf : Int), u = (uI (uI I 0 0) 6 nf, uF (uF F 20 g) 18 gf) ∧ nf = cnt (mset F p0 (I 3)) 30 ∧ ∀ v, (mset F p0 (I 3)) v → gf (cnt (mset F p0 (I 3)) v.toNat) = v)) (adr 21 a)) ([.ref (a 0), .int (iI p0)] : List Value).toArray s 0 0 (adr 21 a)) (F0 m 33 ls []) := by
        clear hl
        intro nz
        induction nz with
        | zero =>
          intro kk nf gf H locs hn
          exact absurd hn (Nat.not_lt_zero _)
        | succ n_33 ih_33 =>
          intro kk nf gf H locs hn_33 i0 i1 i2 hP hS ls hl
          have f_c := cnt_in (mset F p0 (I 3)) kk.toNat
          refine lv_iload_n hx hb dX6_identify_33 rfl (lv_at hl 0 rfl) ?_
          refine xr_bipush hx hb dX6_identify_34 (by decide +kernel) ?_
          refine xr_icmp_ge (a := kk) (b := 30) (tgt := 77) hx hb dX6_identify_36 (by decide) (fun c_7 => ?_) (fun c_7 => ?_) (by omega) (by omega)
          · skip
            -- 36 t
            refine lv_iload_n hx hb dX6_identify_77 rfl (lv_at hl 2 rfl) ?_
            exact W.iret (v := iI r_4) hx hb hr (fun t ht9 hW => ⟨r_4, (uI (uI I 0 0) 6 nf, uF (uF F 20 gq_6) 18 gf), rfl, (by right; refine ⟨by omega, hfm, _, gf, nf, rfl, by rw [i1, show kk = 30 by omega]; rfl, fun v hz => i2 v (mset_in hv (by omega) v hz).1 (by have := mset_in hv (f := p0) (n := I 3) (by omega) v hz; omega) hz⟩), by rw [ht9]; exact hP, hS.F ht9⟩) hS.2.2 dX6_identify_78
          · skip
            -- 36 f
            have f_g := (hgq kk (by omega) (by omega))
            have f_g1 := f_g.1
            refine lv_aload_n hx hb dX6_identify_39 rfl (lv_at hl 1 rfl) ?_
            refine va_get (D := D) (cl := vwC) (ci := 7) (v := .ref (a 20)) (C := RX6) (T := TX6) (N := 27) hx hb hG.use i_X6 hown hK hP 0 rfl rfl 26 (by decide) (hG.use _ lf_X6_69) (fun _ h9 => h9) rfl dX6_identify_40 ?_
            refine lv_iload_n hx hb dX6_identify_43 rfl (lv_at hl 0 rfl) ?_
            refine xr_zald (f := gq_6) (z := kk) hx hb hK hP 20 19 rfl rfl (by omega) (by omega) (by decide) dX6_identify_44 ?_
            refine xr_if_ne (a := gq_6 kk) (tgt := 51) hx hb dX6_identify_45 (by decide) (fun c_8 => ?_) (fun c_8 => ?_) (by omega)
            · skip
              -- 45 t
              have hk1 : (mset F p0 (I 3)) kk := f_g.2.mp (by omega)
              refine lv_aload_n hx hb dX6_identify_51 rfl (lv_at hl 1 rfl) ?_
              refine va_get (D := D) (cl := vwC) (ci := 7) (v := .ref (a 18)) (C := RX6) (T := TX6) (N := 27) hx hb hG.use i_X6 hown hK hP 0 rfl rfl 24 (by decide) (hG.use _ lf_X6_63) (fun _ h9 => h9) rfl dX6_identify_52 ?_
              refine lv_aload_n hx hb dX6_identify_55 rfl (lv_at hl 1 rfl) ?_
              refine va_get (D := D) (cl := vwC) (ci := 7) (v := .int (iI nf)) (C := RX6) (T := TX6) (N := 27) hx hb hG.use i_X6 hown hK hP 0 rfl rfl 23 (by decide) (hG.use _ lf_X6_129) (fun _ h9 => h9) rfl dX6_identify_56 ?_
              refine lv_iload_n hx hb dX6_identify_59 rfl (lv_at hl 0 rfl) ?_
              refine xr_iast (f := gf) (z := nf) (v := kk) hx hb hK hP (mD hdis) hS 18 17 rfl rfl (by omega) (by omega) (by decide) dX6_identify_60 (fun H locs hP hS => ?_)
              have hP : va_P D vwC (mW a k (uI (uI (uI I 0 0) 6 0) 6 nf) (uF (uF (uF F 20 gq_6) 18 gf) 18 (uA gf nf kk))) H := hP
              refine lv_aload_n hx hb dX6_identify_61 rfl (lv_at hl 1 rfl) ?_
              refine lv_dup hx hb dX6_identify_62 rfl ?_
              refine va_get (D := D) (cl := vwC) (ci := 7) (v := .int (iI nf)) (C := RX6) (T := TX6) (N := 27) hx hb hG.use i_X6 hown hK hP 0 rfl rfl 23 (by decide) (hG.use _ lf_X6_129) (fun _ h9 => h9) rfl dX6_identify_63 ?_
              refine xr_iconst hx hb dX6_identify_66 ?_
              refine xr_iadd (a := nf) (b := 1) hx hb dX6_identify_67 ?_
              refine va_put (D := D) (cl := vwC) (ci := 7) (v := .int (iI (nf + 1))) (ty := .int) (C := RX6) (T := TX6) (N := 27) hx hb hG.use i_X6 tyX6 tyX6_ok nmX6 hown hK hP (mD hdis) hS 0 rfl rfl 23 (by decide) (hG.use _ lf_X6_129) (fun _ h9 => h9) rfl (by decide +kernel) rfl rfl (Nat.le_of_ble_eq_true rfl) dX6_identify_68 (fun H locs hP _ hS => ?_)
              have hP : va_P D vwC (mW a k (uI (uI (uI (uI I 0 0) 6 0) 6 nf) 6 (nf + 1)) (uF (uF (uF F 20 gq_6) 18 gf) 18 (uA gf nf kk))) H := hP
              refine xr_iinc (z := kk) (lv' := [(3, .int (iI (kk + 1))), (0, .ref (a 0)), (2, .int (iI r_4))]) hx hb dX6_identify_71 hl (k := 0) rfl (by decide) rfl (fun ls hl => ?_)
              refine lv_goto (tgt := 33) hx hb dX6_identify_74 (by decide) ?_
              exact ih_33 (kk + 1) (nf + 1) (uA gf nf kk) _ _ (by omega) (by omega) (by first | (rw [cnt_zt (P := (mset F p0 (I 3))) (by omega) hk1, i1]; done) | (rw [cnt_zf (P := (mset F p0 (I 3))) (by omega) hk1, i1]; done)) (by intro v v0 v1 v2; by_cases h : v = kk; (subst h; first | exact absurd v2 hk1 | (rw [i1, uA_s])); first | exact i2 v v0 (by omega) v2 | (rw [uA_n (by have := cnt_lt (P := (mset F p0 (I 3))) v0 (show v < kk by omega) v2; omega)]; exact i2 v v0 (by omega) v2)) hP hS ls (lv_sub hl [0, 1, 2] rfl)
            · skip
              -- 45 f
              have hk1 : ¬ (mset F p0 (I 3)) kk := fun z => absurd (f_g.2.mpr z) (by omega)
              refine lv_goto (tgt := 71) hx hb dX6_identify_48 (by decide) ?_
              refine xr_iinc (z := kk) (lv' := [(3, .int (iI (kk + 1))), (0, .ref (a 0)), (2, .int (iI r_4))]) hx hb dX6_identify_71 hl (k := 0) rfl (by decide) rfl (fun ls hl => ?_)
              refine lv_goto (tgt := 33) hx hb dX6_identify_74 (by decide) ?_
              exact ih_33 (kk + 1) nf gf _ _ (by omega) (by omega) (by first | (rw [cnt_zt (P := (mset F p0 (I 3))) (by omega) hk1, i1]; done) | (rw [cnt_zf (P := (mset F p0 (I 3))) (by omega) hk1, i1]; done)) (by intro v v0 v1 v2; by_cases h : v = kk; (subst h; first | exact absurd v2 hk1 | (rw [i1, uA_s])); first | exact i2 v v0 (by omega) v2 | (rw [uA_n (by have := cnt_lt (P := (mset F p0 (I 3))) v0 (show v < kk by omega) v2; omega)]; exact i2 v v0 (by omega) v2)) hP hS ls (lv_sub hl [0, 1, 2] rfl)
      exact lp_33 _ 0 0 (F 18) _ _ (Nat.lt_succ_self _) (by omega) (by rfl) (by intro v v0 v1; omega) hP hS ls (lv_sub hl [0, 2, 1] rfl)
  · skip
    -- 10 f
    refine xr_bipush hx hb dX6_identify_13 (by decide +kernel) ?_
    exact W.iret (v := iI (-2)) hx hb hr (fun t ht9 hW => ⟨(-2), (uI (uI I 0 0) 6 (I 6), uF (uF F 20 (F 20)) 18 (F 18)), rfl, (by exact Or.inl ⟨by omega, rfl, F 20, F 18, I 6, rfl, rfl, rfl⟩), by rw [ht9]; exact hP, hS.F ht9⟩) hS.2.2 dX6_identify_15
set_option maxHeartbeats 4000000 in
set_option maxRecDepth 100000 in
theorem c_X6_keep (l : Launch) (D : va_G) (a : Nat → Nat) (k : Nat → ClassId) (I : Nat → Int) (F : Nat → Int → Int) (hdis : dis 21 a)  (hv : mInv I F) : mu_M (S := (Nat → Int) × (Nat → Int → Int)) l yX6_keep cX6_keep 2 (some .int) 2 [.ref (a 0)] D (mT k) (mW a k I F) (fun u => mW a k u.1 u.2) (fun r u => r = I 3 ∧ ∃ (g kp : Int → Int), u = (uI I 0 0, uF (uF F 20 g) 19 kp) ∧ (∀ f, 0 ≤ f → f < I 4 → kp f = mfm I F f) ∧ ∀ f, I 4 ≤ f → kp f = F 19 f) (adr 21 a) := by
  refine me_start (by decide) (Nat.le_of_ble_eq_true rfl) rfl ?_
  intro p e s m below meth c hx hb hml hr hown hlocks hnm hG hK hP ls hl
  have hown : s.vm.findClass RX6 = some m.cls := hown
  have hl : lv_has ls 2 [(0, .ref (a 0))] := hl
  have hS : va_S (adr 21 a) s.heap s.heap [] := va_S.rf
  have f_n := hv.n
  refine lv_aload_n hx hb dX6_keep_0 rfl (lv_at hl 0 rfl) ?_
  refine xr_iconst hx hb dX6_keep_1 ?_
  refine va_put (D := D) (cl := vwC) (ci := 7) (v := .int (iI 0)) (ty := .int) (C := RX6) (T := TX6) (N := 27) hx hb hG.use i_X6 tyX6 tyX6_ok nmX6 hown hK hP (mD hdis) hS 0 rfl rfl 0 (by decide) (hG.use _ lf_X6_72) (fun _ h9 => h9) rfl (by decide +kernel) rfl rfl (Nat.le_of_ble_eq_true rfl) dX6_keep_2 (fun H locs hP _ hS => ?_)
  have hP : va_P D vwC (mW a k (uI I 0 0) F) H := hP
  refine xr_iconst hx hb dX6_keep_5 ?_
  refine lv_istore_n (lv' := [(1, .int (iI 0)), (0, .ref (a 0))]) hx hb dX6_keep_6 rfl hl (by decide) rfl (fun ls hl => ?_)
  have lp_7 : ∀ (nz : Nat) (fi : Int) (g : Int → Int) (kp : Int → Int) (H : Heap) (locs : List Loc), (I 4 - fi).toNat < nz → (0 ≤ fi ∧ fi ≤ I 4) → (∀ f, 0 ≤ f → f < fi → kp f = mfm I F f) → (∀ f, fi ≤ f → kp f = F 19 f) → (∀ f, 0 ≤ f → f < 40 → -5 ≤ kp f ∧ kp f < 30) → va_P D vwC (mW a k (uI I 0 0) (uF (uF F 20 g) 19 kp)) H → va_S (adr 21 a) s.heap H locs → ∀ ls : Array Slot, lv_has ls 2 [(1, .int (iI fi)), (0, .ref (a 0))] → W p l e (rmd 2) s m ([.ref (a 0)] : List Value).toArray below meth c H locs 0 0 (MQ below (mu_Q (S := (Nat → Int) × (Nat → Int → Int)) (fun u => mW a k u.1 u.2) D (fun r u => r = I 3 ∧ ∃ (g kp : Int → Int), u = (uI I 0 0, uF (uF F 20 g) 19 kp) ∧ (∀ f, 0 ≤ f → f < I 4 → kp f = mfm I F f) ∧ ∀ f, I 4 ≤ f → kp f = F 19 f) (adr 21 a)) ([.ref (a 0)] : List Value).toArray s 0 0 (adr 21 a)) (F0 m 7 ls []) := by
    clear hl
    intro nz
    induction nz with
    | zero =>
      intro fi g kp H locs hn
      exact absurd hn (Nat.not_lt_zero _)
    | succ n_7 ih_7 =>
      intro fi g kp H locs hn_7 i0 i1 i2 i3 hP hS ls hl
      refine lv_iload_n hx hb dX6_keep_7 rfl (lv_at hl 0 rfl) ?_
      refine lv_aload_n hx hb dX6_keep_8 rfl (lv_at hl 1 rfl) ?_
      refine va_get (D := D) (cl := vwC) (ci := 7) (v := .int (iI (I 4))) (C := RX6) (T := TX6) (N := 27) hx hb hG.use i_X6 hown hK hP 0 rfl rfl 11 (by decide) (hG.use _ lf_X6_76) (fun _ h9 => h9) rfl dX6_keep_9 ?_
      refine xr_icmp_ge (a := fi) (b := I 4) (tgt := 36) hx hb dX6_keep_12 (by decide) (fun c_1 => ?_) (fun c_1 => ?_) (by omega) (by omega)
      · skip
        -- 12 t
        refine lv_aload_n hx hb dX6_keep_36 rfl (lv_at hl 1 rfl) ?_
        refine va_get (D := D) (cl := vwC) (ci := 7) (v := .int (iI (I 3))) (C := RX6) (T := TX6) (N := 27) hx hb hG.use i_X6 hown hK hP 0 rfl rfl 4 (by decide) (hG.use _ lf_X6_97) (fun _ h9 => h9) rfl dX6_keep_37 ?_
        exact W.iret (v := iI (I 3)) hx hb hr (fun t ht9 hW => ⟨I 3, (uI I 0 0, uF (uF F 20 g) 19 kp), rfl, (by exact ⟨rfl, g, kp, rfl, fun f q0 q1 => i1 f q0 (by omega), fun f q1 => i2 f (by omega)⟩), by rw [ht9]; exact hP, hS.F ht9⟩) hS.2.2 dX6_keep_40
      · skip
        -- 12 f
        refine lv_aload_n hx hb dX6_keep_15 rfl (lv_at hl 1 rfl) ?_
        refine va_get (D := D) (cl := vwC) (ci := 7) (v := .ref (a 19)) (C := RX6) (T := TX6) (N := 27) hx hb hG.use i_X6 hown hK hP 0 rfl rfl 25 (by decide) (hG.use _ lf_X6_66) (fun _ h9 => h9) rfl dX6_keep_16 ?_
        refine lv_iload_n hx hb dX6_keep_19 rfl (lv_at hl 0 rfl) ?_
        refine lv_aload_n hx hb dX6_keep_20 rfl (lv_at hl 1 rfl) ?_
        refine lv_iload_n hx hb dX6_keep_21 rfl (lv_at hl 0 rfl) ?_
        refine lv_aload_n hx hb dX6_keep_22 rfl (lv_at hl 1 rfl) ?_
        refine va_get (D := D) (cl := vwC) (ci := 7) (v := .int (iI (I 3))) (C := RX6) (T := TX6) (N := 27) hx hb hG.use i_X6 hown hK hP 0 rfl rfl 4 (by decide) (hG.use _ lf_X6_97) (fun _ h9 => h9) rfl dX6_keep_23 ?_
        refine mu_call (g_runV (rest := [.int (iI fi), .ref (a 19)]) hx hb hml hown hG hK hP mV_X6_formatOf (c_X6_formatOf l D a k (uI I 0 0) (uF (uF F 20 g) 19 kp) hdis fi (I 3) (mInv_kp hv i3) (show 0 ≤ fi ∧ fi < I 4 by omega) (show 0 ≤ I 3 ∧ I 3 ≤ I 3 by omega)) lk_X6_125 (va_recv hK hP (ci := 7) (q0 := 0) rfl rfl) rfl hl.1 rfl (Nat.le_of_ble_eq_true rfl) ⟨(Nat.le_of_ble_eq_true rfl), (Nat.le_of_ble_eq_true rfl)⟩ ⟨(Nat.le_of_ble_eq_true rfl), (Nat.le_of_ble_eq_true rfl)⟩ dX6_keep_26) hS (fun _ h => h) (fun r_2 u H locs q_3 hP _ _ hS => ?_)
        obtain ⟨I1, F1⟩ := u
        try dsimp only at q_3
        rcases q_3 with ⟨hfm, gq_4, hu, hgq⟩
        · skip
          cases hu
          have hP : va_P D vwC (mW a k (uI I 0 0) (uF (uF (uF F 20 g) 19 kp) 20 gq_4)) H := hP
          have hfm : r_2 = fv (mset F fi (I 3)) := hfm
          have f_m := fv_in (mset_in hv (f := fi) (n := I 3) (by omega))
          have hgq : ∀ q, 0 ≤ q → q < 30 → (gq_4 q = 0 ∨ gq_4 q = 1) ∧ (gq_4 q = 1 ↔ mset F fi (I 3) q) := hgq
          refine xr_iast (f := kp) (z := fi) (v := r_2) hx hb hK hP (mD hdis) hS 19 18 rfl rfl (by omega) (by omega) (by decide) dX6_keep_29 (fun H locs hP hS => ?_)
          have hP : va_P D vwC (mW a k (uI I 0 0) (uF (uF (uF (uF F 20 g) 19 kp) 20 gq_4) 19 (uA kp fi r_2))) H := hP
          refine xr_iinc (z := fi) (lv' := [(1, .int (iI (fi + 1))), (0, .ref (a 0))]) hx hb dX6_keep_30 hl (k := 0) rfl (by decide) rfl (fun ls hl => ?_)
          refine lv_goto (tgt := 7) hx hb dX6_keep_33 (by decide) ?_
          exact ih_7 (fi + 1) gq_4 (uA kp fi r_2) _ _ (by omega) (by omega) (by intro f q0 q1; by_cases e : f = fi; (rw [e, uA_s]; exact hfm); rw [uA_n e]; exact i1 f q0 (by omega)) (by intro f q1; rw [uA_n (by omega)]; exact i2 f (by omega)) (by intro f q0 q1; by_cases e : f = fi; (rw [e, uA_s]; omega); rw [uA_n e]; exact i3 f q0 q1) hP hS ls (lv_sub hl [0, 1] rfl)
  exact lp_7 _ 0 (F 20) (F 19) _ _ (Nat.lt_succ_self _) (by omega) (by intro f q0 q1; omega) (by intro f q1; rfl) (by exact hv.kp) hP hS ls (lv_sub hl [0, 1] rfl)
set_option maxHeartbeats 4000000 in
set_option maxRecDepth 100000 in
theorem c_X6_changed (l : Launch) (D : va_G) (a : Nat → Nat) (k : Nat → ClassId) (I : Nat → Int) (F : Nat → Int → Int) (hdis : dis 21 a) (p0 : Int) (hv : mInv I F) (b0 : -2147483648 ≤ p0 ∧ p0 < 2147483648) : mu_M (S := (Nat → Int) × (Nat → Int → Int)) l yX6_changed cX6_changed 4 (some .int) 2 [.ref (a 0), .int (iI p0)] D (mT k) (mW a k I F) (fun u => mW a k u.1 u.2) (fun r u => ith (fun f => mfm I F f ≠ F 19 f) (I 4) p0 r ∧ ∃ g : Int → Int, u = (uI I 0 0, uF F 20 g)) (adr 21 a) := by
  refine me_start (by decide) (Nat.le_of_ble_eq_true rfl) rfl ?_
  intro p e s m below meth c hx hb hml hr hown hlocks hnm hG hK hP ls hl
  have hown : s.vm.findClass RX6 = some m.cls := hown
  have hl : lv_has ls 4 [(0, .ref (a 0)), (1, .int (iI p0))] := hl
  have hS : va_S (adr 21 a) s.heap s.heap [] := va_S.rf
  have f_n := hv.n
  refine lv_aload_n hx hb dX6_changed_0 rfl (lv_at hl 0 rfl) ?_
  refine xr_iconst hx hb dX6_changed_1 ?_
  refine va_put (D := D) (cl := vwC) (ci := 7) (v := .int (iI 0)) (ty := .int) (C := RX6) (T := TX6) (N := 27) hx hb hG.use i_X6 tyX6 tyX6_ok nmX6 hown hK hP (mD hdis) hS 0 rfl rfl 0 (by decide) (hG.use _ lf_X6_72) (fun _ h9 => h9) rfl (by decide +kernel) rfl rfl (Nat.le_of_ble_eq_true rfl) dX6_changed_2 (fun H locs hP _ hS => ?_)
  have hP : va_P D vwC (mW a k (uI I 0 0) F) H := hP
  refine xr_iconst hx hb dX6_changed_5 ?_
  refine lv_istore_n (lv' := [(2, .int (iI 0)), (0, .ref (a 0)), (1, .int (iI p0))]) hx hb dX6_changed_6 rfl hl (by decide) rfl (fun ls hl => ?_)
  refine xr_iconst hx hb dX6_changed_7 ?_
  refine lv_istore_n (lv' := [(3, .int (iI 0)), (2, .int (iI 0)), (0, .ref (a 0)), (1, .int (iI p0))]) hx hb dX6_changed_8 rfl hl (by decide) rfl (fun ls hl => ?_)
  have lp_9 : ∀ (nz : Nat) (bf : Int) (fi : Int) (g : Int → Int) (H : Heap) (locs : List Loc), (I 4 - fi).toNat < nz → (0 ≤ fi ∧ fi ≤ I 4) → (bf = cnt (fun f => mfm I F f ≠ F 19 f) fi.toNat) → (∀ j, 0 ≤ j → j < fi → (fun f => mfm I F f ≠ F 19 f) j → cnt (fun f => mfm I F f ≠ F 19 f) j.toNat ≠ p0) → va_P D vwC (mW a k (uI I 0 0) (uF F 20 g)) H → va_S (adr 21 a) s.heap H locs → ∀ ls : Array Slot, lv_has ls 4 [(2, .int (iI bf)), (3, .int (iI fi)), (0, .ref (a 0)), (1, .int (iI p0))] → W p l e (rmd 2) s m ([.ref (a 0), .int (iI p0)] : List Value).toArray below meth c H locs 0 0 (MQ below (mu_Q (S := (Nat → Int) × (Nat → Int → Int)) (fun u => mW a k u.1 u.2) D (fun r u => ith (fun f => mfm I F f ≠ F 19 f) (I 4) p0 r ∧ ∃ g : Int → Int, u = (uI I 0 0, uF F 20 g)) (adr 21 a)) ([.ref (a 0), .int (iI p0)] : List Value).toArray s 0 0 (adr 21 a)) (F0 m 9 ls []) := by
    clear hl
    intro nz
    induction nz with
    | zero =>
      intro bf fi g H locs hn
      exact absurd hn (Nat.not_lt_zero _)
    | succ n_9 ih_9 =>
      intro bf fi g H locs hn_9 i0 i1 i2 hP hS ls hl
      have f_0 := cnt_in (fun f => mfm I F f ≠ F 19 f) fi.toNat
      refine lv_iload_n hx hb dX6_changed_9 rfl (lv_at hl 1 rfl) ?_
      refine lv_aload_n hx hb dX6_changed_10 rfl (lv_at hl 2 rfl) ?_
      refine va_get (D := D) (cl := vwC) (ci := 7) (v := .int (iI (I 4))) (C := RX6) (T := TX6) (N := 27) hx hb hG.use i_X6 hown hK hP 0 rfl rfl 11 (by decide) (hG.use _ lf_X6_76) (fun _ h9 => h9) rfl dX6_changed_11 ?_
      refine xr_icmp_ge (a := fi) (b := I 4) (tgt := 54) hx hb dX6_changed_14 (by decide) (fun c_1 => ?_) (fun c_1 => ?_) (by omega) (by omega)
      · skip
        -- 14 t
        refine xr_iconst hx hb dX6_changed_54 ?_
        exact W.iret (v := iI (-1)) hx hb hr (fun t ht9 hW => ⟨(-1), (uI I 0 0, uF F 20 g), rfl, (by exact ⟨Or.inr ⟨rfl, fun j h0 h1 h2 => i2 j h0 (by omega) h2⟩, _, rfl⟩), by rw [ht9]; exact hP, hS.F ht9⟩) hS.2.2 dX6_changed_55
      · skip
        -- 14 f
        refine lv_aload_n hx hb dX6_changed_17 rfl (lv_at hl 2 rfl) ?_
        refine lv_iload_n hx hb dX6_changed_18 rfl (lv_at hl 1 rfl) ?_
        refine lv_aload_n hx hb dX6_changed_19 rfl (lv_at hl 2 rfl) ?_
        refine va_get (D := D) (cl := vwC) (ci := 7) (v := .int (iI (I 3))) (C := RX6) (T := TX6) (N := 27) hx hb hG.use i_X6 hown hK hP 0 rfl rfl 4 (by decide) (hG.use _ lf_X6_97) (fun _ h9 => h9) rfl dX6_changed_20 ?_
        refine mu_call (g_runV (rest := []) hx hb hml hown hG hK hP mV_X6_formatOf (c_X6_formatOf l D a k (uI I 0 0) (uF F 20 g) hdis fi (I 3) hv (show 0 ≤ fi ∧ fi < I 4 by omega) (show 0 ≤ I 3 ∧ I 3 ≤ I 3 by omega)) lk_X6_125 (va_recv hK hP (ci := 7) (q0 := 0) rfl rfl) rfl hl.1 rfl (Nat.le_of_ble_eq_true rfl) ⟨(Nat.le_of_ble_eq_true rfl), (Nat.le_of_ble_eq_true rfl)⟩ ⟨(Nat.le_of_ble_eq_true rfl), (Nat.le_of_ble_eq_true rfl)⟩ dX6_changed_23) hS (fun _ h => h) (fun r_2 u H locs q_3 hP _ _ hS => ?_)
        obtain ⟨I1, F1⟩ := u
        try dsimp only at q_3
        rcases q_3 with ⟨hfm, gq_4, hu, hgq⟩
        · skip
          cases hu
          have hP : va_P D vwC (mW a k (uI I 0 0) (uF (uF F 20 g) 20 gq_4)) H := hP
          have hfm : r_2 = fv (mset F fi (I 3)) := hfm
          have f_m := fv_in (mset_in hv (f := fi) (n := I 3) (by omega))
          have hgq : ∀ q, 0 ≤ q → q < 30 → (gq_4 q = 0 ∨ gq_4 q = 1) ∧ (gq_4 q = 1 ↔ mset F fi (I 3) q) := hgq
          have e_m : mfm I F fi = fv (mset F fi (I 3)) := rfl
          have f_k := hv.kp fi (by omega) (by omega)
          refine lv_aload_n hx hb dX6_changed_26 rfl (lv_at hl 2 rfl) ?_
          refine va_get (D := D) (cl := vwC) (ci := 7) (v := .ref (a 19)) (C := RX6) (T := TX6) (N := 27) hx hb hG.use i_X6 hown hK hP 0 rfl rfl 25 (by decide) (hG.use _ lf_X6_66) (fun _ h9 => h9) rfl dX6_changed_27 ?_
          refine lv_iload_n hx hb dX6_changed_30 rfl (lv_at hl 1 rfl) ?_
          refine xr_iald (f := F 19) (z := fi) hx hb hK hP 19 18 rfl rfl (by omega) (by omega) (by decide) dX6_changed_31 ?_
          refine xr_icmp_ne (a := r_2) (b := (F 19) fi) (tgt := 38) hx hb dX6_changed_32 (by decide) (fun c_5 => ?_) (fun c_5 => ?_) (by omega) (by omega)
          · skip
            -- 32 t
            refine lv_iload_n hx hb dX6_changed_38 rfl (lv_at hl 0 rfl) ?_
            refine lv_iload_n hx hb dX6_changed_39 rfl (lv_at hl 3 rfl) ?_
            refine xr_icmp_ne (a := bf) (b := p0) (tgt := 45) hx hb dX6_changed_40 (by decide) (fun c_6 => ?_) (fun c_6 => ?_) (by omega) (by omega)
            · skip
              -- 40 t
              refine xr_iinc (z := bf) (lv' := [(2, .int (iI (bf + 1))), (3, .int (iI fi)), (0, .ref (a 0)), (1, .int (iI p0))]) hx hb dX6_changed_45 hl (k := 0) rfl (by decide) rfl (fun ls hl => ?_)
              refine xr_iinc (z := fi) (lv' := [(3, .int (iI (fi + 1))), (2, .int (iI (bf + 1))), (0, .ref (a 0)), (1, .int (iI p0))]) hx hb dX6_changed_48 hl (k := 1) rfl (by decide) rfl (fun ls hl => ?_)
              refine lv_goto (tgt := 9) hx hb dX6_changed_51 (by decide) ?_
              exact ih_9 (bf + 1) (fi + 1) gq_4 _ _ (by omega) (by omega) (by first | (rw [cnt_zt (P := (fun f => mfm I F f ≠ F 19 f)) (by omega) (by show mfm I F fi ≠ F 19 fi; omega), i1]; done) | (rw [cnt_zf (P := (fun f => mfm I F f ≠ F 19 f)) (by omega) (by show ¬ (mfm I F fi ≠ F 19 fi); omega), i1]; done)) (by intro j h0 h1 h2; by_cases e : j = fi; (subst e; have h3 : mfm I F j ≠ F 19 j := h2; first | (rw [← i1]; omega) | omega); exact i2 j h0 (by omega) h2) hP hS ls (lv_sub hl [1, 0, 2, 3] rfl)
            · skip
              -- 40 f
              refine lv_iload_n hx hb dX6_changed_43 rfl (lv_at hl 1 rfl) ?_
              exact W.iret (v := iI fi) hx hb hr (fun t ht9 hW => ⟨fi, (uI I 0 0, uF F 20 gq_4), rfl, (by exact ⟨Or.inl ⟨by omega, by omega, by show mfm I F fi ≠ F 19 fi; omega, by rw [← i1]; omega⟩, _, rfl⟩), by rw [ht9]; exact hP, hS.F ht9⟩) hS.2.2 dX6_changed_44
          · skip
            -- 32 f
            refine lv_goto (tgt := 48) hx hb dX6_changed_35 (by decide) ?_
            refine xr_iinc (z := fi) (lv' := [(3, .int (iI (fi + 1))), (2, .int (iI bf)), (0, .ref (a 0)), (1, .int (iI p0))]) hx hb dX6_changed_48 hl (k := 1) rfl (by decide) rfl (fun ls hl => ?_)
            refine lv_goto (tgt := 9) hx hb dX6_changed_51 (by decide) ?_
            exact ih_9 bf (fi + 1) gq_4 _ _ (by omega) (by omega) (by first | (rw [cnt_zt (P := (fun f => mfm I F f ≠ F 19 f)) (by omega) (by show mfm I F fi ≠ F 19 fi; omega), i1]; done) | (rw [cnt_zf (P := (fun f => mfm I F f ≠ F 19 f)) (by omega) (by show ¬ (mfm I F fi ≠ F 19 fi); omega), i1]; done)) (by intro j h0 h1 h2; by_cases e : j = fi; (subst e; have h3 : mfm I F j ≠ F 19 j := h2; first | (rw [← i1]; omega) | omega); exact i2 j h0 (by omega) h2) hP hS ls (lv_sub hl [1, 0, 2, 3] rfl)
  exact lp_9 _ 0 0 (F 20) _ _ (Nat.lt_succ_self _) (by omega) (by rfl) (by intro j h0 h1; omega) hP hS ls (lv_sub hl [1, 0, 2, 3] rfl)
set_option maxHeartbeats 4000000 in
set_option maxRecDepth 100000 in
theorem c_X6_count (l : Launch) (D : va_G) (a : Nat → Nat) (k : Nat → ClassId) (I : Nat → Int) (F : Nat → Int → Int) (hdis : dis 21 a) (p0 p1 : Int) (hv : mInv I F) (b0 : -2147483648 ≤ p0 ∧ p0 < 2147483648) (b1 : -2147483648 ≤ p1 ∧ p1 < 2147483648) : mu_M (S := (Nat → Int) × (Nat → Int → Int)) l yX6_count cX6_count 5 (some .int) 2 [.ref (a 0), .int (iI p0), .int (iI p1)] D (mT k) (mW a k I F) (fun u => mW a k u.1 u.2) (fun r u => ((¬ (((0 ≤ p0 ∧ p0 < 30) ∨ p0 = -1 ∨ p0 = -5) ∧ (0 ≤ p1 ∧ p1 ≤ I 3)) ∧ r = -2) ∨ ((((0 ≤ p0 ∧ p0 < 30) ∨ p0 = -1 ∨ p0 = -5) ∧ (0 ≤ p1 ∧ p1 ≤ I 3)) ∧ r = cnt (fun f => fv (mset F f p1) = p0) (I 4).toNat)) ∧ ∃ g : Int → Int, u = (uI I 0 0, uF F 20 g)) (adr 21 a) := by
  refine me_start (by decide) (Nat.le_of_ble_eq_true rfl) rfl ?_
  intro p e s m below meth c hx hb hml hr hown hlocks hnm hG hK hP ls hl
  have hown : s.vm.findClass RX6 = some m.cls := hown
  have hl : lv_has ls 5 [(0, .ref (a 0)), (1, .int (iI p0)), (2, .int (iI p1))] := hl
  have hS : va_S (adr 21 a) s.heap s.heap [] := va_S.rf
  have f_n := hv.n
  refine lv_aload_n hx hb dX6_count_0 rfl (lv_at hl 0 rfl) ?_
  refine xr_iconst hx hb dX6_count_1 ?_
  refine va_put (D := D) (cl := vwC) (ci := 7) (v := .int (iI 0)) (ty := .int) (C := RX6) (T := TX6) (N := 27) hx hb hG.use i_X6 tyX6 tyX6_ok nmX6 hown hK hP (mD hdis) hS 0 rfl rfl 0 (by decide) (hG.use _ lf_X6_72) (fun _ h9 => h9) rfl (by decide +kernel) rfl rfl (Nat.le_of_ble_eq_true rfl) dX6_count_2 (fun H locs hP _ hS => ?_)
  have hP : va_P D vwC (mW a k (uI I 0 0) F) H := hP
  refine lv_iload_n hx hb dX6_count_5 rfl (lv_at hl 1 rfl) ?_
  refine ro_call (g_runS (rest := []) hx hb hml hown hG (hK.sub (tys' := []) [] rfl) (va_P0) mS_X6_isFormat (c_X6_isFormat l D p0 (by omega)) lk_X6_132 rfl hl.1 rfl (Nat.le_of_ble_eq_true rfl) ⟨(Nat.le_of_ble_eq_true rfl), (Nat.le_of_ble_eq_true rfl)⟩ ⟨(Nat.le_of_ble_eq_true rfl), (Nat.le_of_ble_eq_true rfl)⟩ dX6_count_6) (fun r_1 q_2 => ?_)
  refine xr_if_neZ (tgt := 23) hx hb q_2 dX6_count_9 (by decide) (fun c_3 => ?_) (fun c_3 => ?_)
  · skip
    -- 9 t
    refine lv_iload_n hx hb dX6_count_23 rfl (lv_at hl 2 rfl) ?_
    refine xr_iconst hx hb dX6_count_24 ?_
    refine lv_aload_n hx hb dX6_count_25 rfl (lv_at hl 0 rfl) ?_
    refine va_get (D := D) (cl := vwC) (ci := 7) (v := .int (iI (I 3))) (C := RX6) (T := TX6) (N := 27) hx hb hG.use i_X6 hown hK hP 0 rfl rfl 4 (by decide) (hG.use _ lf_X6_97) (fun _ h9 => h9) rfl dX6_count_26 ?_
    refine ro_call (g_runS (rest := []) hx hb hml hown hG (hK.sub (tys' := []) [] rfl) (va_P0) mS_X6_in (c_X6_in l D p1 0 (I 3) (by omega) (by omega) (by omega)) lk_X6_79 rfl hl.1 rfl (Nat.le_of_ble_eq_true rfl) ⟨(Nat.le_of_ble_eq_true rfl), (Nat.le_of_ble_eq_true rfl)⟩ ⟨(Nat.le_of_ble_eq_true rfl), (Nat.le_of_ble_eq_true rfl)⟩ dX6_count_29) (fun r_4 q_5 => ?_)
    refine xr_if_neZ (tgt := 38) hx hb q_5 dX6_count_32 (by decide) (fun c_6 => ?_) (fun c_6 => ?_)
    · skip
      -- 32 t
      refine xr_iconst hx hb dX6_count_38 ?_
      refine lv_istore_n (lv' := [(3, .int (iI 0)), (0, .ref (a 0)), (1, .int (iI p0)), (2, .int (iI p1))]) hx hb dX6_count_39 rfl hl (by decide) rfl (fun ls hl => ?_)
      refine xr_iconst hx hb dX6_count_40 ?_
      refine lv_istore (lv' := [(4, .int (iI 0)), (3, .int (iI 0)), (0, .ref (a 0)), (1, .int (iI p0)), (2, .int (iI p1))]) hx hb dX6_count_41 hl (by decide) rfl (fun ls hl => ?_)
      have lp_43 : ∀ (nz : Nat) (mn : Int) (fi : Int) (g : Int → Int) (H : Heap) (locs : List Loc), (I 4 - fi).toNat < nz → (0 ≤ fi ∧ fi ≤ I 4) → (mn = cnt (fun f => fv (mset F f p1) = p0) fi.toNat) → va_P D vwC (mW a k (uI I 0 0) (uF F 20 g)) H → va_S (adr 21 a) s.heap H locs → ∀ ls : Array Slot, lv_has ls 5 [(3, .int (iI mn)), (4, .int (iI fi)), (0, .ref (a 0)), (1, .int (iI p0)), (2, .int (iI p1))] → W p l e (rmd 2) s m ([.ref (a 0), .int (iI p0), .int (iI p1)] : List Value).toArray below meth c H locs 0 0 (MQ below (mu_Q (S := (Nat → Int) × (Nat → Int → Int)) (fun u => mW a k u.1 u.2) D (fun r u => ((¬ (((0 ≤ p0 ∧ p0 < 30) ∨ p0 = -1 ∨ p0 = -5) ∧ (0 ≤ p1 ∧ p1 ≤ I 3)) ∧ r = -2) ∨ ((((0 ≤ p0 ∧ p0 < 30) ∨ p0 = -1 ∨ p0 = -5) ∧ (0 ≤ p1 ∧ p1 ≤ I 3)) ∧ r = cnt (fun f => fv (mset F f p1) = p0) (I 4).toNat)) ∧ ∃ g : Int → Int, u = (uI I 0 0, uF F 20 g)) (adr 21 a)) ([.ref (a 0), .int (iI p0), .int (iI p1)] : List Value).toArray s 0 0 (adr 21 a)) (F0 m 43 ls []) := by
        clear hl
        intro nz
        induction nz with
        | zero =>
          intro mn fi g H locs hn
          exact absurd hn (Nat.not_lt_zero _)
        | succ n_43 ih_43 =>
          intro mn fi g H locs hn_43 i0 i1 hP hS ls hl
          have f_0 := cnt_in (fun f => fv (mset F f p1) = p0) fi.toNat
          refine lv_iload hx hb dX6_count_43 (lv_at hl 1 rfl) ?_
          refine lv_aload_n hx hb dX6_count_45 rfl (lv_at hl 2 rfl) ?_
          refine va_get (D := D) (cl := vwC) (ci := 7) (v := .int (iI (I 4))) (C := RX6) (T := TX6) (N := 27) hx hb hG.use i_X6 hown hK hP 0 rfl rfl 11 (by decide) (hG.use _ lf_X6_76) (fun _ h9 => h9) rfl dX6_count_46 ?_
          refine xr_icmp_ge (a := fi) (b := I 4) (tgt := 77) hx hb dX6_count_49 (by decide) (fun c_7 => ?_) (fun c_7 => ?_) (by omega) (by omega)
          · skip
            -- 49 t
            refine lv_iload_n hx hb dX6_count_77 rfl (lv_at hl 0 rfl) ?_
            exact W.iret (v := iI mn) hx hb hr (fun t ht9 hW => ⟨mn, (uI I 0 0, uF F 20 g), rfl, (by exact ⟨Or.inr ⟨by omega, by rw [i1, show fi = I 4 by omega]⟩, _, rfl⟩), by rw [ht9]; exact hP, hS.F ht9⟩) hS.2.2 dX6_count_78
          · skip
            -- 49 f
            refine lv_iload_n hx hb dX6_count_52 rfl (lv_at hl 0 rfl) ?_
            refine lv_aload_n hx hb dX6_count_53 rfl (lv_at hl 2 rfl) ?_
            refine lv_iload hx hb dX6_count_54 (lv_at hl 1 rfl) ?_
            refine lv_iload_n hx hb dX6_count_56 rfl (lv_at hl 4 rfl) ?_
            refine mu_call (g_runV (rest := [.int (iI mn)]) hx hb hml hown hG hK hP mV_X6_formatOf (c_X6_formatOf l D a k (uI I 0 0) (uF F 20 g) hdis fi p1 hv (show 0 ≤ fi ∧ fi < I 4 by omega) (show 0 ≤ p1 ∧ p1 ≤ I 3 by omega)) lk_X6_125 (va_recv hK hP (ci := 7) (q0 := 0) rfl rfl) rfl hl.1 rfl (Nat.le_of_ble_eq_true rfl) ⟨(Nat.le_of_ble_eq_true rfl), (Nat.le_of_ble_eq_true rfl)⟩ ⟨(Nat.le_of_ble_eq_true rfl), (Nat.le_of_ble_eq_true rfl)⟩ dX6_count_57) hS (fun _ h => h) (fun r_8 u H locs q_9 hP _ _ hS => ?_)
            obtain ⟨I1, F1⟩ := u
            try dsimp only at q_9
            rcases q_9 with ⟨hfm, gq_10, hu, hgq⟩
            · skip
              cases hu
              have hP : va_P D vwC (mW a k (uI I 0 0) (uF (uF F 20 g) 20 gq_10)) H := hP
              have hfm : r_8 = fv (mset F fi p1) := hfm
              have f_m := fv_in (mset_in hv (f := fi) (n := p1) (by omega))
              have hgq : ∀ q, 0 ≤ q → q < 30 → (gq_10 q = 0 ∨ gq_10 q = 1) ∧ (gq_10 q = 1 ↔ mset F fi p1 q) := hgq
              refine lv_iload_n hx hb dX6_count_60 rfl (lv_at hl 3 rfl) ?_
              refine xr_icmp_ne (a := r_8) (b := p0) (tgt := 68) hx hb dX6_count_61 (by decide) (fun c_11 => ?_) (fun c_11 => ?_) (by omega) (by omega)
              · skip
                -- 61 t
                refine xr_iconst hx hb dX6_count_68 ?_
                refine xr_iadd (a := mn) (b := 0) hx hb dX6_count_69 ?_
                refine lv_istore_n (lv' := [(3, .int (iI (mn + 0))), (4, .int (iI fi)), (0, .ref (a 0)), (1, .int (iI p0)), (2, .int (iI p1))]) hx hb dX6_count_70 rfl hl (by decide) rfl (fun ls hl => ?_)
                refine xr_iinc (z := fi) (lv' := [(4, .int (iI (fi + 1))), (3, .int (iI (mn + 0))), (0, .ref (a 0)), (1, .int (iI p0)), (2, .int (iI p1))]) hx hb dX6_count_71 hl (k := 1) rfl (by decide) rfl (fun ls hl => ?_)
                refine lv_goto (tgt := 43) hx hb dX6_count_74 (by decide) ?_
                exact ih_43 (mn + 0) (fi + 1) gq_10 _ _ (by omega) (by omega) (by first | (rw [cnt_zt (P := (fun f => fv (mset F f p1) = p0)) (by omega) (by show fv (mset F fi p1) = p0; omega), i1]; done) | (rw [cnt_zf (P := (fun f => fv (mset F f p1) = p0)) (by omega) (by show ¬ (fv (mset F fi p1) = p0); omega), i1]; omega)) hP hS ls (lv_sub hl [1, 0, 2, 3, 4] rfl)
              · skip
                -- 61 f
                refine xr_iconst hx hb dX6_count_64 ?_
                refine lv_goto (tgt := 69) hx hb dX6_count_65 (by decide) ?_
                refine xr_iadd (a := mn) (b := 1) hx hb dX6_count_69 ?_
                refine lv_istore_n (lv' := [(3, .int (iI (mn + 1))), (4, .int (iI fi)), (0, .ref (a 0)), (1, .int (iI p0)), (2, .int (iI p1))]) hx hb dX6_count_70 rfl hl (by decide) rfl (fun ls hl => ?_)
                refine xr_iinc (z := fi) (lv' := [(4, .int (iI (fi + 1))), (3, .int (iI (mn + 1))), (0, .ref (a 0)), (1, .int (iI p0)), (2, .int (iI p1))]) hx hb dX6_count_71 hl (k := 1) rfl (by decide) rfl (fun ls hl => ?_)
                refine lv_goto (tgt := 43) hx hb dX6_count_74 (by decide) ?_
                exact ih_43 (mn + 1) (fi + 1) gq_10 _ _ (by omega) (by omega) (by first | (rw [cnt_zt (P := (fun f => fv (mset F f p1) = p0)) (by omega) (by show fv (mset F fi p1) = p0; omega), i1]; done) | (rw [cnt_zf (P := (fun f => fv (mset F f p1) = p0)) (by omega) (by show ¬ (fv (mset F fi p1) = p0); omega), i1]; omega)) hP hS ls (lv_sub hl [1, 0, 2, 3, 4] rfl)
      exact lp_43 _ 0 0 (F 20) _ _ (Nat.lt_succ_self _) (by omega) (by rfl) hP hS ls (lv_sub hl [1, 0, 2, 3, 4] rfl)
    · skip
      -- 32 f
      refine xr_bipush hx hb dX6_count_35 (by decide +kernel) ?_
      exact W.iret (v := iI (-2)) hx hb hr (fun t ht9 hW => ⟨(-2), (uI I 0 0, uF F 20 (F 20)), rfl, (by exact ⟨Or.inl ⟨by omega, rfl⟩, _, rfl⟩), by rw [ht9]; exact hP, hS.F ht9⟩) hS.2.2 dX6_count_37
  · skip
    -- 9 f
    refine lv_iload_n hx hb dX6_count_12 rfl (lv_at hl 1 rfl) ?_
    refine xr_iconst hx hb dX6_count_13 ?_
    refine xr_icmp_eq (a := p0) (b := (-1)) (tgt := 23) hx hb dX6_count_14 (by decide) (fun c_12 => ?_) (fun c_12 => ?_) (by omega) (by omega)
    · skip
      -- 14 t
      refine lv_iload_n hx hb dX6_count_23 rfl (lv_at hl 2 rfl) ?_
      refine xr_iconst hx hb dX6_count_24 ?_
      refine lv_aload_n hx hb dX6_count_25 rfl (lv_at hl 0 rfl) ?_
      refine va_get (D := D) (cl := vwC) (ci := 7) (v := .int (iI (I 3))) (C := RX6) (T := TX6) (N := 27) hx hb hG.use i_X6 hown hK hP 0 rfl rfl 4 (by decide) (hG.use _ lf_X6_97) (fun _ h9 => h9) rfl dX6_count_26 ?_
      refine ro_call (g_runS (rest := []) hx hb hml hown hG (hK.sub (tys' := []) [] rfl) (va_P0) mS_X6_in (c_X6_in l D p1 0 (I 3) (by omega) (by omega) (by omega)) lk_X6_79 rfl hl.1 rfl (Nat.le_of_ble_eq_true rfl) ⟨(Nat.le_of_ble_eq_true rfl), (Nat.le_of_ble_eq_true rfl)⟩ ⟨(Nat.le_of_ble_eq_true rfl), (Nat.le_of_ble_eq_true rfl)⟩ dX6_count_29) (fun r_13 q_14 => ?_)
      refine xr_if_neZ (tgt := 38) hx hb q_14 dX6_count_32 (by decide) (fun c_15 => ?_) (fun c_15 => ?_)
      · skip
        -- 32 t
        refine xr_iconst hx hb dX6_count_38 ?_
        refine lv_istore_n (lv' := [(3, .int (iI 0)), (0, .ref (a 0)), (1, .int (iI p0)), (2, .int (iI p1))]) hx hb dX6_count_39 rfl hl (by decide) rfl (fun ls hl => ?_)
        refine xr_iconst hx hb dX6_count_40 ?_
        refine lv_istore (lv' := [(4, .int (iI 0)), (3, .int (iI 0)), (0, .ref (a 0)), (1, .int (iI p0)), (2, .int (iI p1))]) hx hb dX6_count_41 hl (by decide) rfl (fun ls hl => ?_)
        have lp_43 : ∀ (nz : Nat) (mn : Int) (fi : Int) (g : Int → Int) (H : Heap) (locs : List Loc), (I 4 - fi).toNat < nz → (0 ≤ fi ∧ fi ≤ I 4) → (mn = cnt (fun f => fv (mset F f p1) = p0) fi.toNat) → va_P D vwC (mW a k (uI I 0 0) (uF F 20 g)) H → va_S (adr 21 a) s.heap H locs → ∀ ls : Array Slot, lv_has ls 5 [(3, .int (iI mn)), (4, .int (iI fi)), (0, .ref (a 0)), (1, .int (iI p0)), (2, .int (iI p1))] → W p l e (rmd 2) s m ([.ref (a 0), .int (iI p0), .int (iI p1)] : List Value).toArray below meth c H locs 0 0 (MQ below (mu_Q (S := (Nat → Int) × (Nat → Int → Int)) (fun u => mW a k u.1 u.2) D (fun r u => ((¬ (((0 ≤ p0 ∧ p0 < 30) ∨ p0 = -1 ∨ p0 = -5) ∧ (0 ≤ p1 ∧ p1 ≤ I 3)) ∧ r = -2) ∨ ((((0 ≤ p0 ∧ p0 < 30) ∨ p0 = -1 ∨ p0 = -5) ∧ (0 ≤ p1 ∧ p1 ≤ I 3)) ∧ r = cnt (fun f => fv (mset F f p1) = p0) (I 4).toNat)) ∧ ∃ g : Int → Int, u = (uI I 0 0, uF F 20 g)) (adr 21 a)) ([.ref (a 0), .int (iI p0), .int (iI p1)] : List Value).toArray s 0 0 (adr 21 a)) (F0 m 43 ls []) := by
          clear hl
          intro nz
          induction nz with
          | zero =>
            intro mn fi g H locs hn
            exact absurd hn (Nat.not_lt_zero _)
          | succ n_43 ih_43 =>
            intro mn fi g H locs hn_43 i0 i1 hP hS ls hl
            have f_0 := cnt_in (fun f => fv (mset F f p1) = p0) fi.toNat
            refine lv_iload hx hb dX6_count_43 (lv_at hl 1 rfl) ?_
            refine lv_aload_n hx hb dX6_count_45 rfl (lv_at hl 2 rfl) ?_
            refine va_get (D := D) (cl := vwC) (ci := 7) (v := .int (iI (I 4))) (C := RX6) (T := TX6) (N := 27) hx hb hG.use i_X6 hown hK hP 0 rfl rfl 11 (by decide) (hG.use _ lf_X6_76) (fun _ h9 => h9) rfl dX6_count_46 ?_
            refine xr_icmp_ge (a := fi) (b := I 4) (tgt := 77) hx hb dX6_count_49 (by decide) (fun c_16 => ?_) (fun c_16 => ?_) (by omega) (by omega)
            · skip
              -- 49 t
              refine lv_iload_n hx hb dX6_count_77 rfl (lv_at hl 0 rfl) ?_
              exact W.iret (v := iI mn) hx hb hr (fun t ht9 hW => ⟨mn, (uI I 0 0, uF F 20 g), rfl, (by exact ⟨Or.inr ⟨by omega, by rw [i1, show fi = I 4 by omega]⟩, _, rfl⟩), by rw [ht9]; exact hP, hS.F ht9⟩) hS.2.2 dX6_count_78
            · skip
              -- 49 f
              refine lv_iload_n hx hb dX6_count_52 rfl (lv_at hl 0 rfl) ?_
              refine lv_aload_n hx hb dX6_count_53 rfl (lv_at hl 2 rfl) ?_
              refine lv_iload hx hb dX6_count_54 (lv_at hl 1 rfl) ?_
              refine lv_iload_n hx hb dX6_count_56 rfl (lv_at hl 4 rfl) ?_
              refine mu_call (g_runV (rest := [.int (iI mn)]) hx hb hml hown hG hK hP mV_X6_formatOf (c_X6_formatOf l D a k (uI I 0 0) (uF F 20 g) hdis fi p1 hv (show 0 ≤ fi ∧ fi < I 4 by omega) (show 0 ≤ p1 ∧ p1 ≤ I 3 by omega)) lk_X6_125 (va_recv hK hP (ci := 7) (q0 := 0) rfl rfl) rfl hl.1 rfl (Nat.le_of_ble_eq_true rfl) ⟨(Nat.le_of_ble_eq_true rfl), (Nat.le_of_ble_eq_true rfl)⟩ ⟨(Nat.le_of_ble_eq_true rfl), (Nat.le_of_ble_eq_true rfl)⟩ dX6_count_57) hS (fun _ h => h) (fun r_17 u H locs q_18 hP _ _ hS => ?_)
              obtain ⟨I2, F2⟩ := u
              try dsimp only at q_18
              rcases q_18 with ⟨hfm, gq_19, hu, hgq⟩
              · skip
                cases hu
                have hP : va_P D vwC (mW a k (uI I 0 0) (uF (uF F 20 g) 20 gq_19)) H := hP
                have hfm : r_17 = fv (mset F fi p1) := hfm
                have f_m := fv_in (mset_in hv (f := fi) (n := p1) (by omega))
                have hgq : ∀ q, 0 ≤ q → q < 30 → (gq_19 q = 0 ∨ gq_19 q = 1) ∧ (gq_19 q = 1 ↔ mset F fi p1 q) := hgq
                refine lv_iload_n hx hb dX6_count_60 rfl (lv_at hl 3 rfl) ?_
                refine xr_icmp_ne (a := r_17) (b := p0) (tgt := 68) hx hb dX6_count_61 (by decide) (fun c_20 => ?_) (fun c_20 => ?_) (by omega) (by omega)
                · skip
                  -- 61 t
                  refine xr_iconst hx hb dX6_count_68 ?_
                  refine xr_iadd (a := mn) (b := 0) hx hb dX6_count_69 ?_
                  refine lv_istore_n (lv' := [(3, .int (iI (mn + 0))), (4, .int (iI fi)), (0, .ref (a 0)), (1, .int (iI p0)), (2, .int (iI p1))]) hx hb dX6_count_70 rfl hl (by decide) rfl (fun ls hl => ?_)
                  refine xr_iinc (z := fi) (lv' := [(4, .int (iI (fi + 1))), (3, .int (iI (mn + 0))), (0, .ref (a 0)), (1, .int (iI p0)), (2, .int (iI p1))]) hx hb dX6_count_71 hl (k := 1) rfl (by decide) rfl (fun ls hl => ?_)
                  refine lv_goto (tgt := 43) hx hb dX6_count_74 (by decide) ?_
                  exact ih_43 (mn + 0) (fi + 1) gq_19 _ _ (by omega) (by omega) (by first | (rw [cnt_zt (P := (fun f => fv (mset F f p1) = p0)) (by omega) (by show fv (mset F fi p1) = p0; omega), i1]; done) | (rw [cnt_zf (P := (fun f => fv (mset F f p1) = p0)) (by omega) (by show ¬ (fv (mset F fi p1) = p0); omega), i1]; omega)) hP hS ls (lv_sub hl [1, 0, 2, 3, 4] rfl)
                · skip
                  -- 61 f
                  refine xr_iconst hx hb dX6_count_64 ?_
                  refine lv_goto (tgt := 69) hx hb dX6_count_65 (by decide) ?_
                  refine xr_iadd (a := mn) (b := 1) hx hb dX6_count_69 ?_
                  refine lv_istore_n (lv' := [(3, .int (iI (mn + 1))), (4, .int (iI fi)), (0, .ref (a 0)), (1, .int (iI p0)), (2, .int (iI p1))]) hx hb dX6_count_70 rfl hl (by decide) rfl (fun ls hl => ?_)
                  refine xr_iinc (z := fi) (lv' := [(4, .int (iI (fi + 1))), (3, .int (iI (mn + 1))), (0, .ref (a 0)), (1, .int (iI p0)), (2, .int (iI p1))]) hx hb dX6_count_71 hl (k := 1) rfl (by decide) rfl (fun ls hl => ?_)
                  refine lv_goto (tgt := 43) hx hb dX6_count_74 (by decide) ?_
                  exact ih_43 (mn + 1) (fi + 1) gq_19 _ _ (by omega) (by omega) (by first | (rw [cnt_zt (P := (fun f => fv (mset F f p1) = p0)) (by omega) (by show fv (mset F fi p1) = p0; omega), i1]; done) | (rw [cnt_zf (P := (fun f => fv (mset F f p1) = p0)) (by omega) (by show ¬ (fv (mset F fi p1) = p0); omega), i1]; omega)) hP hS ls (lv_sub hl [1, 0, 2, 3, 4] rfl)
        exact lp_43 _ 0 0 (F 20) _ _ (Nat.lt_succ_self _) (by omega) (by rfl) hP hS ls (lv_sub hl [1, 0, 2, 3, 4] rfl)
      · skip
        -- 32 f
        refine xr_bipush hx hb dX6_count_35 (by decide +kernel) ?_
        exact W.iret (v := iI (-2)) hx hb hr (fun t ht9 hW => ⟨(-2), (uI I 0 0, uF F 20 (F 20)), rfl, (by exact ⟨Or.inl ⟨by omega, rfl⟩, _, rfl⟩), by rw [ht9]; exact hP, hS.F ht9⟩) hS.2.2 dX6_count_37
    · skip
      -- 14 f
      refine lv_iload_n hx hb dX6_count_17 rfl (lv_at hl 1 rfl) ?_
      refine xr_bipush hx hb dX6_count_18 (by decide +kernel) ?_
      refine xr_icmp_ne (a := p0) (b := (-5)) (tgt := 35) hx hb dX6_count_20 (by decide) (fun c_21 => ?_) (fun c_21 => ?_) (by omega) (by omega)
      · skip
        -- 20 t
        refine xr_bipush hx hb dX6_count_35 (by decide +kernel) ?_
        exact W.iret (v := iI (-2)) hx hb hr (fun t ht9 hW => ⟨(-2), (uI I 0 0, uF F 20 (F 20)), rfl, (by exact ⟨Or.inl ⟨by omega, rfl⟩, _, rfl⟩), by rw [ht9]; exact hP, hS.F ht9⟩) hS.2.2 dX6_count_37
      · skip
        -- 20 f
        refine lv_iload_n hx hb dX6_count_23 rfl (lv_at hl 2 rfl) ?_
        refine xr_iconst hx hb dX6_count_24 ?_
        refine lv_aload_n hx hb dX6_count_25 rfl (lv_at hl 0 rfl) ?_
        refine va_get (D := D) (cl := vwC) (ci := 7) (v := .int (iI (I 3))) (C := RX6) (T := TX6) (N := 27) hx hb hG.use i_X6 hown hK hP 0 rfl rfl 4 (by decide) (hG.use _ lf_X6_97) (fun _ h9 => h9) rfl dX6_count_26 ?_
        refine ro_call (g_runS (rest := []) hx hb hml hown hG (hK.sub (tys' := []) [] rfl) (va_P0) mS_X6_in (c_X6_in l D p1 0 (I 3) (by omega) (by omega) (by omega)) lk_X6_79 rfl hl.1 rfl (Nat.le_of_ble_eq_true rfl) ⟨(Nat.le_of_ble_eq_true rfl), (Nat.le_of_ble_eq_true rfl)⟩ ⟨(Nat.le_of_ble_eq_true rfl), (Nat.le_of_ble_eq_true rfl)⟩ dX6_count_29) (fun r_22 q_23 => ?_)
        refine xr_if_neZ (tgt := 38) hx hb q_23 dX6_count_32 (by decide) (fun c_24 => ?_) (fun c_24 => ?_)
        · skip
          -- 32 t
          refine xr_iconst hx hb dX6_count_38 ?_
          refine lv_istore_n (lv' := [(3, .int (iI 0)), (0, .ref (a 0)), (1, .int (iI p0)), (2, .int (iI p1))]) hx hb dX6_count_39 rfl hl (by decide) rfl (fun ls hl => ?_)
          refine xr_iconst hx hb dX6_count_40 ?_
          refine lv_istore (lv' := [(4, .int (iI 0)), (3, .int (iI 0)), (0, .ref (a 0)), (1, .int (iI p0)), (2, .int (iI p1))]) hx hb dX6_count_41 hl (by decide) rfl (fun ls hl => ?_)
          have lp_43 : ∀ (nz : Nat) (mn : Int) (fi : Int) (g : Int → Int) (H : Heap) (locs : List Loc), (I 4 - fi).toNat < nz → (0 ≤ fi ∧ fi ≤ I 4) → (mn = cnt (fun f => fv (mset F f p1) = p0) fi.toNat) → va_P D vwC (mW a k (uI I 0 0) (uF F 20 g)) H → va_S (adr 21 a) s.heap H locs → ∀ ls : Array Slot, lv_has ls 5 [(3, .int (iI mn)), (4, .int (iI fi)), (0, .ref (a 0)), (1, .int (iI p0)), (2, .int (iI p1))] → W p l e (rmd 2) s m ([.ref (a 0), .int (iI p0), .int (iI p1)] : List Value).toArray below meth c H locs 0 0 (MQ below (mu_Q (S := (Nat → Int) × (Nat → Int → Int)) (fun u => mW a k u.1 u.2) D (fun r u => ((¬ (((0 ≤ p0 ∧ p0 < 30) ∨ p0 = -1 ∨ p0 = -5) ∧ (0 ≤ p1 ∧ p1 ≤ I 3)) ∧ r = -2) ∨ ((((0 ≤ p0 ∧ p0 < 30) ∨ p0 = -1 ∨ p0 = -5) ∧ (0 ≤ p1 ∧ p1 ≤ I 3)) ∧ r = cnt (fun f => fv (mset F f p1) = p0) (I 4).toNat)) ∧ ∃ g : Int → Int, u = (uI I 0 0, uF F 20 g)) (adr 21 a)) ([.ref (a 0), .int (iI p0), .int (iI p1)] : List Value).toArray s 0 0 (adr 21 a)) (F0 m 43 ls []) := by
            clear hl
            intro nz
            induction nz with
            | zero =>
              intro mn fi g H locs hn
              exact absurd hn (Nat.not_lt_zero _)
            | succ n_43 ih_43 =>
              intro mn fi g H locs hn_43 i0 i1 hP hS ls hl
              have f_0 := cnt_in (fun f => fv (mset F f p1) = p0) fi.toNat
              refine lv_iload hx hb dX6_count_43 (lv_at hl 1 rfl) ?_
              refine lv_aload_n hx hb dX6_count_45 rfl (lv_at hl 2 rfl) ?_
              refine va_get (D := D) (cl := vwC) (ci := 7) (v := .int (iI (I 4))) (C := RX6) (T := TX6) (N := 27) hx hb hG.use i_X6 hown hK hP 0 rfl rfl 11 (by decide) (hG.use _ lf_X6_76) (fun _ h9 => h9) rfl dX6_count_46 ?_
              refine xr_icmp_ge (a := fi) (b := I 4) (tgt := 77) hx hb dX6_count_49 (by decide) (fun c_25 => ?_) (fun c_25 => ?_) (by omega) (by omega)
              · skip
                -- 49 t
                refine lv_iload_n hx hb dX6_count_77 rfl (lv_at hl 0 rfl) ?_
                exact W.iret (v := iI mn) hx hb hr (fun t ht9 hW => ⟨mn, (uI I 0 0, uF F 20 g), rfl, (by exact ⟨Or.inr ⟨by omega, by rw [i1, show fi = I 4 by omega]⟩, _, rfl⟩), by rw [ht9]; exact hP, hS.F ht9⟩) hS.2.2 dX6_count_78
              · skip
                -- 49 f
                refine lv_iload_n hx hb dX6_count_52 rfl (lv_at hl 0 rfl) ?_
                refine lv_aload_n hx hb dX6_count_53 rfl (lv_at hl 2 rfl) ?_
                refine lv_iload hx hb dX6_count_54 (lv_at hl 1 rfl) ?_
                refine lv_iload_n hx hb dX6_count_56 rfl (lv_at hl 4 rfl) ?_
                refine mu_call (g_runV (rest := [.int (iI mn)]) hx hb hml hown hG hK hP mV_X6_formatOf (c_X6_formatOf l D a k (uI I 0 0) (uF F 20 g) hdis fi p1 hv (show 0 ≤ fi ∧ fi < I 4 by omega) (show 0 ≤ p1 ∧ p1 ≤ I 3 by omega)) lk_X6_125 (va_recv hK hP (ci := 7) (q0 := 0) rfl rfl) rfl hl.1 rfl (Nat.le_of_ble_eq_true rfl) ⟨(Nat.le_of_ble_eq_true rfl), (Nat.le_of_ble_eq_true rfl)⟩ ⟨(Nat.le_of_ble_eq_true rfl), (Nat.le_of_ble_eq_true rfl)⟩ dX6_count_57) hS (fun _ h => h) (fun r_26 u H locs q_27 hP _ _ hS => ?_)
                obtain ⟨I3, F3⟩ := u
                try dsimp only at q_27
                rcases q_27 with ⟨hfm, gq_28, hu, hgq⟩
                · skip
                  cases hu
                  have hP : va_P D vwC (mW a k (uI I 0 0) (uF (uF F 20 g) 20 gq_28)) H := hP
                  have hfm : r_26 = fv (mset F fi p1) := hfm
                  have f_m := fv_in (mset_in hv (f := fi) (n := p1) (by omega))
                  have hgq : ∀ q, 0 ≤ q → q < 30 → (gq_28 q = 0 ∨ gq_28 q = 1) ∧ (gq_28 q = 1 ↔ mset F fi p1 q) := hgq
                  refine lv_iload_n hx hb dX6_count_60 rfl (lv_at hl 3 rfl) ?_
                  refine xr_icmp_ne (a := r_26) (b := p0) (tgt := 68) hx hb dX6_count_61 (by decide) (fun c_29 => ?_) (fun c_29 => ?_) (by omega) (by omega)
                  · skip
                    -- 61 t
                    refine xr_iconst hx hb dX6_count_68 ?_
                    refine xr_iadd (a := mn) (b := 0) hx hb dX6_count_69 ?_
                    refine lv_istore_n (lv' := [(3, .int (iI (mn + 0))), (4, .int (iI fi)), (0, .ref (a 0)), (1, .int (iI p0)), (2, .int (iI p1))]) hx hb dX6_count_70 rfl hl (by decide) rfl (fun ls hl => ?_)
                    refine xr_iinc (z := fi) (lv' := [(4, .int (iI (fi + 1))), (3, .int (iI (mn + 0))), (0, .ref (a 0)), (1, .int (iI p0)), (2, .int (iI p1))]) hx hb dX6_count_71 hl (k := 1) rfl (by decide) rfl (fun ls hl => ?_)
                    refine lv_goto (tgt := 43) hx hb dX6_count_74 (by decide) ?_
                    exact ih_43 (mn + 0) (fi + 1) gq_28 _ _ (by omega) (by omega) (by first | (rw [cnt_zt (P := (fun f => fv (mset F f p1) = p0)) (by omega) (by show fv (mset F fi p1) = p0; omega), i1]; done) | (rw [cnt_zf (P := (fun f => fv (mset F f p1) = p0)) (by omega) (by show ¬ (fv (mset F fi p1) = p0); omega), i1]; omega)) hP hS ls (lv_sub hl [1, 0, 2, 3, 4] rfl)
                  · skip
                    -- 61 f
                    refine xr_iconst hx hb dX6_count_64 ?_
                    refine lv_goto (tgt := 69) hx hb dX6_count_65 (by decide) ?_
                    refine xr_iadd (a := mn) (b := 1) hx hb dX6_count_69 ?_
                    refine lv_istore_n (lv' := [(3, .int (iI (mn + 1))), (4, .int (iI fi)), (0, .ref (a 0)), (1, .int (iI p0)), (2, .int (iI p1))]) hx hb dX6_count_70 rfl hl (by decide) rfl (fun ls hl => ?_)
                    refine xr_iinc (z := fi) (lv' := [(4, .int (iI (fi + 1))), (3, .int (iI (mn + 1))), (0, .ref (a 0)), (1, .int (iI p0)), (2, .int (iI p1))]) hx hb dX6_count_71 hl (k := 1) rfl (by decide) rfl (fun ls hl => ?_)
                    refine lv_goto (tgt := 43) hx hb dX6_count_74 (by decide) ?_
                    exact ih_43 (mn + 1) (fi + 1) gq_28 _ _ (by omega) (by omega) (by first | (rw [cnt_zt (P := (fun f => fv (mset F f p1) = p0)) (by omega) (by show fv (mset F fi p1) = p0; omega), i1]; done) | (rw [cnt_zf (P := (fun f => fv (mset F f p1) = p0)) (by omega) (by show ¬ (fv (mset F fi p1) = p0); omega), i1]; omega)) hP hS ls (lv_sub hl [1, 0, 2, 3, 4] rfl)
          exact lp_43 _ 0 0 (F 20) _ _ (Nat.lt_succ_self _) (by omega) (by rfl) hP hS ls (lv_sub hl [1, 0, 2, 3, 4] rfl)
        · skip
          -- 32 f
          refine xr_bipush hx hb dX6_count_35 (by decide +kernel) ?_
          exact W.iret (v := iI (-2)) hx hb hr (fun t ht9 hW => ⟨(-2), (uI I 0 0, uF F 20 (F 20)), rfl, (by exact ⟨Or.inl ⟨by omega, rfl⟩, _, rfl⟩), by rw [ht9]; exact hP, hS.F ht9⟩) hS.2.2 dX6_count_37
set_option maxHeartbeats 4000000 in
set_option maxRecDepth 100000 in
theorem c_X6_member (l : Launch) (D : va_G) (a : Nat → Nat) (k : Nat → ClassId) (I : Nat → Int) (F : Nat → Int → Int) (hdis : dis 21 a) (p0 p1 : Int) (hv : mInv I F) (b0 : -2147483648 ≤ p0 ∧ p0 < 2147483648) (b1 : -2147483648 ≤ p1 ∧ p1 < 2147483648) : mu_M (S := (Nat → Int) × (Nat → Int → Int)) l yX6_member cX6_member 5 (some .int) 2 [.ref (a 0), .int (iI p0), .int (iI p1)] D (mT k) (mW a k I F) (fun u => mW a k u.1 u.2) (fun r u => (¬ ((0 ≤ p0 ∧ p0 < I 4) ∧ (0 ≤ p1 ∧ p1 < I 4)) ∧ r = -1 ∧ u = (uI I 0 0, F)) ∨ (((0 ≤ p0 ∧ p0 < I 4) ∧ (0 ≤ p1 ∧ p1 < I 4)) ∧ (((F 12 p0 ≠ -1 ∨ (rngP (F 12) p1 p0)) ∧ r = -3 ∧ u = (uI I 0 0, F)) ∨ ((F 12 p0 = -1 ∧ ¬ (rngP (F 12) p1 p0)) ∧ ((8 ≤ F 10 p1 ∧ r = -4 ∧ u = (uI I 0 0, F)) ∨ (F 10 p1 < 8 ∧ r = F 10 p1 + 1 ∧ u = (uI I 0 0, uF (uF (uF F 11 (uA (F 11) (8 * p1 + F 10 p1) p0)) 10 (uA (F 10) p1 (F 10 p1 + 1))) 12 (uA (F 12) p0 p1)))))))) (adr 21 a) := by
  refine me_start (by decide) (Nat.le_of_ble_eq_true rfl) rfl ?_
  intro p e s m below meth c hx hb hml hr hown hlocks hnm hG hK hP ls hl
  have hown : s.vm.findClass RX6 = some m.cls := hown
  have hl : lv_has ls 5 [(0, .ref (a 0)), (1, .int (iI p0)), (2, .int (iI p1))] := hl
  have hS : va_S (adr 21 a) s.heap s.heap [] := va_S.rf
  have f_n := hv.n
  obtain ⟨rho, hrho⟩ := hv.r1
  refine lv_aload_n hx hb dX6_member_0 rfl (lv_at hl 0 rfl) ?_
  refine xr_iconst hx hb dX6_member_1 ?_
  refine va_put (D := D) (cl := vwC) (ci := 7) (v := .int (iI 0)) (ty := .int) (C := RX6) (T := TX6) (N := 27) hx hb hG.use i_X6 tyX6 tyX6_ok nmX6 hown hK hP (mD hdis) hS 0 rfl rfl 0 (by decide) (hG.use _ lf_X6_72) (fun _ h9 => h9) rfl (by decide +kernel) rfl rfl (Nat.le_of_ble_eq_true rfl) dX6_member_2 (fun H locs hP _ hS => ?_)
  have hP : va_P D vwC (mW a k (uI I 0 0) F) H := hP
  refine lv_aload_n hx hb dX6_member_5 rfl (lv_at hl 0 rfl) ?_
  refine lv_iload_n hx hb dX6_member_6 rfl (lv_at hl 1 rfl) ?_
  refine ro_call (g_runV (rest := []) hx hb hml hown hG hK hP mV_X6_isFile (c_X6_isFile l D a k (uI I 0 0) F p0 (by omega) f_n.2.1) lk_X6_118 (va_recv hK hP (ci := 7) (q0 := 0) rfl rfl) rfl hl.1 rfl (Nat.le_of_ble_eq_true rfl) ⟨(Nat.le_of_ble_eq_true rfl), (Nat.le_of_ble_eq_true rfl)⟩ ⟨(Nat.le_of_ble_eq_true rfl), (Nat.le_of_ble_eq_true rfl)⟩ dX6_member_7) (fun r_1 q_2 => ?_)
  have q_2 : bz (0 ≤ p0 ∧ p0 ≤ I 4 - 1) r_1 := q_2
  refine xr_if_eqZ (tgt := 21) hx hb q_2 dX6_member_10 (by decide) (fun c_3 => ?_) (fun c_3 => ?_)
  · skip
    -- 10 t
    refine xr_iconst hx hb dX6_member_21 ?_
    exact W.iret (v := iI (-1)) hx hb hr (fun t ht9 hW => ⟨(-1), (uI I 0 0, F), rfl, (by left; exact ⟨by omega, rfl, rfl⟩), by rw [ht9]; exact hP, hS.F ht9⟩) hS.2.2 dX6_member_22
  · skip
    -- 10 f
    refine lv_aload_n hx hb dX6_member_13 rfl (lv_at hl 0 rfl) ?_
    refine lv_iload_n hx hb dX6_member_14 rfl (lv_at hl 2 rfl) ?_
    refine ro_call (g_runV (rest := []) hx hb hml hown hG hK hP mV_X6_isFile (c_X6_isFile l D a k (uI I 0 0) F p1 (by omega) f_n.2.1) lk_X6_118 (va_recv hK hP (ci := 7) (q0 := 0) rfl rfl) rfl hl.1 rfl (Nat.le_of_ble_eq_true rfl) ⟨(Nat.le_of_ble_eq_true rfl), (Nat.le_of_ble_eq_true rfl)⟩ ⟨(Nat.le_of_ble_eq_true rfl), (Nat.le_of_ble_eq_true rfl)⟩ dX6_member_15) (fun r_4 q_5 => ?_)
    have q_5 : bz (0 ≤ p1 ∧ p1 ≤ I 4 - 1) r_4 := q_5
    refine xr_if_neZ (tgt := 23) hx hb q_5 dX6_member_18 (by decide) (fun c_6 => ?_) (fun c_6 => ?_)
    · skip
      -- 18 t
      have f_fl := hv.fl p1 (by omega) (by omega)
      have f_pr0 := hv.pr p0 (by omega) (by omega)
      refine xr_iconst hx hb dX6_member_23 ?_
      refine lv_istore_n (lv' := [(3, .int (iI 0)), (0, .ref (a 0)), (1, .int (iI p0)), (2, .int (iI p1))]) hx hb dX6_member_24 rfl hl (by decide) rfl (fun ls hl => ?_)
      refine lv_iload_n hx hb dX6_member_25 rfl (lv_at hl 3 rfl) ?_
      refine lv_istore (lv' := [(4, .int (iI p1)), (3, .int (iI 0)), (0, .ref (a 0)), (1, .int (iI p0)), (2, .int (iI p1))]) hx hb dX6_member_26 hl (by decide) rfl (fun ls hl => ?_)
      have lp_28 : ∀ (nz : Nat) (ri : Int) (kk : Int) (nn : Nat), me rho kk < nz → (-1 ≤ kk ∧ kk < I 4) → (kk = up (F 12) p1 nn) → (bz (∃ n : Nat, n < nn ∧ up (F 12) p1 n = p0) ri) → ∀ ls : Array Slot, lv_has ls 5 [(3, .int (iI ri)), (4, .int (iI kk)), (0, .ref (a 0)), (1, .int (iI p0)), (2, .int (iI p1))] → W p l e (rmd 2) s m ([.ref (a 0), .int (iI p0), .int (iI p1)] : List Value).toArray below meth c H locs 0 0 (MQ below (mu_Q (S := (Nat → Int) × (Nat → Int → Int)) (fun u => mW a k u.1 u.2) D (fun r u => (¬ ((0 ≤ p0 ∧ p0 < I 4) ∧ (0 ≤ p1 ∧ p1 < I 4)) ∧ r = -1 ∧ u = (uI I 0 0, F)) ∨ (((0 ≤ p0 ∧ p0 < I 4) ∧ (0 ≤ p1 ∧ p1 < I 4)) ∧ (((F 12 p0 ≠ -1 ∨ (rngP (F 12) p1 p0)) ∧ r = -3 ∧ u = (uI I 0 0, F)) ∨ ((F 12 p0 = -1 ∧ ¬ (rngP (F 12) p1 p0)) ∧ ((8 ≤ F 10 p1 ∧ r = -4 ∧ u = (uI I 0 0, F)) ∨ (F 10 p1 < 8 ∧ r = F 10 p1 + 1 ∧ u = (uI I 0 0, uF (uF (uF F 11 (uA (F 11) (8 * p1 + F 10 p1) p0)) 10 (uA (F 10) p1 (F 10 p1 + 1))) 12 (uA (F 12) p0 p1)))))))) (adr 21 a)) ([.ref (a 0), .int (iI p0), .int (iI p1)] : List Value).toArray s 0 0 (adr 21 a)) (F0 m 28 ls []) := by
        clear hl
        intro nz
        induction nz with
        | zero =>
          intro ri kk nn hn
          exact absurd hn (Nat.not_lt_zero _)
        | succ n_28 ih_28 =>
          intro ri kk nn hn_28 i0 i1 i2 ls hl
          have f_z := bz_01 i2
          refine lv_iload hx hb dX6_member_28 (lv_at hl 1 rfl) ?_
          refine xr_if_lt (a := kk) (tgt := 61) hx hb dX6_member_30 (by decide) (fun c_7 => ?_) (fun c_7 => ?_) (by omega)
          · skip
            -- 30 t
            have i3 := bz_iff i2 (rng_iff (g := F 12) (z := p1) (t := p0) (nn := nn) (by omega) (by omega)).symm
            refine lv_aload_n hx hb dX6_member_61 rfl (lv_at hl 2 rfl) ?_
            refine va_get (D := D) (cl := vwC) (ci := 7) (v := .ref (a 12)) (C := RX6) (T := TX6) (N := 27) hx hb hG.use i_X6 hown hK hP 0 rfl rfl 16 (by decide) (hG.use _ lf_X6_45) (fun _ h9 => h9) rfl dX6_member_62 ?_
            refine lv_iload_n hx hb dX6_member_65 rfl (lv_at hl 3 rfl) ?_
            refine xr_iald (f := F 12) (z := p0) hx hb hK hP 12 11 rfl rfl (by omega) (by omega) (by decide) dX6_member_66 ?_
            refine xr_if_ge (a := (F 12) p0) (tgt := 74) hx hb dX6_member_67 (by decide) (fun c_8 => ?_) (fun c_8 => ?_) (by omega)
            · skip
              -- 67 t
              refine xr_bipush hx hb dX6_member_74 (by decide +kernel) ?_
              exact W.iret (v := iI (-3)) hx hb hr (fun t ht9 hW => ⟨(-3), (uI I 0 0, F), rfl, (by right; refine ⟨by omega, Or.inl ⟨?_, rfl, rfl⟩⟩; first | exact Or.inr (by assumption) | exact Or.inl (by omega)), by rw [ht9]; exact hP, hS.F ht9⟩) hS.2.2 dX6_member_76
            · skip
              -- 67 f
              refine lv_iload_n hx hb dX6_member_70 rfl (lv_at hl 0 rfl) ?_
              refine xr_if_eqZ (tgt := 77) hx hb i3 dX6_member_71 (by decide) (fun c_9 => ?_) (fun c_9 => ?_)
              · skip
                -- 71 t
                refine lv_aload_n hx hb dX6_member_77 rfl (lv_at hl 2 rfl) ?_
                refine va_get (D := D) (cl := vwC) (ci := 7) (v := .ref (a 10)) (C := RX6) (T := TX6) (N := 27) hx hb hG.use i_X6 hown hK hP 0 rfl rfl 14 (by decide) (hG.use _ lf_X6_39) (fun _ h9 => h9) rfl dX6_member_78 ?_
                refine lv_iload_n hx hb dX6_member_81 rfl (lv_at hl 4 rfl) ?_
                refine xr_iald (f := F 10) (z := p1) hx hb hK hP 10 9 rfl rfl (by omega) (by omega) (by decide) dX6_member_82 ?_
                refine xr_bipush hx hb dX6_member_83 (by decide +kernel) ?_
                refine xr_icmp_ne (a := (F 10) p1) (b := 8) (tgt := 91) hx hb dX6_member_85 (by decide) (fun c_10 => ?_) (fun c_10 => ?_) (by omega) (by omega)
                · skip
                  -- 85 t
                  refine lv_aload_n hx hb dX6_member_91 rfl (lv_at hl 2 rfl) ?_
                  refine va_get (D := D) (cl := vwC) (ci := 7) (v := .ref (a 11)) (C := RX6) (T := TX6) (N := 27) hx hb hG.use i_X6 hown hK hP 0 rfl rfl 15 (by decide) (hG.use _ lf_X6_42) (fun _ h9 => h9) rfl dX6_member_92 ?_
                  refine xr_bipush hx hb dX6_member_95 (by decide +kernel) ?_
                  refine lv_iload_n hx hb dX6_member_97 rfl (lv_at hl 4 rfl) ?_
                  refine xr_imul (a := 8) (b := p1) hx hb dX6_member_98 ?_
                  refine lv_aload_n hx hb dX6_member_99 rfl (lv_at hl 2 rfl) ?_
                  refine va_get (D := D) (cl := vwC) (ci := 7) (v := .ref (a 10)) (C := RX6) (T := TX6) (N := 27) hx hb hG.use i_X6 hown hK hP 0 rfl rfl 14 (by decide) (hG.use _ lf_X6_39) (fun _ h9 => h9) rfl dX6_member_100 ?_
                  refine lv_iload_n hx hb dX6_member_103 rfl (lv_at hl 4 rfl) ?_
                  refine xr_iald (f := F 10) (z := p1) hx hb hK hP 10 9 rfl rfl (by omega) (by omega) (by decide) dX6_member_104 ?_
                  refine xr_iadd (a := 8 * p1) (b := (F 10) p1) hx hb dX6_member_105 ?_
                  refine lv_iload_n hx hb dX6_member_106 rfl (lv_at hl 3 rfl) ?_
                  refine xr_iast (f := F 11) (z := (8 * p1) + ((F 10) p1)) (v := p0) hx hb hK hP (mD hdis) hS 11 10 rfl rfl (by omega) (by omega) (by decide) dX6_member_107 (fun H locs hP hS => ?_)
                  have hP : va_P D vwC (mW a k (uI I 0 0) (uF F 11 (uA (F 11) ((8 * p1) + ((F 10) p1)) p0))) H := hP
                  refine lv_aload_n hx hb dX6_member_108 rfl (lv_at hl 2 rfl) ?_
                  refine va_get (D := D) (cl := vwC) (ci := 7) (v := .ref (a 10)) (C := RX6) (T := TX6) (N := 27) hx hb hG.use i_X6 hown hK hP 0 rfl rfl 14 (by decide) (hG.use _ lf_X6_39) (fun _ h9 => h9) rfl dX6_member_109 ?_
                  refine lv_iload_n hx hb dX6_member_112 rfl (lv_at hl 4 rfl) ?_
                  refine lv_dup2_11 hx hb dX6_member_113 rfl rfl ?_
                  refine xr_iald (f := F 10) (z := p1) hx hb hK hP 10 9 rfl rfl (by omega) (by omega) (by decide) dX6_member_114 ?_
                  refine xr_iconst hx hb dX6_member_115 ?_
                  refine xr_iadd (a := (F 10) p1) (b := 1) hx hb dX6_member_116 ?_
                  refine xr_iast (f := F 10) (z := p1) (v := ((F 10) p1) + 1) hx hb hK hP (mD hdis) hS 10 9 rfl rfl (by omega) (by omega) (by decide) dX6_member_117 (fun H locs hP hS => ?_)
                  have hP : va_P D vwC (mW a k (uI I 0 0) (uF (uF F 11 (uA (F 11) ((8 * p1) + ((F 10) p1)) p0)) 10 (uA (F 10) p1 (((F 10) p1) + 1)))) H := hP
                  refine lv_aload_n hx hb dX6_member_118 rfl (lv_at hl 2 rfl) ?_
                  refine va_get (D := D) (cl := vwC) (ci := 7) (v := .ref (a 12)) (C := RX6) (T := TX6) (N := 27) hx hb hG.use i_X6 hown hK hP 0 rfl rfl 16 (by decide) (hG.use _ lf_X6_45) (fun _ h9 => h9) rfl dX6_member_119 ?_
                  refine lv_iload_n hx hb dX6_member_122 rfl (lv_at hl 3 rfl) ?_
                  refine lv_iload_n hx hb dX6_member_123 rfl (lv_at hl 4 rfl) ?_
                  refine xr_iast (f := F 12) (z := p0) (v := p1) hx hb hK hP (mD hdis) hS 12 11 rfl rfl (by omega) (by omega) (by decide) dX6_member_124 (fun H locs hP hS => ?_)
                  have hP : va_P D vwC (mW a k (uI I 0 0) (uF (uF (uF F 11 (uA (F 11) ((8 * p1) + ((F 10) p1)) p0)) 10 (uA (F 10) p1 (((F 10) p1) + 1))) 12 (uA (F 12) p0 p1))) H := hP
                  refine lv_aload_n hx hb dX6_member_125 rfl (lv_at hl 2 rfl) ?_
                  refine va_get (D := D) (cl := vwC) (ci := 7) (v := .ref (a 10)) (C := RX6) (T := TX6) (N := 27) hx hb hG.use i_X6 hown hK hP 0 rfl rfl 14 (by decide) (hG.use _ lf_X6_39) (fun _ h9 => h9) rfl dX6_member_126 ?_
                  refine lv_iload_n hx hb dX6_member_129 rfl (lv_at hl 4 rfl) ?_
                  refine xr_iald (f := uA (F 10) p1 (((F 10) p1) + 1)) (z := p1) hx hb hK hP 10 9 rfl rfl (by omega) (by omega) (by decide) dX6_member_130 ?_
                  exact W.iret (v := iI ((uA (F 10) p1 (((F 10) p1) + 1)) p1)) hx hb hr (fun t ht9 hW => ⟨(uA (F 10) p1 (((F 10) p1) + 1)) p1, (uI I 0 0, uF (uF (uF F 11 (uA (F 11) ((8 * p1) + ((F 10) p1)) p0)) 10 (uA (F 10) p1 (((F 10) p1) + 1))) 12 (uA (F 12) p0 p1)), rfl, (by right; refine ⟨by omega, Or.inr ⟨⟨by omega, by assumption⟩, Or.inr ⟨by omega, uA_s, rfl⟩⟩⟩), by rw [ht9]; exact hP, hS.F ht9⟩) hS.2.2 dX6_member_131
                · skip
                  -- 85 f
                  refine xr_bipush hx hb dX6_member_88 (by decide +kernel) ?_
                  exact W.iret (v := iI (-4)) hx hb hr (fun t ht9 hW => ⟨(-4), (uI I 0 0, F), rfl, (by right; refine ⟨by omega, Or.inr ⟨⟨by omega, by assumption⟩, Or.inl ⟨by omega, rfl, rfl⟩⟩⟩), by rw [ht9]; exact hP, hS.F ht9⟩) hS.2.2 dX6_member_90
              · skip
                -- 71 f
                refine xr_bipush hx hb dX6_member_74 (by decide +kernel) ?_
                exact W.iret (v := iI (-3)) hx hb hr (fun t ht9 hW => ⟨(-3), (uI I 0 0, F), rfl, (by right; refine ⟨by omega, Or.inl ⟨?_, rfl, rfl⟩⟩; first | exact Or.inr (by assumption) | exact Or.inl (by omega)), by rw [ht9]; exact hP, hS.F ht9⟩) hS.2.2 dX6_member_76
          · skip
            -- 30 f
            have f_pr := hv.pr kk (by omega) (by omega)
            refine lv_iload_n hx hb dX6_member_33 rfl (lv_at hl 0 rfl) ?_
            refine xr_if_ne (a := ri) (tgt := 43) hx hb dX6_member_34 (by decide) (fun c_11 => ?_) (fun c_11 => ?_) (by omega)
            · skip
              -- 34 t
              refine xr_iconst hx hb dX6_member_43 ?_
              refine lv_goto (tgt := 48) hx hb dX6_member_44 (by decide) ?_
              refine lv_istore_n (lv' := [(3, .int (iI 1)), (4, .int (iI kk)), (0, .ref (a 0)), (1, .int (iI p0)), (2, .int (iI p1))]) hx hb dX6_member_48 rfl hl (by decide) rfl (fun ls hl => ?_)
              refine lv_aload_n hx hb dX6_member_49 rfl (lv_at hl 2 rfl) ?_
              refine va_get (D := D) (cl := vwC) (ci := 7) (v := .ref (a 12)) (C := RX6) (T := TX6) (N := 27) hx hb hG.use i_X6 hown hK hP 0 rfl rfl 16 (by decide) (hG.use _ lf_X6_45) (fun _ h9 => h9) rfl dX6_member_50 ?_
              refine lv_iload hx hb dX6_member_53 (lv_at hl 1 rfl) ?_
              refine xr_iald (f := F 12) (z := kk) hx hb hK hP 12 11 rfl rfl (by omega) (by omega) (by decide) dX6_member_55 ?_
              refine lv_istore (lv' := [(4, .int (iI ((F 12) kk))), (3, .int (iI 1)), (0, .ref (a 0)), (1, .int (iI p0)), (2, .int (iI p1))]) hx hb dX6_member_56 hl (by decide) rfl (fun ls hl => ?_)
              refine lv_goto (tgt := 28) hx hb dX6_member_58 (by decide) ?_
              exact ih_28 1 ((F 12) kk) (nn + 1) (by have h8 := me_lt (rho := rho) (k := kk) (j := F 12 kk) (by omega) (fun h => hrho kk (by omega) (by omega) h); omega) (by omega) (by rw [up_go (by omega), ← i1]) (by first | (exfalso; omega) | (refine bz_t ?_; first | exact ⟨nn, by omega, by omega⟩ | (rcases i2 with i2 | i2; (obtain ⟨n, h1, h2⟩ := i2.2; exact ⟨n, by omega, h2⟩); omega)) | (refine bz_f ?_; rintro ⟨n, h1, h2⟩; by_cases h : n = nn; (subst h; omega); rcases i2 with i2 | i2; omega; exact i2.2 ⟨n, by omega, h2⟩)) ls (lv_sub hl [1, 0, 2, 3, 4] rfl)
            · skip
              -- 34 f
              refine lv_iload hx hb dX6_member_37 (lv_at hl 1 rfl) ?_
              refine lv_iload_n hx hb dX6_member_39 rfl (lv_at hl 3 rfl) ?_
              refine xr_icmp_ne (a := kk) (b := p0) (tgt := 47) hx hb dX6_member_40 (by decide) (fun c_12 => ?_) (fun c_12 => ?_) (by omega) (by omega)
              · skip
                -- 40 t
                refine xr_iconst hx hb dX6_member_47 ?_
                refine lv_istore_n (lv' := [(3, .int (iI 0)), (4, .int (iI kk)), (0, .ref (a 0)), (1, .int (iI p0)), (2, .int (iI p1))]) hx hb dX6_member_48 rfl hl (by decide) rfl (fun ls hl => ?_)
                refine lv_aload_n hx hb dX6_member_49 rfl (lv_at hl 2 rfl) ?_
                refine va_get (D := D) (cl := vwC) (ci := 7) (v := .ref (a 12)) (C := RX6) (T := TX6) (N := 27) hx hb hG.use i_X6 hown hK hP 0 rfl rfl 16 (by decide) (hG.use _ lf_X6_45) (fun _ h9 => h9) rfl dX6_member_50 ?_
                refine lv_iload hx hb dX6_member_53 (lv_at hl 1 rfl) ?_
                refine xr_iald (f := F 12) (z := kk) hx hb hK hP 12 11 rfl rfl (by omega) (by omega) (by decide) dX6_member_55 ?_
                refine lv_istore (lv' := [(4, .int (iI ((F 12) kk))), (3, .int (iI 0)), (0, .ref (a 0)), (1, .int (iI p0)), (2, .int (iI p1))]) hx hb dX6_member_56 hl (by decide) rfl (fun ls hl => ?_)
                refine lv_goto (tgt := 28) hx hb dX6_member_58 (by decide) ?_
                exact ih_28 0 ((F 12) kk) (nn + 1) (by have h8 := me_lt (rho := rho) (k := kk) (j := F 12 kk) (by omega) (fun h => hrho kk (by omega) (by omega) h); omega) (by omega) (by rw [up_go (by omega), ← i1]) (by first | (exfalso; omega) | (refine bz_t ?_; first | exact ⟨nn, by omega, by omega⟩ | (rcases i2 with i2 | i2; (obtain ⟨n, h1, h2⟩ := i2.2; exact ⟨n, by omega, h2⟩); omega)) | (refine bz_f ?_; rintro ⟨n, h1, h2⟩; by_cases h : n = nn; (subst h; omega); rcases i2 with i2 | i2; omega; exact i2.2 ⟨n, by omega, h2⟩)) ls (lv_sub hl [1, 0, 2, 3, 4] rfl)
              · skip
                -- 40 f
                refine xr_iconst hx hb dX6_member_43 ?_
                refine lv_goto (tgt := 48) hx hb dX6_member_44 (by decide) ?_
                refine lv_istore_n (lv' := [(3, .int (iI 1)), (4, .int (iI kk)), (0, .ref (a 0)), (1, .int (iI p0)), (2, .int (iI p1))]) hx hb dX6_member_48 rfl hl (by decide) rfl (fun ls hl => ?_)
                refine lv_aload_n hx hb dX6_member_49 rfl (lv_at hl 2 rfl) ?_
                refine va_get (D := D) (cl := vwC) (ci := 7) (v := .ref (a 12)) (C := RX6) (T := TX6) (N := 27) hx hb hG.use i_X6 hown hK hP 0 rfl rfl 16 (by decide) (hG.use _ lf_X6_45) (fun _ h9 => h9) rfl dX6_member_50 ?_
                refine lv_iload hx hb dX6_member_53 (lv_at hl 1 rfl) ?_
                refine xr_iald (f := F 12) (z := kk) hx hb hK hP 12 11 rfl rfl (by omega) (by omega) (by decide) dX6_member_55 ?_
                refine lv_istore (lv' := [(4, .int (iI ((F 12) kk))), (3, .int (iI 1)), (0, .ref (a 0)), (1, .int (iI p0)), (2, .int (iI p1))]) hx hb dX6_member_56 hl (by decide) rfl (fun ls hl => ?_)
                refine lv_goto (tgt := 28) hx hb dX6_member_58 (by decide) ?_
                exact ih_28 1 ((F 12) kk) (nn + 1) (by have h8 := me_lt (rho := rho) (k := kk) (j := F 12 kk) (by omega) (fun h => hrho kk (by omega) (by omega) h); omega) (by omega) (by rw [up_go (by omega), ← i1]) (by first | (exfalso; omega) | (refine bz_t ?_; first | exact ⟨nn, by omega, by omega⟩ | (rcases i2 with i2 | i2; (obtain ⟨n, h1, h2⟩ := i2.2; exact ⟨n, by omega, h2⟩); omega)) | (refine bz_f ?_; rintro ⟨n, h1, h2⟩; by_cases h : n = nn; (subst h; omega); rcases i2 with i2 | i2; omega; exact i2.2 ⟨n, by omega, h2⟩)) ls (lv_sub hl [1, 0, 2, 3, 4] rfl)
      exact lp_28 _ 0 p1 0 (Nat.lt_succ_self _) (by omega) (by rfl) (by exact bz_f (by rintro ⟨n, h1, h2⟩; omega)) ls (lv_sub hl [1, 0, 2, 3, 4] rfl)
    · skip
      -- 18 f
      refine xr_iconst hx hb dX6_member_21 ?_
      exact W.iret (v := iI (-1)) hx hb hr (fun t ht9 hW => ⟨(-1), (uI I 0 0, F), rfl, (by left; exact ⟨by omega, rfl, rfl⟩), by rw [ht9]; exact hP, hS.F ht9⟩) hS.2.2 dX6_member_22
set_option maxHeartbeats 4000000 in
set_option maxRecDepth 100000 in
theorem c_X6_migration (l : Launch) (D : va_G) (a : Nat → Nat) (k : Nat → ClassId) (I : Nat → Int) (F : Nat → Int → Int) (hdis : dis 21 a) (p0 p1 : Int) (hv : mInv I F) (b0 : -2147483648 ≤ p0 ∧ p0 < 2147483648) (b1 : -2147483648 ≤ p1 ∧ p1 < 2147483648) : mu_M (S := (Nat → Int) × (Nat → Int → Int)) l yX6_migration cX6_migration 4 (some .int) 2 [.ref (a 0), .int (iI p0), .int (iI p1)] D (mT k) (mW a k I F) (fun u => mW a k u.1 u.2) (fun r u => (¬ ((0 ≤ p0 ∧ p0 < 30) ∧ (-1 ≤ p1 ∧ p1 < 30)) ∧ r = -2 ∧ u = (uI I 0 0, F)) ∨ (((0 ≤ p0 ∧ p0 < 30) ∧ (-1 ≤ p1 ∧ p1 < 30)) ∧ (((rngP (F 17) p1 p0) ∧ r = -3 ∧ u = (uI I 0 0, F)) ∨ (¬ (rngP (F 17) p1 p0) ∧ r = 1 ∧ u = (uI I 0 0, uF F 17 (uA (F 17) p0 p1)))))) (adr 21 a) := by
  refine me_start (by decide) (Nat.le_of_ble_eq_true rfl) rfl ?_
  intro p e s m below meth c hx hb hml hr hown hlocks hnm hG hK hP ls hl
  have hown : s.vm.findClass RX6 = some m.cls := hown
  have hl : lv_has ls 4 [(0, .ref (a 0)), (1, .int (iI p0)), (2, .int (iI p1))] := hl
  have hS : va_S (adr 21 a) s.heap s.heap [] := va_S.rf
  obtain ⟨rho, hrho⟩ := hv.r2
  refine lv_aload_n hx hb dX6_migration_0 rfl (lv_at hl 0 rfl) ?_
  refine xr_iconst hx hb dX6_migration_1 ?_
  refine va_put (D := D) (cl := vwC) (ci := 7) (v := .int (iI 0)) (ty := .int) (C := RX6) (T := TX6) (N := 27) hx hb hG.use i_X6 tyX6 tyX6_ok nmX6 hown hK hP (mD hdis) hS 0 rfl rfl 0 (by decide) (hG.use _ lf_X6_72) (fun _ h9 => h9) rfl (by decide +kernel) rfl rfl (Nat.le_of_ble_eq_true rfl) dX6_migration_2 (fun H locs hP _ hS => ?_)
  have hP : va_P D vwC (mW a k (uI I 0 0) F) H := hP
  refine lv_iload_n hx hb dX6_migration_5 rfl (lv_at hl 1 rfl) ?_
  refine ro_call (g_runS (rest := []) hx hb hml hown hG (hK.sub (tys' := []) [] rfl) (va_P0) mS_X6_isFormat (c_X6_isFormat l D p0 (by omega)) lk_X6_132 rfl hl.1 rfl (Nat.le_of_ble_eq_true rfl) ⟨(Nat.le_of_ble_eq_true rfl), (Nat.le_of_ble_eq_true rfl)⟩ ⟨(Nat.le_of_ble_eq_true rfl), (Nat.le_of_ble_eq_true rfl)⟩ dX6_migration_6) (fun r_1 q_2 => ?_)
  refine xr_if_eqZ (tgt := 22) hx hb q_2 dX6_migration_9 (by decide) (fun c_3 => ?_) (fun c_3 => ?_)
  · skip
    -- 9 t
    refine xr_bipush hx hb dX6_migration_22 (by decide +kernel) ?_
    exact W.iret (v := iI (-2)) hx hb hr (fun t ht9 hW => ⟨(-2), (uI I 0 0, F), rfl, (by left; exact ⟨by omega, rfl, rfl⟩), by rw [ht9]; exact hP, hS.F ht9⟩) hS.2.2 dX6_migration_24
  · skip
    -- 9 f
    refine lv_iload_n hx hb dX6_migration_12 rfl (lv_at hl 2 rfl) ?_
    refine xr_iconst hx hb dX6_migration_13 ?_
    refine xr_bipush hx hb dX6_migration_14 (by decide +kernel) ?_
    refine ro_call (g_runS (rest := []) hx hb hml hown hG (hK.sub (tys' := []) [] rfl) (va_P0) mS_X6_in (c_X6_in l D p1 (-1) 29 (by omega) (by omega) (by omega)) lk_X6_79 rfl hl.1 rfl (Nat.le_of_ble_eq_true rfl) ⟨(Nat.le_of_ble_eq_true rfl), (Nat.le_of_ble_eq_true rfl)⟩ ⟨(Nat.le_of_ble_eq_true rfl), (Nat.le_of_ble_eq_true rfl)⟩ dX6_migration_16) (fun r_4 q_5 => ?_)
    refine xr_if_neZ (tgt := 25) hx hb q_5 dX6_migration_19 (by decide) (fun c_6 => ?_) (fun c_6 => ?_)
    · skip
      -- 19 t
      refine lv_iload_n hx hb dX6_migration_25 rfl (lv_at hl 2 rfl) ?_
      refine lv_istore_n (lv' := [(3, .int (iI p1)), (0, .ref (a 0)), (1, .int (iI p0)), (2, .int (iI p1))]) hx hb dX6_migration_26 rfl hl (by decide) rfl (fun ls hl => ?_)
      have lp_27 : ∀ (nz : Nat) (kk : Int) (nn : Nat), me rho kk < nz → (-1 ≤ kk ∧ kk < 30) → (kk = up (F 17) p1 nn) → (∀ n : Nat, n < nn → up (F 17) p1 n ≠ p0) → ∀ ls : Array Slot, lv_has ls 4 [(3, .int (iI kk)), (0, .ref (a 0)), (1, .int (iI p0)), (2, .int (iI p1))] → W p l e (rmd 2) s m ([.ref (a 0), .int (iI p0), .int (iI p1)] : List Value).toArray below meth c H locs 0 0 (MQ below (mu_Q (S := (Nat → Int) × (Nat → Int → Int)) (fun u => mW a k u.1 u.2) D (fun r u => (¬ ((0 ≤ p0 ∧ p0 < 30) ∧ (-1 ≤ p1 ∧ p1 < 30)) ∧ r = -2 ∧ u = (uI I 0 0, F)) ∨ (((0 ≤ p0 ∧ p0 < 30) ∧ (-1 ≤ p1 ∧ p1 < 30)) ∧ (((rngP (F 17) p1 p0) ∧ r = -3 ∧ u = (uI I 0 0, F)) ∨ (¬ (rngP (F 17) p1 p0) ∧ r = 1 ∧ u = (uI I 0 0, uF F 17 (uA (F 17) p0 p1)))))) (adr 21 a)) ([.ref (a 0), .int (iI p0), .int (iI p1)] : List Value).toArray s 0 0 (adr 21 a)) (F0 m 27 ls []) := by
        clear hl
        intro nz
        induction nz with
        | zero =>
          intro kk nn hn
          exact absurd hn (Nat.not_lt_zero _)
        | succ n_27 ih_27 =>
          intro kk nn hn_27 i0 i1 i2 ls hl
          refine lv_iload_n hx hb dX6_migration_27 rfl (lv_at hl 0 rfl) ?_
          refine xr_if_lt (a := kk) (tgt := 49) hx hb dX6_migration_28 (by decide) (fun c_7 => ?_) (fun c_7 => ?_) (by omega)
          · skip
            -- 28 t
            refine lv_aload_n hx hb dX6_migration_49 rfl (lv_at hl 1 rfl) ?_
            refine va_get (D := D) (cl := vwC) (ci := 7) (v := .ref (a 17)) (C := RX6) (T := TX6) (N := 27) hx hb hG.use i_X6 hown hK hP 0 rfl rfl 22 (by decide) (hG.use _ lf_X6_60) (fun _ h9 => h9) rfl dX6_migration_50 ?_
            refine lv_iload_n hx hb dX6_migration_53 rfl (lv_at hl 2 rfl) ?_
            refine lv_iload_n hx hb dX6_migration_54 rfl (lv_at hl 3 rfl) ?_
            refine xr_iast (f := F 17) (z := p0) (v := p1) hx hb hK hP (mD hdis) hS 17 16 rfl rfl (by omega) (by omega) (by decide) dX6_migration_55 (fun H locs hP hS => ?_)
            have hP : va_P D vwC (mW a k (uI I 0 0) (uF F 17 (uA (F 17) p0 p1))) H := hP
            refine xr_iconst hx hb dX6_migration_56 ?_
            exact W.iret (v := iI 1) hx hb hr (fun t ht9 hW => ⟨1, (uI I 0 0, uF F 17 (uA (F 17) p0 p1)), rfl, (by right; refine ⟨by omega, Or.inr ⟨?_, rfl, rfl⟩⟩; rintro ⟨n, hn⟩; by_cases h : n < nn; exact i2 n h hn; have h7 := up_end (g := F 17) (z := p1) (n := nn) (by omega) (n - nn); rw [show nn + (n - nn) = n by omega] at h7; omega), by rw [ht9]; exact hP, hS.F ht9⟩) hS.2.2 dX6_migration_57
          · skip
            -- 28 f
            have f_mg := hv.mg kk (by omega) (by omega)
            refine lv_iload_n hx hb dX6_migration_31 rfl (lv_at hl 0 rfl) ?_
            refine lv_iload_n hx hb dX6_migration_32 rfl (lv_at hl 2 rfl) ?_
            refine xr_icmp_ne (a := kk) (b := p0) (tgt := 39) hx hb dX6_migration_33 (by decide) (fun c_8 => ?_) (fun c_8 => ?_) (by omega) (by omega)
            · skip
              -- 33 t
              refine lv_aload_n hx hb dX6_migration_39 rfl (lv_at hl 1 rfl) ?_
              refine va_get (D := D) (cl := vwC) (ci := 7) (v := .ref (a 17)) (C := RX6) (T := TX6) (N := 27) hx hb hG.use i_X6 hown hK hP 0 rfl rfl 22 (by decide) (hG.use _ lf_X6_60) (fun _ h9 => h9) rfl dX6_migration_40 ?_
              refine lv_iload_n hx hb dX6_migration_43 rfl (lv_at hl 0 rfl) ?_
              refine xr_iald (f := F 17) (z := kk) hx hb hK hP 17 16 rfl rfl (by omega) (by omega) (by decide) dX6_migration_44 ?_
              refine lv_istore_n (lv' := [(3, .int (iI ((F 17) kk))), (0, .ref (a 0)), (1, .int (iI p0)), (2, .int (iI p1))]) hx hb dX6_migration_45 rfl hl (by decide) rfl (fun ls hl => ?_)
              refine lv_goto (tgt := 27) hx hb dX6_migration_46 (by decide) ?_
              exact ih_27 ((F 17) kk) (nn + 1) (by have h8 := me_lt (rho := rho) (k := kk) (j := F 17 kk) (by omega) (fun h => hrho kk (by omega) (by omega) h); omega) (by omega) (by rw [up_go (by omega), ← i1]) (by intro n hn; by_cases h : n = nn; (subst h; omega); exact i2 n (by omega)) ls (lv_sub hl [0, 1, 2, 3] rfl)
            · skip
              -- 33 f
              refine xr_bipush hx hb dX6_migration_36 (by decide +kernel) ?_
              exact W.iret (v := iI (-3)) hx hb hr (fun t ht9 hW => ⟨(-3), (uI I 0 0, F), rfl, (by right; exact ⟨by omega, Or.inl ⟨⟨nn, by omega⟩, rfl, rfl⟩⟩), by rw [ht9]; exact hP, hS.F ht9⟩) hS.2.2 dX6_migration_38
      exact lp_27 _ p1 0 (Nat.lt_succ_self _) (by omega) (by rfl) (by intro n hn; omega) ls (lv_sub hl [0, 1, 2, 3] rfl)
    · skip
      -- 19 f
      refine xr_bipush hx hb dX6_migration_22 (by decide +kernel) ?_
      exact W.iret (v := iI (-2)) hx hb hr (fun t ht9 hW => ⟨(-2), (uI I 0 0, F), rfl, (by left; exact ⟨by omega, rfl, rfl⟩), by rw [ht9]; exact hP, hS.F ht9⟩) hS.2.2 dX6_migration_24
set_option maxHeartbeats 4000000 in
set_option maxRecDepth 100000 in
theorem c_X6_becomes (l : Launch) (D : va_G) (a : Nat → Nat) (k : Nat → ClassId) (I : Nat → Int) (F : Nat → Int → Int) (hdis : dis 21 a) (p0 : Int) (hv : mInv I F) (b0 : -2147483648 ≤ p0 ∧ p0 < 2147483648) : mu_M (S := (Nat → Int) × (Nat → Int → Int)) l yX6_becomes cX6_becomes 3 (some .int) 2 [.ref (a 0), .int (iI p0)] D (mT k) (mW a k I F) (fun u => mW a k u.1 u.2) (fun r u => u = (uI I 0 0, F) ∧ ((¬ (0 ≤ p0 ∧ p0 < 30) ∧ r = -2) ∨ ((0 ≤ p0 ∧ p0 < 30) ∧ ∃ n : Nat, ¬ (F 16 (bc (F 16) (F 17) p0 n) = 1 ∧ F 17 (bc (F 16) (F 17) p0 n) ≠ -1) ∧ ((bc (F 16) (F 17) p0 n = p0 ∧ r = -1) ∨ (bc (F 16) (F 17) p0 n ≠ p0 ∧ r = bc (F 16) (F 17) p0 n))))) (adr 21 a) := by
  refine me_start (by decide) (Nat.le_of_ble_eq_true rfl) rfl ?_
  intro p e s m below meth c hx hb hml hr hown hlocks hnm hG hK hP ls hl
  have hown : s.vm.findClass RX6 = some m.cls := hown
  have hl : lv_has ls 3 [(0, .ref (a 0)), (1, .int (iI p0))] := hl
  have hS : va_S (adr 21 a) s.heap s.heap [] := va_S.rf
  obtain ⟨rho, hrho⟩ := hv.r2
  refine lv_aload_n hx hb dX6_becomes_0 rfl (lv_at hl 0 rfl) ?_
  refine xr_iconst hx hb dX6_becomes_1 ?_
  refine va_put (D := D) (cl := vwC) (ci := 7) (v := .int (iI 0)) (ty := .int) (C := RX6) (T := TX6) (N := 27) hx hb hG.use i_X6 tyX6 tyX6_ok nmX6 hown hK hP (mD hdis) hS 0 rfl rfl 0 (by decide) (hG.use _ lf_X6_72) (fun _ h9 => h9) rfl (by decide +kernel) rfl rfl (Nat.le_of_ble_eq_true rfl) dX6_becomes_2 (fun H locs hP _ hS => ?_)
  have hP : va_P D vwC (mW a k (uI I 0 0) F) H := hP
  refine lv_iload_n hx hb dX6_becomes_5 rfl (lv_at hl 1 rfl) ?_
  refine ro_call (g_runS (rest := []) hx hb hml hown hG (hK.sub (tys' := []) [] rfl) (va_P0) mS_X6_isFormat (c_X6_isFormat l D p0 (by omega)) lk_X6_132 rfl hl.1 rfl (Nat.le_of_ble_eq_true rfl) ⟨(Nat.le_of_ble_eq_true rfl), (Nat.le_of_ble_eq_true rfl)⟩ ⟨(Nat.le_of_ble_eq_true rfl), (Nat.le_of_ble_eq_true rfl)⟩ dX6_becomes_6) (fun r_1 q_2 => ?_)
  refine xr_if_neZ (tgt := 15) hx hb q_2 dX6_becomes_9 (by decide) (fun c_3 => ?_) (fun c_3 => ?_)
  · skip
    -- 9 t
    refine lv_iload_n hx hb dX6_becomes_15 rfl (lv_at hl 1 rfl) ?_
    refine lv_istore_n (lv' := [(2, .int (iI p0)), (0, .ref (a 0)), (1, .int (iI p0))]) hx hb dX6_becomes_16 rfl hl (by decide) rfl (fun ls hl => ?_)
    have lp_17 : ∀ (nz : Nat) (xx : Int) (nn : Nat), rho xx < nz → (0 ≤ xx ∧ xx < 30) → (xx = bc (F 16) (F 17) p0 nn) → ∀ ls : Array Slot, lv_has ls 3 [(2, .int (iI xx)), (0, .ref (a 0)), (1, .int (iI p0))] → W p l e (rmd 2) s m ([.ref (a 0), .int (iI p0)] : List Value).toArray below meth c H locs 0 0 (MQ below (mu_Q (S := (Nat → Int) × (Nat → Int → Int)) (fun u => mW a k u.1 u.2) D (fun r u => u = (uI I 0 0, F) ∧ ((¬ (0 ≤ p0 ∧ p0 < 30) ∧ r = -2) ∨ ((0 ≤ p0 ∧ p0 < 30) ∧ ∃ n : Nat, ¬ (F 16 (bc (F 16) (F 17) p0 n) = 1 ∧ F 17 (bc (F 16) (F 17) p0 n) ≠ -1) ∧ ((bc (F 16) (F 17) p0 n = p0 ∧ r = -1) ∨ (bc (F 16) (F 17) p0 n ≠ p0 ∧ r = bc (F 16) (F 17) p0 n))))) (adr 21 a)) ([.ref (a 0), .int (iI p0)] : List Value).toArray s 0 0 (adr 21 a)) (F0 m 17 ls []) := by
      clear hl
      intro nz
      induction nz with
      | zero =>
        intro xx nn hn
        exact absurd hn (Nat.not_lt_zero _)
      | succ n_17 ih_17 =>
        intro xx nn hn_17 i0 i1 ls hl
        have f_mg := hv.mg xx (by omega) (by omega)
        refine lv_aload_n hx hb dX6_becomes_17 rfl (lv_at hl 1 rfl) ?_
        refine va_get (D := D) (cl := vwC) (ci := 7) (v := .ref (a 16)) (C := RX6) (T := TX6) (N := 27) hx hb hG.use i_X6 hown hK hP 0 rfl rfl 21 (by decide) (hG.use _ lf_X6_57) (fun _ h9 => h9) rfl dX6_becomes_18 ?_
        refine lv_iload_n hx hb dX6_becomes_21 rfl (lv_at hl 0 rfl) ?_
        refine xr_zald (f := F 16) (z := xx) hx hb hK hP 16 15 rfl rfl (by omega) (by omega) (by decide) dX6_becomes_22 ?_
        refine xr_if_eq (a := (F 16) xx) (tgt := 45) hx hb dX6_becomes_23 (by decide) (fun c_4 => ?_) (fun c_4 => ?_) (by omega)
        · skip
          -- 23 t
          refine lv_iload_n hx hb dX6_becomes_45 rfl (lv_at hl 0 rfl) ?_
          refine lv_iload_n hx hb dX6_becomes_46 rfl (lv_at hl 2 rfl) ?_
          refine xr_icmp_ne (a := xx) (b := p0) (tgt := 54) hx hb dX6_becomes_47 (by decide) (fun c_5 => ?_) (fun c_5 => ?_) (by omega) (by omega)
          · skip
            -- 47 t
            refine lv_iload_n hx hb dX6_becomes_54 rfl (lv_at hl 0 rfl) ?_
            exact W.iret (v := iI xx) hx hb hr (fun t ht9 hW => ⟨xx, (uI I 0 0, F), rfl, (by refine ⟨rfl, Or.inr ⟨by omega, nn, ?_, ?_⟩⟩; (rw [← i1]; omega); rw [← i1]; omega), by rw [ht9]; exact hP, hS.F ht9⟩) hS.2.2 dX6_becomes_55
          · skip
            -- 47 f
            refine xr_iconst hx hb dX6_becomes_50 ?_
            refine lv_goto (tgt := 55) hx hb dX6_becomes_51 (by decide) ?_
            exact W.iret (v := iI (-1)) hx hb hr (fun t ht9 hW => ⟨(-1), (uI I 0 0, F), rfl, (by refine ⟨rfl, Or.inr ⟨by omega, nn, ?_, ?_⟩⟩; (rw [← i1]; omega); rw [← i1]; omega), by rw [ht9]; exact hP, hS.F ht9⟩) hS.2.2 dX6_becomes_55
        · skip
          -- 23 f
          refine lv_aload_n hx hb dX6_becomes_26 rfl (lv_at hl 1 rfl) ?_
          refine va_get (D := D) (cl := vwC) (ci := 7) (v := .ref (a 17)) (C := RX6) (T := TX6) (N := 27) hx hb hG.use i_X6 hown hK hP 0 rfl rfl 22 (by decide) (hG.use _ lf_X6_60) (fun _ h9 => h9) rfl dX6_becomes_27 ?_
          refine lv_iload_n hx hb dX6_becomes_30 rfl (lv_at hl 0 rfl) ?_
          refine xr_iald (f := F 17) (z := xx) hx hb hK hP 17 16 rfl rfl (by omega) (by omega) (by decide) dX6_becomes_31 ?_
          refine xr_if_lt (a := (F 17) xx) (tgt := 45) hx hb dX6_becomes_32 (by decide) (fun c_6 => ?_) (fun c_6 => ?_) (by omega)
          · skip
            -- 32 t
            refine lv_iload_n hx hb dX6_becomes_45 rfl (lv_at hl 0 rfl) ?_
            refine lv_iload_n hx hb dX6_becomes_46 rfl (lv_at hl 2 rfl) ?_
            refine xr_icmp_ne (a := xx) (b := p0) (tgt := 54) hx hb dX6_becomes_47 (by decide) (fun c_7 => ?_) (fun c_7 => ?_) (by omega) (by omega)
            · skip
              -- 47 t
              refine lv_iload_n hx hb dX6_becomes_54 rfl (lv_at hl 0 rfl) ?_
              exact W.iret (v := iI xx) hx hb hr (fun t ht9 hW => ⟨xx, (uI I 0 0, F), rfl, (by refine ⟨rfl, Or.inr ⟨by omega, nn, ?_, ?_⟩⟩; (rw [← i1]; omega); rw [← i1]; omega), by rw [ht9]; exact hP, hS.F ht9⟩) hS.2.2 dX6_becomes_55
            · skip
              -- 47 f
              refine xr_iconst hx hb dX6_becomes_50 ?_
              refine lv_goto (tgt := 55) hx hb dX6_becomes_51 (by decide) ?_
              exact W.iret (v := iI (-1)) hx hb hr (fun t ht9 hW => ⟨(-1), (uI I 0 0, F), rfl, (by refine ⟨rfl, Or.inr ⟨by omega, nn, ?_, ?_⟩⟩; (rw [← i1]; omega); rw [← i1]; omega), by rw [ht9]; exact hP, hS.F ht9⟩) hS.2.2 dX6_becomes_55
          · skip
            -- 32 f
            refine lv_aload_n hx hb dX6_becomes_35 rfl (lv_at hl 1 rfl) ?_
            refine va_get (D := D) (cl := vwC) (ci := 7) (v := .ref (a 17)) (C := RX6) (T := TX6) (N := 27) hx hb hG.use i_X6 hown hK hP 0 rfl rfl 22 (by decide) (hG.use _ lf_X6_60) (fun _ h9 => h9) rfl dX6_becomes_36 ?_
            refine lv_iload_n hx hb dX6_becomes_39 rfl (lv_at hl 0 rfl) ?_
            refine xr_iald (f := F 17) (z := xx) hx hb hK hP 17 16 rfl rfl (by omega) (by omega) (by decide) dX6_becomes_40 ?_
            refine lv_istore_n (lv' := [(2, .int (iI ((F 17) xx))), (0, .ref (a 0)), (1, .int (iI p0))]) hx hb dX6_becomes_41 rfl hl (by decide) rfl (fun ls hl => ?_)
            refine lv_goto (tgt := 17) hx hb dX6_becomes_42 (by decide) ?_
            exact ih_17 ((F 17) xx) (nn + 1) (by have h8 := hrho xx (by omega) (by omega) (by omega); omega) (by omega) (by rw [bc_go (by rw [← i1]; omega) (by rw [← i1]; omega), ← i1]) ls (lv_sub hl [0, 1, 2] rfl)
    exact lp_17 _ p0 0 (Nat.lt_succ_self _) (by omega) (by rfl) ls (lv_sub hl [0, 1, 2] rfl)
  · skip
    -- 9 f
    refine xr_bipush hx hb dX6_becomes_12 (by decide +kernel) ?_
    exact W.iret (v := iI (-2)) hx hb hr (fun t ht9 hW => ⟨(-2), (uI I 0 0, F), rfl, (by exact ⟨rfl, Or.inl ⟨by omega, rfl⟩⟩), by rw [ht9]; exact hP, hS.F ht9⟩) hS.2.2 dX6_becomes_14
