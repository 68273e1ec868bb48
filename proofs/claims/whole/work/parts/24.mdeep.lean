theorem ex_1 {Q : Int → Prop} {kj ho : Int} (h : bz (∃ j : Int, (0 ≤ j ∧ j < kj) ∧ Q j) ho) (hn : ¬ ho = 0) : bz (∃ j : Int, (0 ≤ j ∧ j < kj + 1) ∧ Q j) 1 := by
  rcases h with ⟨-, j, h1, h2⟩ | ⟨h1, -⟩
  · exact bz_t ⟨j, by omega, h2⟩
  · exact absurd h1 hn
theorem ex_2 {Q : Int → Prop} {kj : Int} (h0 : 0 ≤ kj) (h : Q kj) : bz (∃ j : Int, (0 ≤ j ∧ j < kj + 1) ∧ Q j) 1 := bz_t ⟨kj, by omega, h⟩
theorem ex_3 {Q : Int → Prop} {kj ho : Int} (h : bz (∃ j : Int, (0 ≤ j ∧ j < kj) ∧ Q j) ho) (hn : ho = 0) (hq : ¬ Q kj) : bz (∃ j : Int, (0 ≤ j ∧ j < kj + 1) ∧ Q j) 0 := by
  refine bz_f ?_
  rintro ⟨j, h1, h2⟩
  by_cases e : j = kj
  · subst e; exact hq h2
  · rcases h with ⟨h3, -⟩ | ⟨-, h3⟩
    · omega
    · exact h3 ⟨j, by omega, h2⟩
theorem dl_at {I : Nat → Int} {F : Nat → Int → Int} (hv : mInv I F) {Dp : Int → Int} {w kj ho is cf p0 : Int} (h3 : bz (∃ j : Int, (0 ≤ j ∧ j < kj) ∧ Dp (F 11 (8 * p0 + j)) = w) ho) (h4 : 0 < kj → cf = is) (h5 : F 10 p0 ≤ kj ∨ ¬ cf = is) (h6 : 0 ≤ kj ∧ kj ≤ F 10 p0) (hp : 0 ≤ p0 ∧ p0 < I 4) : bz (cf = is ∧ ∃ o : Int, (0 ≤ o ∧ o < I 4) ∧ F 12 o = p0 ∧ Dp o = w) ho := by
  refine bz_iff h3 ⟨fun ⟨j, h1, h2⟩ => ⟨h4 (by omega), ?_⟩, fun ⟨he, o, h1, h2, h7⟩ => ?_⟩
  · have q := (hv.ml p0 (F 11 (8 * p0 + j)) hp.1 hp.2).mp ⟨j, by omega, rfl⟩
    exact ⟨_, q.1, q.2, h2⟩
  · obtain ⟨j, j1, j2⟩ := (hv.ml p0 o hp.1 hp.2).mpr ⟨h1, h2⟩
    rcases h5 with h5 | h5
    · exact ⟨j, by omega, by rw [j2]; exact h7⟩
    · exact absurd he h5
theorem tg_neg {cf cw ct : Int → Int} {fm : Int} {P : Int → Prop} (hf : fm < 0) : ∀ n : Nat, (∀ i : Int, 0 ≤ i → i < n → 0 ≤ cf i) → tg cf cw ct fm P n = fm
  | 0, _ => rfl
  | n + 1, h => by
    have h1 := h n (by omega) (by omega)
    rw [tg_f (fun q => by have := q.1; omega)]
    exact tg_neg hf n (fun i a b => h i a (by omega))
theorem tg_z {cf cw ct : Int → Int} {fm : Int} {P : Int → Prop} {c : Int} (h0 : 0 ≤ c) : (cf c = fm → P (cw c) → tg cf cw ct fm P (c + 1).toNat = ct c) ∧ (¬ (cf c = fm ∧ P (cw c)) → tg cf cw ct fm P (c + 1).toNat = tg cf cw ct fm P c.toNat) := by
  have e : (c + 1).toNat = c.toNat + 1 := by omega
  have e2 : ((c.toNat : Nat) : Int) = c := by omega
  rw [e]
  refine ⟨fun a b => ?_, fun a => ?_⟩
  · have := tg_t (cf := cf) (cw := cw) (ct := ct) (fm := fm) (P := P) (n := c.toNat) (by rw [e2]; exact a) (by rw [e2]; exact b)
    rw [e2] at this
    exact this
  · exact tg_f (by rw [e2]; exact a)
set_option maxHeartbeats 4000000 in
set_option maxRecDepth 100000 in
theorem c_X6_deepest (l : Launch) (D : va_G) (a : Nat → Nat) (k : Nat → ClassId) (I : Nat → Int) (F : Nat → Int → Int) (hdis : dis 21 a) (p0 : Int) (hv : mInv I F) (h0 : 0 ≤ p0 ∧ p0 < I 4) : mu_M (S := (Nat → Int) × (Nat → Int → Int)) l yX6_deepest cX6_deepest 2 (some .int) 2 [.ref (a 0), .int (iI p0)] D (mT k) (mW a k I F) (fun u => mW a k u.1 u.2) (fun r u => r = mdv I F 0 p0 ∧ ∃ g : Int → Int, u = (I, uF F 20 g)) (adr 21 a) := by
  refine me_start (by decide) (Nat.le_of_ble_eq_true rfl) rfl ?_
  intro p e s m below meth c hx hb hml hr hown hlocks hnm hG hK hP ls hl
  have hown : s.vm.findClass RX6 = some m.cls := hown
  have hl : lv_has ls 2 [(0, .ref (a 0)), (1, .int (iI p0))] := hl
  have hS : va_S (adr 21 a) s.heap s.heap [] := va_S.rf
  have f_n := hv.n
  refine lv_aload_n hx hb dX6_deepest_0 rfl (lv_at hl 0 rfl) ?_
  refine lv_iload_n hx hb dX6_deepest_1 rfl (lv_at hl 1 rfl) ?_
  refine lv_aload_n hx hb dX6_deepest_2 rfl (lv_at hl 0 rfl) ?_
  refine va_get (D := D) (cl := vwC) (ci := 7) (v := .int (iI (I 3))) (C := RX6) (T := TX6) (N := 27) hx hb hG.use i_X6 hown hK hP 0 rfl rfl 4 (by decide) (hG.use _ lf_X6_97) (fun _ h9 => h9) rfl dX6_deepest_3 ?_
  refine mu_call (g_runV (rest := []) hx hb hml hown hG hK hP mV_X6_formatOf (c_X6_formatOf l D a k I F hdis p0 (I 3) hv (show 0 ≤ p0 ∧ p0 < I 4 by omega) (show 0 ≤ I 3 ∧ I 3 ≤ I 3 by omega)) lk_X6_125 (va_recv hK hP (ci := 7) (q0 := 0) rfl rfl) rfl hl.1 rfl (Nat.le_of_ble_eq_true rfl) ⟨(Nat.le_of_ble_eq_true rfl), (Nat.le_of_ble_eq_true rfl)⟩ ⟨(Nat.le_of_ble_eq_true rfl), (Nat.le_of_ble_eq_true rfl)⟩ dX6_deepest_6) hS (fun _ h => h) (fun r_1 u H locs q_2 hP _ _ hS => ?_)
  obtain ⟨I1, F1⟩ := u
  try dsimp only at q_2
  rcases q_2 with ⟨hfm, gq_3, hu, hgq⟩
  · skip
    cases hu
    have hP : va_P D vwC (mW a k I (uF F 20 gq_3)) H := hP
    have hfm : r_1 = fv (mset F p0 (I 3)) := hfm
    have f_m := fv_in (mset_in hv (f := p0) (n := I 3) (by omega))
    have hgq : ∀ q, 0 ≤ q → q < 30 → (gq_3 q = 0 ∨ gq_3 q = 1) ∧ (gq_3 q = 1 ↔ mset F p0 (I 3) q) := hgq
    exact W.iret (v := iI r_1) hx hb hr (fun t ht9 hW => ⟨r_1, (I, uF F 20 gq_3), rfl, (by exact ⟨hfm, _, rfl⟩), by rw [ht9]; exact hP, hS.F ht9⟩) hS.2.2 dX6_deepest_9
set_option maxHeartbeats 4000000 in
set_option maxRecDepth 100000 in
theorem c_X6_deep2 (l : Launch) (D : va_G) (a : Nat → Nat) (k : Nat → ClassId) (I : Nat → Int) (F : Nat → Int → Int) (hdis : dis 21 a) (p0 : Int) (hv : mInv I F) (h0 : 0 ≤ p0 ∧ p0 < I 4) : mu_M (S := (Nat → Int) × (Nat → Int → Int)) l yX6_deep2 cX6_deep2 7 (some .int) 3 [.ref (a 0), .int (iI p0)] D (mT k) (mW a k I F) (fun u => mW a k u.1 u.2) (fun r u => r = mdv I F 1 p0 ∧ ∃ g : Int → Int, u = (I, uF F 20 g)) (adr 21 a) := by
  refine me_start (by decide) (Nat.le_of_ble_eq_true rfl) rfl ?_
  intro p e s m below meth c hx hb hml hr hown hlocks hnm hG hK hP ls hl
  have hown : s.vm.findClass RX6 = some m.cls := hown
  have hl : lv_has ls 7 [(0, .ref (a 0)), (1, .int (iI p0))] := hl
  have hS : va_S (adr 21 a) s.heap s.heap [] := va_S.rf
  have f_n := hv.n
  have f_fl := hv.fl p0 (by omega) (by omega)
  refine lv_aload_n hx hb dX6_deep2_0 rfl (lv_at hl 0 rfl) ?_
  refine lv_iload_n hx hb dX6_deep2_1 rfl (lv_at hl 1 rfl) ?_
  refine lv_aload_n hx hb dX6_deep2_2 rfl (lv_at hl 0 rfl) ?_
  refine va_get (D := D) (cl := vwC) (ci := 7) (v := .int (iI (I 3))) (C := RX6) (T := TX6) (N := 27) hx hb hG.use i_X6 hown hK hP 0 rfl rfl 4 (by decide) (hG.use _ lf_X6_97) (fun _ h9 => h9) rfl dX6_deep2_3 ?_
  refine mu_call (g_runV (rest := []) hx hb hml hown hG hK hP mV_X6_formatOf (c_X6_formatOf l D a k I F hdis p0 (I 3) hv (show 0 ≤ p0 ∧ p0 < I 4 by omega) (show 0 ≤ I 3 ∧ I 3 ≤ I 3 by omega)) lk_X6_125 (va_recv hK hP (ci := 7) (q0 := 0) rfl rfl) rfl hl.1 rfl (Nat.le_of_ble_eq_true rfl) ⟨(Nat.le_of_ble_eq_true rfl), (Nat.le_of_ble_eq_true rfl)⟩ ⟨(Nat.le_of_ble_eq_true rfl), (Nat.le_of_ble_eq_true rfl)⟩ dX6_deep2_6) hS (fun _ h => h) (fun r_1 u H locs q_2 hP _ _ hS => ?_)
  obtain ⟨I1, F1⟩ := u
  try dsimp only at q_2
  rcases q_2 with ⟨hfm, gq_3, hu, hgq⟩
  · skip
    cases hu
    have hP : va_P D vwC (mW a k I (uF F 20 gq_3)) H := hP
    have hfm : r_1 = fv (mset F p0 (I 3)) := hfm
    have f_m := fv_in (mset_in hv (f := p0) (n := I 3) (by omega))
    have hgq : ∀ q, 0 ≤ q → q < 30 → (gq_3 q = 0 ∨ gq_3 q = 1) ∧ (gq_3 q = 1 ↔ mset F p0 (I 3) q) := hgq
    have hfm2 : r_1 = mfm I F p0 := hfm
    have f_m2 := mfm_in hv p0
    refine lv_istore_n (lv' := [(2, .int (iI r_1)), (0, .ref (a 0)), (1, .int (iI p0))]) hx hb dX6_deep2_9 rfl hl (by decide) rfl (fun ls hl => ?_)
    refine lv_iload_n hx hb dX6_deep2_10 rfl (lv_at hl 0 rfl) ?_
    refine lv_istore_n (lv' := [(3, .int (iI r_1)), (2, .int (iI r_1)), (0, .ref (a 0)), (1, .int (iI p0))]) hx hb dX6_deep2_11 rfl hl (by decide) rfl (fun ls hl => ?_)
    refine xr_iconst hx hb dX6_deep2_12 ?_
    refine lv_istore (lv' := [(4, .int (iI 0)), (3, .int (iI r_1)), (2, .int (iI r_1)), (0, .ref (a 0)), (1, .int (iI p0))]) hx hb dX6_deep2_13 hl (by decide) rfl (fun ls hl => ?_)
    have lp_15 : ∀ (nz : Nat) (ta : Int) (cc : Int) (g : Int → Int) (H : Heap) (locs : List Loc), (I 5 - cc).toNat < nz → (0 ≤ cc ∧ cc ≤ I 5) → (ta = tg (F 13) (F 14) (F 15) (mfm I F p0) (fun w => ∃ o, (0 ≤ o ∧ o < I 4) ∧ F 12 o = p0 ∧ mdv I F 0 o = w) cc.toNat) → (-5 ≤ ta ∧ ta < 30) → va_P D vwC (mW a k I (uF (uF F 20 gq_3) 20 g)) H → va_S (adr 21 a) s.heap H locs → ∀ ls : Array Slot, lv_has ls 7 [(3, .int (iI ta)), (4, .int (iI cc)), (0, .ref (a 0)), (1, .int (iI p0)), (2, .int (iI r_1))] → W p l e (rmd 3) s m ([.ref (a 0), .int (iI p0)] : List Value).toArray below meth c H locs 0 0 (MQ below (mu_Q (S := (Nat → Int) × (Nat → Int → Int)) (fun u => mW a k u.1 u.2) D (fun r u => r = mdv I F 1 p0 ∧ ∃ g : Int → Int, u = (I, uF F 20 g)) (adr 21 a)) ([.ref (a 0), .int (iI p0)] : List Value).toArray s 0 0 (adr 21 a)) (F0 m 15 ls []) := by
      clear hl
      intro nz
      induction nz with
      | zero =>
        intro ta cc g H locs hn
        exact absurd hn (Nat.not_lt_zero _)
      | succ n_15 ih_15 =>
        intro ta cc g H locs hn_15 i0 i1 i2 hP hS ls hl
        refine lv_iload hx hb dX6_deep2_15 (lv_at hl 1 rfl) ?_
        refine lv_aload_n hx hb dX6_deep2_17 rfl (lv_at hl 2 rfl) ?_
        refine va_get (D := D) (cl := vwC) (ci := 7) (v := .int (iI (I 5))) (C := RX6) (T := TX6) (N := 27) hx hb hG.use i_X6 hown hK hP 0 rfl rfl 17 (by decide) (hG.use _ lf_X6_135) (fun _ h9 => h9) rfl dX6_deep2_18 ?_
        refine xr_icmp_ge (a := cc) (b := I 5) (tgt := 123) hx hb dX6_deep2_21 (by decide) (fun c_4 => ?_) (fun c_4 => ?_) (by omega) (by omega)
        · skip
          -- 21 t
          refine lv_iload_n hx hb dX6_deep2_123 rfl (lv_at hl 0 rfl) ?_
          exact W.iret (v := iI ta) hx hb hr (fun t ht9 hW => ⟨ta, (I, uF F 20 g), rfl, (by refine ⟨?_, _, rfl⟩; rw [i1]; first | (have e5 : cc = I 5 := (by omega); rw [e5]; by_cases hz : 0 ≤ mfm I F p0; exact (if_pos hz).symm; (rw [tg_neg (by omega) _ (fun i a b => (hv.cn i a (by omega)).1.1)]; exact (if_neg hz).symm)) | (rw [tg_neg (by omega) _ (fun i a b => (hv.cn i a (by omega)).1.1)]; exact (if_neg (by omega)).symm)), by rw [ht9]; exact hP, hS.F ht9⟩) hS.2.2 dX6_deep2_124
        · skip
          -- 21 f
          refine lv_iload_n hx hb dX6_deep2_24 rfl (lv_at hl 4 rfl) ?_
          refine xr_if_lt (a := r_1) (tgt := 123) hx hb dX6_deep2_25 (by decide) (fun c_5 => ?_) (fun c_5 => ?_) (by omega)
          · skip
            -- 25 t
            refine lv_iload_n hx hb dX6_deep2_123 rfl (lv_at hl 0 rfl) ?_
            exact W.iret (v := iI ta) hx hb hr (fun t ht9 hW => ⟨ta, (I, uF F 20 g), rfl, (by refine ⟨?_, _, rfl⟩; rw [i1]; first | (have e5 : cc = I 5 := (by omega); rw [e5]; by_cases hz : 0 ≤ mfm I F p0; exact (if_pos hz).symm; (rw [tg_neg (by omega) _ (fun i a b => (hv.cn i a (by omega)).1.1)]; exact (if_neg hz).symm)) | (rw [tg_neg (by omega) _ (fun i a b => (hv.cn i a (by omega)).1.1)]; exact (if_neg (by omega)).symm)), by rw [ht9]; exact hP, hS.F ht9⟩) hS.2.2 dX6_deep2_124
          · skip
            -- 25 f
            have f_cn := hv.cn cc (by omega) (by omega)
            refine xr_iconst hx hb dX6_deep2_28 ?_
            refine lv_istore (lv' := [(5, .int (iI 0)), (3, .int (iI ta)), (4, .int (iI cc)), (0, .ref (a 0)), (1, .int (iI p0)), (2, .int (iI r_1))]) hx hb dX6_deep2_29 hl (by decide) rfl (fun ls hl => ?_)
            refine xr_iconst hx hb dX6_deep2_31 ?_
            refine lv_istore (lv' := [(6, .int (iI 0)), (5, .int (iI 0)), (3, .int (iI ta)), (4, .int (iI cc)), (0, .ref (a 0)), (1, .int (iI p0)), (2, .int (iI r_1))]) hx hb dX6_deep2_32 hl (by decide) rfl (fun ls hl => ?_)
            have lp_34 : ∀ (nz : Nat) (ho : Int) (kj : Int) (gi : Int → Int) (H : Heap) (locs : List Loc), (F 10 p0 - kj).toNat < nz → (0 ≤ kj ∧ kj ≤ F 10 p0) → (0 < kj → F 13 cc = mfm I F p0) → (bz (∃ j : Int, (0 ≤ j ∧ j < kj) ∧ mdv I F 0 (F 11 (8 * p0 + j)) = F 14 cc) ho) → va_P D vwC (mW a k I (uF (uF (uF F 20 gq_3) 20 g) 20 gi)) H → va_S (adr 21 a) s.heap H locs → ∀ ls : Array Slot, lv_has ls 7 [(5, .int (iI ho)), (6, .int (iI kj)), (0, .ref (a 0)), (1, .int (iI p0)), (2, .int (iI r_1)), (3, .int (iI ta)), (4, .int (iI cc))] → W p l e (rmd 3) s m ([.ref (a 0), .int (iI p0)] : List Value).toArray below meth c H locs 0 0 (MQ below (mu_Q (S := (Nat → Int) × (Nat → Int → Int)) (fun u => mW a k u.1 u.2) D (fun r u => r = mdv I F 1 p0 ∧ ∃ g : Int → Int, u = (I, uF F 20 g)) (adr 21 a)) ([.ref (a 0), .int (iI p0)] : List Value).toArray s 0 0 (adr 21 a)) (F0 m 34 ls []) := by
              clear hl
              intro nz
              induction nz with
              | zero =>
                intro ho kj gi H locs hn
                exact absurd hn (Nat.not_lt_zero _)
              | succ n_34 ih_34 =>
                intro ho kj gi H locs hn_34 k0 i4 i3 hP hS ls hl
                have f_z := bz_01 i3
                refine lv_iload hx hb dX6_deep2_34 (lv_at hl 1 rfl) ?_
                refine lv_aload_n hx hb dX6_deep2_36 rfl (lv_at hl 2 rfl) ?_
                refine va_get (D := D) (cl := vwC) (ci := 7) (v := .ref (a 10)) (C := RX6) (T := TX6) (N := 27) hx hb hG.use i_X6 hown hK hP 0 rfl rfl 14 (by decide) (hG.use _ lf_X6_39) (fun _ h9 => h9) rfl dX6_deep2_37 ?_
                refine lv_iload_n hx hb dX6_deep2_40 rfl (lv_at hl 3 rfl) ?_
                refine xr_iald (f := F 10) (z := p0) hx hb hK hP 10 9 rfl rfl (by omega) (by omega) (by decide) dX6_deep2_41 ?_
                refine xr_icmp_ge (a := kj) (b := (F 10) p0) (tgt := 100) hx hb dX6_deep2_42 (by decide) (fun c_6 => ?_) (fun c_6 => ?_) (by omega) (by omega)
                · skip
                  -- 42 t
                  have i5 := dl_at hv (Dp := mdv I F 0) (w := F 14 cc) (kj := kj) (is := mfm I F p0) (cf := F 13 cc) i3 (fun h => by omega) (by omega) (by omega) h0
                  refine lv_iload hx hb dX6_deep2_100 (lv_at hl 0 rfl) ?_
                  refine xr_if_eqZ (tgt := 115) hx hb i5 dX6_deep2_102 (by decide) (fun c_7 => ?_) (fun c_7 => ?_)
                  · skip
                    -- 102 t
                    have h102 := c_7
                    refine lv_iload_n hx hb dX6_deep2_115 rfl (lv_at hl 5 rfl) ?_
                    refine lv_istore_n (lv' := [(3, .int (iI ta)), (5, .int (iI ho)), (6, .int (iI kj)), (0, .ref (a 0)), (1, .int (iI p0)), (2, .int (iI r_1)), (4, .int (iI cc))]) hx hb dX6_deep2_116 rfl hl (by decide) rfl (fun ls hl => ?_)
                    refine xr_iinc (z := cc) (lv' := [(4, .int (iI (cc + 1))), (3, .int (iI ta)), (5, .int (iI ho)), (6, .int (iI kj)), (0, .ref (a 0)), (1, .int (iI p0)), (2, .int (iI r_1))]) hx hb dX6_deep2_117 hl (k := 6) rfl (by decide) rfl (fun ls hl => ?_)
                    refine lv_goto (tgt := 15) hx hb dX6_deep2_120 (by decide) ?_
                    exact ih_15 ta (cc + 1) gi _ _ (by omega) (by omega) (by first | exact ((tg_z (by omega)).1 h102.1 h102.2).symm | (rw [(tg_z (by omega)).2 h102]; exact i1)) (by omega) hP hS ls (lv_sub hl [1, 0, 4, 5, 6] rfl)
                  · skip
                    -- 102 f
                    have h102 := c_7
                    refine lv_aload_n hx hb dX6_deep2_105 rfl (lv_at hl 2 rfl) ?_
                    refine va_get (D := D) (cl := vwC) (ci := 7) (v := .ref (a 15)) (C := RX6) (T := TX6) (N := 27) hx hb hG.use i_X6 hown hK hP 0 rfl rfl 20 (by decide) (hG.use _ lf_X6_54) (fun _ h9 => h9) rfl dX6_deep2_106 ?_
                    refine lv_iload hx hb dX6_deep2_109 (lv_at hl 6 rfl) ?_
                    refine xr_iald (f := F 15) (z := cc) hx hb hK hP 15 14 rfl rfl (by omega) (by omega) (by decide) dX6_deep2_111 ?_
                    refine lv_goto (tgt := 116) hx hb dX6_deep2_112 (by decide) ?_
                    refine lv_istore_n (lv' := [(3, .int (iI ((F 15) cc))), (5, .int (iI ho)), (6, .int (iI kj)), (0, .ref (a 0)), (1, .int (iI p0)), (2, .int (iI r_1)), (4, .int (iI cc))]) hx hb dX6_deep2_116 rfl hl (by decide) rfl (fun ls hl => ?_)
                    refine xr_iinc (z := cc) (lv' := [(4, .int (iI (cc + 1))), (3, .int (iI ((F 15) cc))), (5, .int (iI ho)), (6, .int (iI kj)), (0, .ref (a 0)), (1, .int (iI p0)), (2, .int (iI r_1))]) hx hb dX6_deep2_117 hl (k := 6) rfl (by decide) rfl (fun ls hl => ?_)
                    refine lv_goto (tgt := 15) hx hb dX6_deep2_120 (by decide) ?_
                    exact ih_15 ((F 15) cc) (cc + 1) gi _ _ (by omega) (by omega) (by first | exact ((tg_z (by omega)).1 h102.1 h102.2).symm | (rw [(tg_z (by omega)).2 h102]; exact i1)) (by omega) hP hS ls (lv_sub hl [1, 0, 4, 5, 6] rfl)
                · skip
                  -- 42 f
                  refine lv_aload_n hx hb dX6_deep2_45 rfl (lv_at hl 2 rfl) ?_
                  refine va_get (D := D) (cl := vwC) (ci := 7) (v := .ref (a 13)) (C := RX6) (T := TX6) (N := 27) hx hb hG.use i_X6 hown hK hP 0 rfl rfl 18 (by decide) (hG.use _ lf_X6_48) (fun _ h9 => h9) rfl dX6_deep2_46 ?_
                  refine lv_iload hx hb dX6_deep2_49 (lv_at hl 6 rfl) ?_
                  refine xr_iald (f := F 13) (z := cc) hx hb hK hP 13 12 rfl rfl (by omega) (by omega) (by decide) dX6_deep2_51 ?_
                  refine lv_iload_n hx hb dX6_deep2_52 rfl (lv_at hl 4 rfl) ?_
                  refine xr_icmp_ne (a := (F 13) cc) (b := r_1) (tgt := 100) hx hb dX6_deep2_53 (by decide) (fun c_8 => ?_) (fun c_8 => ?_) (by omega) (by omega)
                  · skip
                    -- 53 t
                    have i5 := dl_at hv (Dp := mdv I F 0) (w := F 14 cc) (kj := kj) (is := mfm I F p0) (cf := F 13 cc) i3 (fun h => by omega) (by omega) (by omega) h0
                    refine lv_iload hx hb dX6_deep2_100 (lv_at hl 0 rfl) ?_
                    refine xr_if_eqZ (tgt := 115) hx hb i5 dX6_deep2_102 (by decide) (fun c_9 => ?_) (fun c_9 => ?_)
                    · skip
                      -- 102 t
                      have h102 := c_9
                      refine lv_iload_n hx hb dX6_deep2_115 rfl (lv_at hl 5 rfl) ?_
                      refine lv_istore_n (lv' := [(3, .int (iI ta)), (5, .int (iI ho)), (6, .int (iI kj)), (0, .ref (a 0)), (1, .int (iI p0)), (2, .int (iI r_1)), (4, .int (iI cc))]) hx hb dX6_deep2_116 rfl hl (by decide) rfl (fun ls hl => ?_)
                      refine xr_iinc (z := cc) (lv' := [(4, .int (iI (cc + 1))), (3, .int (iI ta)), (5, .int (iI ho)), (6, .int (iI kj)), (0, .ref (a 0)), (1, .int (iI p0)), (2, .int (iI r_1))]) hx hb dX6_deep2_117 hl (k := 6) rfl (by decide) rfl (fun ls hl => ?_)
                      refine lv_goto (tgt := 15) hx hb dX6_deep2_120 (by decide) ?_
                      exact ih_15 ta (cc + 1) gi _ _ (by omega) (by omega) (by first | exact ((tg_z (by omega)).1 h102.1 h102.2).symm | (rw [(tg_z (by omega)).2 h102]; exact i1)) (by omega) hP hS ls (lv_sub hl [1, 0, 4, 5, 6] rfl)
                    · skip
                      -- 102 f
                      have h102 := c_9
                      refine lv_aload_n hx hb dX6_deep2_105 rfl (lv_at hl 2 rfl) ?_
                      refine va_get (D := D) (cl := vwC) (ci := 7) (v := .ref (a 15)) (C := RX6) (T := TX6) (N := 27) hx hb hG.use i_X6 hown hK hP 0 rfl rfl 20 (by decide) (hG.use _ lf_X6_54) (fun _ h9 => h9) rfl dX6_deep2_106 ?_
                      refine lv_iload hx hb dX6_deep2_109 (lv_at hl 6 rfl) ?_
                      refine xr_iald (f := F 15) (z := cc) hx hb hK hP 15 14 rfl rfl (by omega) (by omega) (by decide) dX6_deep2_111 ?_
                      refine lv_goto (tgt := 116) hx hb dX6_deep2_112 (by decide) ?_
                      refine lv_istore_n (lv' := [(3, .int (iI ((F 15) cc))), (5, .int (iI ho)), (6, .int (iI kj)), (0, .ref (a 0)), (1, .int (iI p0)), (2, .int (iI r_1)), (4, .int (iI cc))]) hx hb dX6_deep2_116 rfl hl (by decide) rfl (fun ls hl => ?_)
                      refine xr_iinc (z := cc) (lv' := [(4, .int (iI (cc + 1))), (3, .int (iI ((F 15) cc))), (5, .int (iI ho)), (6, .int (iI kj)), (0, .ref (a 0)), (1, .int (iI p0)), (2, .int (iI r_1))]) hx hb dX6_deep2_117 hl (k := 6) rfl (by decide) rfl (fun ls hl => ?_)
                      refine lv_goto (tgt := 15) hx hb dX6_deep2_120 (by decide) ?_
                      exact ih_15 ((F 15) cc) (cc + 1) gi _ _ (by omega) (by omega) (by first | exact ((tg_z (by omega)).1 h102.1 h102.2).symm | (rw [(tg_z (by omega)).2 h102]; exact i1)) (by omega) hP hS ls (lv_sub hl [1, 0, 4, 5, 6] rfl)
                  · skip
                    -- 53 f
                    refine lv_iload hx hb dX6_deep2_56 (lv_at hl 0 rfl) ?_
                    refine xr_if_ne (a := ho) (tgt := 87) hx hb dX6_deep2_58 (by decide) (fun c_10 => ?_) (fun c_10 => ?_) (by omega)
                    · skip
                      -- 58 t
                      refine xr_iconst hx hb dX6_deep2_87 ?_
                      refine lv_goto (tgt := 92) hx hb dX6_deep2_88 (by decide) ?_
                      refine lv_istore (lv' := [(5, .int (iI 1)), (6, .int (iI kj)), (0, .ref (a 0)), (1, .int (iI p0)), (2, .int (iI r_1)), (3, .int (iI ta)), (4, .int (iI cc))]) hx hb dX6_deep2_92 hl (by decide) rfl (fun ls hl => ?_)
                      refine xr_iinc (z := kj) (lv' := [(6, .int (iI (kj + 1))), (5, .int (iI 1)), (0, .ref (a 0)), (1, .int (iI p0)), (2, .int (iI r_1)), (3, .int (iI ta)), (4, .int (iI cc))]) hx hb dX6_deep2_94 hl (k := 1) rfl (by decide) rfl (fun ls hl => ?_)
                      refine lv_goto (tgt := 34) hx hb dX6_deep2_97 (by decide) ?_
                      exact ih_34 1 (kj + 1) gi _ _ (by omega) (by omega) (by intro _; omega) (by first | exact ex_1 i3 (by omega) | exact ex_2 (Q := fun j => mdv I F 0 (F 11 (8 * p0 + j)) = F 14 cc) (by omega) (by show mdv I F 0 (F 11 (8 * p0 + kj)) = F 14 cc; omega) | exact ex_3 (Q := fun j => mdv I F 0 (F 11 (8 * p0 + j)) = F 14 cc) i3 (by omega) (by show ¬ mdv I F 0 (F 11 (8 * p0 + kj)) = F 14 cc; omega)) hP hS ls (lv_sub hl [1, 0, 2, 3, 4, 5, 6] rfl)
                    · skip
                      -- 58 f
                      refine lv_aload_n hx hb dX6_deep2_61 rfl (lv_at hl 2 rfl) ?_
                      refine lv_aload_n hx hb dX6_deep2_62 rfl (lv_at hl 2 rfl) ?_
                      refine va_get (D := D) (cl := vwC) (ci := 7) (v := .ref (a 11)) (C := RX6) (T := TX6) (N := 27) hx hb hG.use i_X6 hown hK hP 0 rfl rfl 15 (by decide) (hG.use _ lf_X6_42) (fun _ h9 => h9) rfl dX6_deep2_63 ?_
                      refine xr_bipush hx hb dX6_deep2_66 (by decide +kernel) ?_
                      refine lv_iload_n hx hb dX6_deep2_68 rfl (lv_at hl 3 rfl) ?_
                      refine xr_imul (a := 8) (b := p0) hx hb dX6_deep2_69 ?_
                      refine lv_iload hx hb dX6_deep2_70 (lv_at hl 1 rfl) ?_
                      refine xr_iadd (a := 8 * p0) (b := kj) hx hb dX6_deep2_72 ?_
                      refine xr_iald (f := F 11) (z := (8 * p0) + kj) hx hb hK hP 11 10 rfl rfl (by omega) (by omega) (by decide) dX6_deep2_73 ?_
                      have f_mb := ((hv.ml p0 (F 11 (8 * p0 + kj)) (by omega) (by omega)).mp ⟨kj, by omega, rfl⟩).1
                      refine mu_call (g_runV (rest := []) hx hb hml hown hG hK hP mV_X6_deepest (c_X6_deepest l D a k I (uF (uF (uF F 20 gq_3) 20 g) 20 gi) hdis ((F 11) ((8 * p0) + kj)) hv (show 0 ≤ (F 11) ((8 * p0) + kj) ∧ (F 11) ((8 * p0) + kj) < I 4 by omega)) lk_X6_138 (va_recv hK hP (ci := 7) (q0 := 0) rfl rfl) rfl hl.1 rfl (Nat.le_of_ble_eq_true rfl) ⟨(Nat.le_of_ble_eq_true rfl), (Nat.le_of_ble_eq_true rfl)⟩ ⟨(Nat.le_of_ble_eq_true rfl), (Nat.le_of_ble_eq_true rfl)⟩ dX6_deep2_74) hS (fun _ h => h) (fun r_11 u H locs q_12 hP _ _ hS => ?_)
                      obtain ⟨I2, F2⟩ := u
                      try dsimp only at q_12
                      rcases q_12 with ⟨hdv, gd_13, hu⟩
                      · skip
                        cases hu
                        have hP : va_P D vwC (mW a k I (uF (uF (uF (uF F 20 gq_3) 20 g) 20 gi) 20 gd_13)) H := hP
                        have hdv : r_11 = mdv I F 0 ((F 11) ((8 * p0) + kj)) := hdv
                        have f_d := mdv_in hv 0 ((F 11) ((8 * p0) + kj))
                        rw [← hdv] at f_d
                        refine lv_aload_n hx hb dX6_deep2_77 rfl (lv_at hl 2 rfl) ?_
                        refine va_get (D := D) (cl := vwC) (ci := 7) (v := .ref (a 14)) (C := RX6) (T := TX6) (N := 27) hx hb hG.use i_X6 hown hK hP 0 rfl rfl 19 (by decide) (hG.use _ lf_X6_51) (fun _ h9 => h9) rfl dX6_deep2_78 ?_
                        refine lv_iload hx hb dX6_deep2_81 (lv_at hl 6 rfl) ?_
                        refine xr_iald (f := F 14) (z := cc) hx hb hK hP 14 13 rfl rfl (by omega) (by omega) (by decide) dX6_deep2_83 ?_
                        refine xr_icmp_ne (a := r_11) (b := (F 14) cc) (tgt := 91) hx hb dX6_deep2_84 (by decide) (fun c_14 => ?_) (fun c_14 => ?_) (by omega) (by omega)
                        · skip
                          -- 84 t
                          refine xr_iconst hx hb dX6_deep2_91 ?_
                          refine lv_istore (lv' := [(5, .int (iI 0)), (6, .int (iI kj)), (0, .ref (a 0)), (1, .int (iI p0)), (2, .int (iI r_1)), (3, .int (iI ta)), (4, .int (iI cc))]) hx hb dX6_deep2_92 hl (by decide) rfl (fun ls hl => ?_)
                          refine xr_iinc (z := kj) (lv' := [(6, .int (iI (kj + 1))), (5, .int (iI 0)), (0, .ref (a 0)), (1, .int (iI p0)), (2, .int (iI r_1)), (3, .int (iI ta)), (4, .int (iI cc))]) hx hb dX6_deep2_94 hl (k := 1) rfl (by decide) rfl (fun ls hl => ?_)
                          refine lv_goto (tgt := 34) hx hb dX6_deep2_97 (by decide) ?_
                          exact ih_34 0 (kj + 1) gd_13 _ _ (by omega) (by omega) (by intro _; omega) (by first | exact ex_1 i3 (by omega) | exact ex_2 (Q := fun j => mdv I F 0 (F 11 (8 * p0 + j)) = F 14 cc) (by omega) (by show mdv I F 0 (F 11 (8 * p0 + kj)) = F 14 cc; omega) | exact ex_3 (Q := fun j => mdv I F 0 (F 11 (8 * p0 + j)) = F 14 cc) i3 (by omega) (by show ¬ mdv I F 0 (F 11 (8 * p0 + kj)) = F 14 cc; omega)) hP hS ls (lv_sub hl [1, 0, 2, 3, 4, 5, 6] rfl)
                        · skip
                          -- 84 f
                          refine xr_iconst hx hb dX6_deep2_87 ?_
                          refine lv_goto (tgt := 92) hx hb dX6_deep2_88 (by decide) ?_
                          refine lv_istore (lv' := [(5, .int (iI 1)), (6, .int (iI kj)), (0, .ref (a 0)), (1, .int (iI p0)), (2, .int (iI r_1)), (3, .int (iI ta)), (4, .int (iI cc))]) hx hb dX6_deep2_92 hl (by decide) rfl (fun ls hl => ?_)
                          refine xr_iinc (z := kj) (lv' := [(6, .int (iI (kj + 1))), (5, .int (iI 1)), (0, .ref (a 0)), (1, .int (iI p0)), (2, .int (iI r_1)), (3, .int (iI ta)), (4, .int (iI cc))]) hx hb dX6_deep2_94 hl (k := 1) rfl (by decide) rfl (fun ls hl => ?_)
                          refine lv_goto (tgt := 34) hx hb dX6_deep2_97 (by decide) ?_
                          exact ih_34 1 (kj + 1) gd_13 _ _ (by omega) (by omega) (by intro _; omega) (by first | exact ex_1 i3 (by omega) | exact ex_2 (Q := fun j => mdv I F 0 (F 11 (8 * p0 + j)) = F 14 cc) (by omega) (by show mdv I F 0 (F 11 (8 * p0 + kj)) = F 14 cc; omega) | exact ex_3 (Q := fun j => mdv I F 0 (F 11 (8 * p0 + j)) = F 14 cc) i3 (by omega) (by show ¬ mdv I F 0 (F 11 (8 * p0 + kj)) = F 14 cc; omega)) hP hS ls (lv_sub hl [1, 0, 2, 3, 4, 5, 6] rfl)
            exact lp_34 _ 0 0 g _ _ (Nat.lt_succ_self _) (by omega) (by intro h; omega) (by exact bz_f (by rintro ⟨j, h1, h2⟩; omega)) hP hS ls (lv_sub hl [1, 0, 4, 5, 6, 2, 3] rfl)
    exact lp_15 _ r_1 0 gq_3 _ _ (Nat.lt_succ_self _) (by omega) (by exact hfm2) (by omega) hP hS ls (lv_sub hl [1, 0, 3, 4, 2] rfl)
set_option maxHeartbeats 4000000 in
set_option maxRecDepth 100000 in
theorem c_X6_deep1 (l : Launch) (D : va_G) (a : Nat → Nat) (k : Nat → ClassId) (I : Nat → Int) (F : Nat → Int → Int) (hdis : dis 21 a) (p0 : Int) (hv : mInv I F) (h0 : 0 ≤ p0 ∧ p0 < I 4) : mu_M (S := (Nat → Int) × (Nat → Int → Int)) l yX6_deep1 cX6_deep1 7 (some .int) 4 [.ref (a 0), .int (iI p0)] D (mT k) (mW a k I F) (fun u => mW a k u.1 u.2) (fun r u => r = mdv I F 2 p0 ∧ ∃ g : Int → Int, u = (I, uF F 20 g)) (adr 21 a) := by
  refine me_start (by decide) (Nat.le_of_ble_eq_true rfl) rfl ?_
  intro p e s m below meth c hx hb hml hr hown hlocks hnm hG hK hP ls hl
  have hown : s.vm.findClass RX6 = some m.cls := hown
  have hl : lv_has ls 7 [(0, .ref (a 0)), (1, .int (iI p0))] := hl
  have hS : va_S (adr 21 a) s.heap s.heap [] := va_S.rf
  have f_n := hv.n
  have f_fl := hv.fl p0 (by omega) (by omega)
  refine lv_aload_n hx hb dX6_deep1_0 rfl (lv_at hl 0 rfl) ?_
  refine lv_iload_n hx hb dX6_deep1_1 rfl (lv_at hl 1 rfl) ?_
  refine lv_aload_n hx hb dX6_deep1_2 rfl (lv_at hl 0 rfl) ?_
  refine va_get (D := D) (cl := vwC) (ci := 7) (v := .int (iI (I 3))) (C := RX6) (T := TX6) (N := 27) hx hb hG.use i_X6 hown hK hP 0 rfl rfl 4 (by decide) (hG.use _ lf_X6_97) (fun _ h9 => h9) rfl dX6_deep1_3 ?_
  refine mu_call (g_runV (rest := []) hx hb hml hown hG hK hP mV_X6_formatOf (c_X6_formatOf l D a k I F hdis p0 (I 3) hv (show 0 ≤ p0 ∧ p0 < I 4 by omega) (show 0 ≤ I 3 ∧ I 3 ≤ I 3 by omega)) lk_X6_125 (va_recv hK hP (ci := 7) (q0 := 0) rfl rfl) rfl hl.1 rfl (Nat.le_of_ble_eq_true rfl) ⟨(Nat.le_of_ble_eq_true rfl), (Nat.le_of_ble_eq_true rfl)⟩ ⟨(Nat.le_of_ble_eq_true rfl), (Nat.le_of_ble_eq_true rfl)⟩ dX6_deep1_6) hS (fun _ h => h) (fun r_1 u H locs q_2 hP _ _ hS => ?_)
  obtain ⟨I1, F1⟩ := u
  try dsimp only at q_2
  rcases q_2 with ⟨hfm, gq_3, hu, hgq⟩
  · skip
    cases hu
    have hP : va_P D vwC (mW a k I (uF F 20 gq_3)) H := hP
    have hfm : r_1 = fv (mset F p0 (I 3)) := hfm
    have f_m := fv_in (mset_in hv (f := p0) (n := I 3) (by omega))
    have hgq : ∀ q, 0 ≤ q → q < 30 → (gq_3 q = 0 ∨ gq_3 q = 1) ∧ (gq_3 q = 1 ↔ mset F p0 (I 3) q) := hgq
    have hfm2 : r_1 = mfm I F p0 := hfm
    have f_m2 := mfm_in hv p0
    refine lv_istore_n (lv' := [(2, .int (iI r_1)), (0, .ref (a 0)), (1, .int (iI p0))]) hx hb dX6_deep1_9 rfl hl (by decide) rfl (fun ls hl => ?_)
    refine lv_iload_n hx hb dX6_deep1_10 rfl (lv_at hl 0 rfl) ?_
    refine lv_istore_n (lv' := [(3, .int (iI r_1)), (2, .int (iI r_1)), (0, .ref (a 0)), (1, .int (iI p0))]) hx hb dX6_deep1_11 rfl hl (by decide) rfl (fun ls hl => ?_)
    refine xr_iconst hx hb dX6_deep1_12 ?_
    refine lv_istore (lv' := [(4, .int (iI 0)), (3, .int (iI r_1)), (2, .int (iI r_1)), (0, .ref (a 0)), (1, .int (iI p0))]) hx hb dX6_deep1_13 hl (by decide) rfl (fun ls hl => ?_)
    have lp_15 : ∀ (nz : Nat) (ta : Int) (cc : Int) (g : Int → Int) (H : Heap) (locs : List Loc), (I 5 - cc).toNat < nz → (0 ≤ cc ∧ cc ≤ I 5) → (ta = tg (F 13) (F 14) (F 15) (mfm I F p0) (fun w => ∃ o, (0 ≤ o ∧ o < I 4) ∧ F 12 o = p0 ∧ mdv I F 1 o = w) cc.toNat) → (-5 ≤ ta ∧ ta < 30) → va_P D vwC (mW a k I (uF (uF F 20 gq_3) 20 g)) H → va_S (adr 21 a) s.heap H locs → ∀ ls : Array Slot, lv_has ls 7 [(3, .int (iI ta)), (4, .int (iI cc)), (0, .ref (a 0)), (1, .int (iI p0)), (2, .int (iI r_1))] → W p l e (rmd 4) s m ([.ref (a 0), .int (iI p0)] : List Value).toArray below meth c H locs 0 0 (MQ below (mu_Q (S := (Nat → Int) × (Nat → Int → Int)) (fun u => mW a k u.1 u.2) D (fun r u => r = mdv I F 2 p0 ∧ ∃ g : Int → Int, u = (I, uF F 20 g)) (adr 21 a)) ([.ref (a 0), .int (iI p0)] : List Value).toArray s 0 0 (adr 21 a)) (F0 m 15 ls []) := by
      clear hl
      intro nz
      induction nz with
      | zero =>
        intro ta cc g H locs hn
        exact absurd hn (Nat.not_lt_zero _)
      | succ n_15 ih_15 =>
        intro ta cc g H locs hn_15 i0 i1 i2 hP hS ls hl
        refine lv_iload hx hb dX6_deep1_15 (lv_at hl 1 rfl) ?_
        refine lv_aload_n hx hb dX6_deep1_17 rfl (lv_at hl 2 rfl) ?_
        refine va_get (D := D) (cl := vwC) (ci := 7) (v := .int (iI (I 5))) (C := RX6) (T := TX6) (N := 27) hx hb hG.use i_X6 hown hK hP 0 rfl rfl 17 (by decide) (hG.use _ lf_X6_135) (fun _ h9 => h9) rfl dX6_deep1_18 ?_
        refine xr_icmp_ge (a := cc) (b := I 5) (tgt := 123) hx hb dX6_deep1_21 (by decide) (fun c_4 => ?_) (fun c_4 => ?_) (by omega) (by omega)
        · skip
          -- 21 t
          refine lv_iload_n hx hb dX6_deep1_123 rfl (lv_at hl 0 rfl) ?_
          exact W.iret (v := iI ta) hx hb hr (fun t ht9 hW => ⟨ta, (I, uF F 20 g), rfl, (by refine ⟨?_, _, rfl⟩; rw [i1]; first | (have e5 : cc = I 5 := (by omega); rw [e5]; by_cases hz : 0 ≤ mfm I F p0; exact (if_pos hz).symm; (rw [tg_neg (by omega) _ (fun i a b => (hv.cn i a (by omega)).1.1)]; exact (if_neg hz).symm)) | (rw [tg_neg (by omega) _ (fun i a b => (hv.cn i a (by omega)).1.1)]; exact (if_neg (by omega)).symm)), by rw [ht9]; exact hP, hS.F ht9⟩) hS.2.2 dX6_deep1_124
        · skip
          -- 21 f
          refine lv_iload_n hx hb dX6_deep1_24 rfl (lv_at hl 4 rfl) ?_
          refine xr_if_lt (a := r_1) (tgt := 123) hx hb dX6_deep1_25 (by decide) (fun c_5 => ?_) (fun c_5 => ?_) (by omega)
          · skip
            -- 25 t
            refine lv_iload_n hx hb dX6_deep1_123 rfl (lv_at hl 0 rfl) ?_
            exact W.iret (v := iI ta) hx hb hr (fun t ht9 hW => ⟨ta, (I, uF F 20 g), rfl, (by refine ⟨?_, _, rfl⟩; rw [i1]; first | (have e5 : cc = I 5 := (by omega); rw [e5]; by_cases hz : 0 ≤ mfm I F p0; exact (if_pos hz).symm; (rw [tg_neg (by omega) _ (fun i a b => (hv.cn i a (by omega)).1.1)]; exact (if_neg hz).symm)) | (rw [tg_neg (by omega) _ (fun i a b => (hv.cn i a (by omega)).1.1)]; exact (if_neg (by omega)).symm)), by rw [ht9]; exact hP, hS.F ht9⟩) hS.2.2 dX6_deep1_124
          · skip
            -- 25 f
            have f_cn := hv.cn cc (by omega) (by omega)
            refine xr_iconst hx hb dX6_deep1_28 ?_
            refine lv_istore (lv' := [(5, .int (iI 0)), (3, .int (iI ta)), (4, .int (iI cc)), (0, .ref (a 0)), (1, .int (iI p0)), (2, .int (iI r_1))]) hx hb dX6_deep1_29 hl (by decide) rfl (fun ls hl => ?_)
            refine xr_iconst hx hb dX6_deep1_31 ?_
            refine lv_istore (lv' := [(6, .int (iI 0)), (5, .int (iI 0)), (3, .int (iI ta)), (4, .int (iI cc)), (0, .ref (a 0)), (1, .int (iI p0)), (2, .int (iI r_1))]) hx hb dX6_deep1_32 hl (by decide) rfl (fun ls hl => ?_)
            have lp_34 : ∀ (nz : Nat) (ho : Int) (kj : Int) (gi : Int → Int) (H : Heap) (locs : List Loc), (F 10 p0 - kj).toNat < nz → (0 ≤ kj ∧ kj ≤ F 10 p0) → (0 < kj → F 13 cc = mfm I F p0) → (bz (∃ j : Int, (0 ≤ j ∧ j < kj) ∧ mdv I F 1 (F 11 (8 * p0 + j)) = F 14 cc) ho) → va_P D vwC (mW a k I (uF (uF (uF F 20 gq_3) 20 g) 20 gi)) H → va_S (adr 21 a) s.heap H locs → ∀ ls : Array Slot, lv_has ls 7 [(5, .int (iI ho)), (6, .int (iI kj)), (0, .ref (a 0)), (1, .int (iI p0)), (2, .int (iI r_1)), (3, .int (iI ta)), (4, .int (iI cc))] → W p l e (rmd 4) s m ([.ref (a 0), .int (iI p0)] : List Value).toArray below meth c H locs 0 0 (MQ below (mu_Q (S := (Nat → Int) × (Nat → Int → Int)) (fun u => mW a k u.1 u.2) D (fun r u => r = mdv I F 2 p0 ∧ ∃ g : Int → Int, u = (I, uF F 20 g)) (adr 21 a)) ([.ref (a 0), .int (iI p0)] : List Value).toArray s 0 0 (adr 21 a)) (F0 m 34 ls []) := by
              clear hl
              intro nz
              induction nz with
              | zero =>
                intro ho kj gi H locs hn
                exact absurd hn (Nat.not_lt_zero _)
              | succ n_34 ih_34 =>
                intro ho kj gi H locs hn_34 k0 i4 i3 hP hS ls hl
                have f_z := bz_01 i3
                refine lv_iload hx hb dX6_deep1_34 (lv_at hl 1 rfl) ?_
                refine lv_aload_n hx hb dX6_deep1_36 rfl (lv_at hl 2 rfl) ?_
                refine va_get (D := D) (cl := vwC) (ci := 7) (v := .ref (a 10)) (C := RX6) (T := TX6) (N := 27) hx hb hG.use i_X6 hown hK hP 0 rfl rfl 14 (by decide) (hG.use _ lf_X6_39) (fun _ h9 => h9) rfl dX6_deep1_37 ?_
                refine lv_iload_n hx hb dX6_deep1_40 rfl (lv_at hl 3 rfl) ?_
                refine xr_iald (f := F 10) (z := p0) hx hb hK hP 10 9 rfl rfl (by omega) (by omega) (by decide) dX6_deep1_41 ?_
                refine xr_icmp_ge (a := kj) (b := (F 10) p0) (tgt := 100) hx hb dX6_deep1_42 (by decide) (fun c_6 => ?_) (fun c_6 => ?_) (by omega) (by omega)
                · skip
                  -- 42 t
                  have i5 := dl_at hv (Dp := mdv I F 1) (w := F 14 cc) (kj := kj) (is := mfm I F p0) (cf := F 13 cc) i3 (fun h => by omega) (by omega) (by omega) h0
                  refine lv_iload hx hb dX6_deep1_100 (lv_at hl 0 rfl) ?_
                  refine xr_if_eqZ (tgt := 115) hx hb i5 dX6_deep1_102 (by decide) (fun c_7 => ?_) (fun c_7 => ?_)
                  · skip
                    -- 102 t
                    have h102 := c_7
                    refine lv_iload_n hx hb dX6_deep1_115 rfl (lv_at hl 5 rfl) ?_
                    refine lv_istore_n (lv' := [(3, .int (iI ta)), (5, .int (iI ho)), (6, .int (iI kj)), (0, .ref (a 0)), (1, .int (iI p0)), (2, .int (iI r_1)), (4, .int (iI cc))]) hx hb dX6_deep1_116 rfl hl (by decide) rfl (fun ls hl => ?_)
                    refine xr_iinc (z := cc) (lv' := [(4, .int (iI (cc + 1))), (3, .int (iI ta)), (5, .int (iI ho)), (6, .int (iI kj)), (0, .ref (a 0)), (1, .int (iI p0)), (2, .int (iI r_1))]) hx hb dX6_deep1_117 hl (k := 6) rfl (by decide) rfl (fun ls hl => ?_)
                    refine lv_goto (tgt := 15) hx hb dX6_deep1_120 (by decide) ?_
                    exact ih_15 ta (cc + 1) gi _ _ (by omega) (by omega) (by first | exact ((tg_z (by omega)).1 h102.1 h102.2).symm | (rw [(tg_z (by omega)).2 h102]; exact i1)) (by omega) hP hS ls (lv_sub hl [1, 0, 4, 5, 6] rfl)
                  · skip
                    -- 102 f
                    have h102 := c_7
                    refine lv_aload_n hx hb dX6_deep1_105 rfl (lv_at hl 2 rfl) ?_
                    refine va_get (D := D) (cl := vwC) (ci := 7) (v := .ref (a 15)) (C := RX6) (T := TX6) (N := 27) hx hb hG.use i_X6 hown hK hP 0 rfl rfl 20 (by decide) (hG.use _ lf_X6_54) (fun _ h9 => h9) rfl dX6_deep1_106 ?_
                    refine lv_iload hx hb dX6_deep1_109 (lv_at hl 6 rfl) ?_
                    refine xr_iald (f := F 15) (z := cc) hx hb hK hP 15 14 rfl rfl (by omega) (by omega) (by decide) dX6_deep1_111 ?_
                    refine lv_goto (tgt := 116) hx hb dX6_deep1_112 (by decide) ?_
                    refine lv_istore_n (lv' := [(3, .int (iI ((F 15) cc))), (5, .int (iI ho)), (6, .int (iI kj)), (0, .ref (a 0)), (1, .int (iI p0)), (2, .int (iI r_1)), (4, .int (iI cc))]) hx hb dX6_deep1_116 rfl hl (by decide) rfl (fun ls hl => ?_)
                    refine xr_iinc (z := cc) (lv' := [(4, .int (iI (cc + 1))), (3, .int (iI ((F 15) cc))), (5, .int (iI ho)), (6, .int (iI kj)), (0, .ref (a 0)), (1, .int (iI p0)), (2, .int (iI r_1))]) hx hb dX6_deep1_117 hl (k := 6) rfl (by decide) rfl (fun ls hl => ?_)
                    refine lv_goto (tgt := 15) hx hb dX6_deep1_120 (by decide) ?_
                    exact ih_15 ((F 15) cc) (cc + 1) gi _ _ (by omega) (by omega) (by first | exact ((tg_z (by omega)).1 h102.1 h102.2).symm | (rw [(tg_z (by omega)).2 h102]; exact i1)) (by omega) hP hS ls (lv_sub hl [1, 0, 4, 5, 6] rfl)
                · skip
                  -- 42 f
                  refine lv_aload_n hx hb dX6_deep1_45 rfl (lv_at hl 2 rfl) ?_
                  refine va_get (D := D) (cl := vwC) (ci := 7) (v := .ref (a 13)) (C := RX6) (T := TX6) (N := 27) hx hb hG.use i_X6 hown hK hP 0 rfl rfl 18 (by decide) (hG.use _ lf_X6_48) (fun _ h9 => h9) rfl dX6_deep1_46 ?_
                  refine lv_iload hx hb dX6_deep1_49 (lv_at hl 6 rfl) ?_
                  refine xr_iald (f := F 13) (z := cc) hx hb hK hP 13 12 rfl rfl (by omega) (by omega) (by decide) dX6_deep1_51 ?_
                  refine lv_iload_n hx hb dX6_deep1_52 rfl (lv_at hl 4 rfl) ?_
                  refine xr_icmp_ne (a := (F 13) cc) (b := r_1) (tgt := 100) hx hb dX6_deep1_53 (by decide) (fun c_8 => ?_) (fun c_8 => ?_) (by omega) (by omega)
                  · skip
                    -- 53 t
                    have i5 := dl_at hv (Dp := mdv I F 1) (w := F 14 cc) (kj := kj) (is := mfm I F p0) (cf := F 13 cc) i3 (fun h => by omega) (by omega) (by omega) h0
                    refine lv_iload hx hb dX6_deep1_100 (lv_at hl 0 rfl) ?_
                    refine xr_if_eqZ (tgt := 115) hx hb i5 dX6_deep1_102 (by decide) (fun c_9 => ?_) (fun c_9 => ?_)
                    · skip
                      -- 102 t
                      have h102 := c_9
                      refine lv_iload_n hx hb dX6_deep1_115 rfl (lv_at hl 5 rfl) ?_
                      refine lv_istore_n (lv' := [(3, .int (iI ta)), (5, .int (iI ho)), (6, .int (iI kj)), (0, .ref (a 0)), (1, .int (iI p0)), (2, .int (iI r_1)), (4, .int (iI cc))]) hx hb dX6_deep1_116 rfl hl (by decide) rfl (fun ls hl => ?_)
                      refine xr_iinc (z := cc) (lv' := [(4, .int (iI (cc + 1))), (3, .int (iI ta)), (5, .int (iI ho)), (6, .int (iI kj)), (0, .ref (a 0)), (1, .int (iI p0)), (2, .int (iI r_1))]) hx hb dX6_deep1_117 hl (k := 6) rfl (by decide) rfl (fun ls hl => ?_)
                      refine lv_goto (tgt := 15) hx hb dX6_deep1_120 (by decide) ?_
                      exact ih_15 ta (cc + 1) gi _ _ (by omega) (by omega) (by first | exact ((tg_z (by omega)).1 h102.1 h102.2).symm | (rw [(tg_z (by omega)).2 h102]; exact i1)) (by omega) hP hS ls (lv_sub hl [1, 0, 4, 5, 6] rfl)
                    · skip
                      -- 102 f
                      have h102 := c_9
                      refine lv_aload_n hx hb dX6_deep1_105 rfl (lv_at hl 2 rfl) ?_
                      refine va_get (D := D) (cl := vwC) (ci := 7) (v := .ref (a 15)) (C := RX6) (T := TX6) (N := 27) hx hb hG.use i_X6 hown hK hP 0 rfl rfl 20 (by decide) (hG.use _ lf_X6_54) (fun _ h9 => h9) rfl dX6_deep1_106 ?_
                      refine lv_iload hx hb dX6_deep1_109 (lv_at hl 6 rfl) ?_
                      refine xr_iald (f := F 15) (z := cc) hx hb hK hP 15 14 rfl rfl (by omega) (by omega) (by decide) dX6_deep1_111 ?_
                      refine lv_goto (tgt := 116) hx hb dX6_deep1_112 (by decide) ?_
                      refine lv_istore_n (lv' := [(3, .int (iI ((F 15) cc))), (5, .int (iI ho)), (6, .int (iI kj)), (0, .ref (a 0)), (1, .int (iI p0)), (2, .int (iI r_1)), (4, .int (iI cc))]) hx hb dX6_deep1_116 rfl hl (by decide) rfl (fun ls hl => ?_)
                      refine xr_iinc (z := cc) (lv' := [(4, .int (iI (cc + 1))), (3, .int (iI ((F 15) cc))), (5, .int (iI ho)), (6, .int (iI kj)), (0, .ref (a 0)), (1, .int (iI p0)), (2, .int (iI r_1))]) hx hb dX6_deep1_117 hl (k := 6) rfl (by decide) rfl (fun ls hl => ?_)
                      refine lv_goto (tgt := 15) hx hb dX6_deep1_120 (by decide) ?_
                      exact ih_15 ((F 15) cc) (cc + 1) gi _ _ (by omega) (by omega) (by first | exact ((tg_z (by omega)).1 h102.1 h102.2).symm | (rw [(tg_z (by omega)).2 h102]; exact i1)) (by omega) hP hS ls (lv_sub hl [1, 0, 4, 5, 6] rfl)
                  · skip
                    -- 53 f
                    refine lv_iload hx hb dX6_deep1_56 (lv_at hl 0 rfl) ?_
                    refine xr_if_ne (a := ho) (tgt := 87) hx hb dX6_deep1_58 (by decide) (fun c_10 => ?_) (fun c_10 => ?_) (by omega)
                    · skip
                      -- 58 t
                      refine xr_iconst hx hb dX6_deep1_87 ?_
                      refine lv_goto (tgt := 92) hx hb dX6_deep1_88 (by decide) ?_
                      refine lv_istore (lv' := [(5, .int (iI 1)), (6, .int (iI kj)), (0, .ref (a 0)), (1, .int (iI p0)), (2, .int (iI r_1)), (3, .int (iI ta)), (4, .int (iI cc))]) hx hb dX6_deep1_92 hl (by decide) rfl (fun ls hl => ?_)
                      refine xr_iinc (z := kj) (lv' := [(6, .int (iI (kj + 1))), (5, .int (iI 1)), (0, .ref (a 0)), (1, .int (iI p0)), (2, .int (iI r_1)), (3, .int (iI ta)), (4, .int (iI cc))]) hx hb dX6_deep1_94 hl (k := 1) rfl (by decide) rfl (fun ls hl => ?_)
                      refine lv_goto (tgt := 34) hx hb dX6_deep1_97 (by decide) ?_
                      exact ih_34 1 (kj + 1) gi _ _ (by omega) (by omega) (by intro _; omega) (by first | exact ex_1 i3 (by omega) | exact ex_2 (Q := fun j => mdv I F 1 (F 11 (8 * p0 + j)) = F 14 cc) (by omega) (by show mdv I F 1 (F 11 (8 * p0 + kj)) = F 14 cc; omega) | exact ex_3 (Q := fun j => mdv I F 1 (F 11 (8 * p0 + j)) = F 14 cc) i3 (by omega) (by show ¬ mdv I F 1 (F 11 (8 * p0 + kj)) = F 14 cc; omega)) hP hS ls (lv_sub hl [1, 0, 2, 3, 4, 5, 6] rfl)
                    · skip
                      -- 58 f
                      refine lv_aload_n hx hb dX6_deep1_61 rfl (lv_at hl 2 rfl) ?_
                      refine lv_aload_n hx hb dX6_deep1_62 rfl (lv_at hl 2 rfl) ?_
                      refine va_get (D := D) (cl := vwC) (ci := 7) (v := .ref (a 11)) (C := RX6) (T := TX6) (N := 27) hx hb hG.use i_X6 hown hK hP 0 rfl rfl 15 (by decide) (hG.use _ lf_X6_42) (fun _ h9 => h9) rfl dX6_deep1_63 ?_
                      refine xr_bipush hx hb dX6_deep1_66 (by decide +kernel) ?_
                      refine lv_iload_n hx hb dX6_deep1_68 rfl (lv_at hl 3 rfl) ?_
                      refine xr_imul (a := 8) (b := p0) hx hb dX6_deep1_69 ?_
                      refine lv_iload hx hb dX6_deep1_70 (lv_at hl 1 rfl) ?_
                      refine xr_iadd (a := 8 * p0) (b := kj) hx hb dX6_deep1_72 ?_
                      refine xr_iald (f := F 11) (z := (8 * p0) + kj) hx hb hK hP 11 10 rfl rfl (by omega) (by omega) (by decide) dX6_deep1_73 ?_
                      have f_mb := ((hv.ml p0 (F 11 (8 * p0 + kj)) (by omega) (by omega)).mp ⟨kj, by omega, rfl⟩).1
                      refine mu_call (g_runV (rest := []) hx hb hml hown hG hK hP mV_X6_deep2 (c_X6_deep2 l D a k I (uF (uF (uF F 20 gq_3) 20 g) 20 gi) hdis ((F 11) ((8 * p0) + kj)) hv (show 0 ≤ (F 11) ((8 * p0) + kj) ∧ (F 11) ((8 * p0) + kj) < I 4 by omega)) lk_X6_141 (va_recv hK hP (ci := 7) (q0 := 0) rfl rfl) rfl hl.1 rfl (Nat.le_of_ble_eq_true rfl) ⟨(Nat.le_of_ble_eq_true rfl), (Nat.le_of_ble_eq_true rfl)⟩ ⟨(Nat.le_of_ble_eq_true rfl), (Nat.le_of_ble_eq_true rfl)⟩ dX6_deep1_74) hS (fun _ h => h) (fun r_11 u H locs q_12 hP _ _ hS => ?_)
                      obtain ⟨I2, F2⟩ := u
                      try dsimp only at q_12
                      rcases q_12 with ⟨hdv, gd_13, hu⟩
                      · skip
                        cases hu
                        have hP : va_P D vwC (mW a k I (uF (uF (uF (uF F 20 gq_3) 20 g) 20 gi) 20 gd_13)) H := hP
                        have hdv : r_11 = mdv I F 1 ((F 11) ((8 * p0) + kj)) := hdv
                        have f_d := mdv_in hv 1 ((F 11) ((8 * p0) + kj))
                        rw [← hdv] at f_d
                        refine lv_aload_n hx hb dX6_deep1_77 rfl (lv_at hl 2 rfl) ?_
                        refine va_get (D := D) (cl := vwC) (ci := 7) (v := .ref (a 14)) (C := RX6) (T := TX6) (N := 27) hx hb hG.use i_X6 hown hK hP 0 rfl rfl 19 (by decide) (hG.use _ lf_X6_51) (fun _ h9 => h9) rfl dX6_deep1_78 ?_
                        refine lv_iload hx hb dX6_deep1_81 (lv_at hl 6 rfl) ?_
                        refine xr_iald (f := F 14) (z := cc) hx hb hK hP 14 13 rfl rfl (by omega) (by omega) (by decide) dX6_deep1_83 ?_
                        refine xr_icmp_ne (a := r_11) (b := (F 14) cc) (tgt := 91) hx hb dX6_deep1_84 (by decide) (fun c_14 => ?_) (fun c_14 => ?_) (by omega) (by omega)
                        · skip
                          -- 84 t
                          refine xr_iconst hx hb dX6_deep1_91 ?_
                          refine lv_istore (lv' := [(5, .int (iI 0)), (6, .int (iI kj)), (0, .ref (a 0)), (1, .int (iI p0)), (2, .int (iI r_1)), (3, .int (iI ta)), (4, .int (iI cc))]) hx hb dX6_deep1_92 hl (by decide) rfl (fun ls hl => ?_)
                          refine xr_iinc (z := kj) (lv' := [(6, .int (iI (kj + 1))), (5, .int (iI 0)), (0, .ref (a 0)), (1, .int (iI p0)), (2, .int (iI r_1)), (3, .int (iI ta)), (4, .int (iI cc))]) hx hb dX6_deep1_94 hl (k := 1) rfl (by decide) rfl (fun ls hl => ?_)
                          refine lv_goto (tgt := 34) hx hb dX6_deep1_97 (by decide) ?_
                          exact ih_34 0 (kj + 1) gd_13 _ _ (by omega) (by omega) (by intro _; omega) (by first | exact ex_1 i3 (by omega) | exact ex_2 (Q := fun j => mdv I F 1 (F 11 (8 * p0 + j)) = F 14 cc) (by omega) (by show mdv I F 1 (F 11 (8 * p0 + kj)) = F 14 cc; omega) | exact ex_3 (Q := fun j => mdv I F 1 (F 11 (8 * p0 + j)) = F 14 cc) i3 (by omega) (by show ¬ mdv I F 1 (F 11 (8 * p0 + kj)) = F 14 cc; omega)) hP hS ls (lv_sub hl [1, 0, 2, 3, 4, 5, 6] rfl)
                        · skip
                          -- 84 f
                          refine xr_iconst hx hb dX6_deep1_87 ?_
                          refine lv_goto (tgt := 92) hx hb dX6_deep1_88 (by decide) ?_
                          refine lv_istore (lv' := [(5, .int (iI 1)), (6, .int (iI kj)), (0, .ref (a 0)), (1, .int (iI p0)), (2, .int (iI r_1)), (3, .int (iI ta)), (4, .int (iI cc))]) hx hb dX6_deep1_92 hl (by decide) rfl (fun ls hl => ?_)
                          refine xr_iinc (z := kj) (lv' := [(6, .int (iI (kj + 1))), (5, .int (iI 1)), (0, .ref (a 0)), (1, .int (iI p0)), (2, .int (iI r_1)), (3, .int (iI ta)), (4, .int (iI cc))]) hx hb dX6_deep1_94 hl (k := 1) rfl (by decide) rfl (fun ls hl => ?_)
                          refine lv_goto (tgt := 34) hx hb dX6_deep1_97 (by decide) ?_
                          exact ih_34 1 (kj + 1) gd_13 _ _ (by omega) (by omega) (by intro _; omega) (by first | exact ex_1 i3 (by omega) | exact ex_2 (Q := fun j => mdv I F 1 (F 11 (8 * p0 + j)) = F 14 cc) (by omega) (by show mdv I F 1 (F 11 (8 * p0 + kj)) = F 14 cc; omega) | exact ex_3 (Q := fun j => mdv I F 1 (F 11 (8 * p0 + j)) = F 14 cc) i3 (by omega) (by show ¬ mdv I F 1 (F 11 (8 * p0 + kj)) = F 14 cc; omega)) hP hS ls (lv_sub hl [1, 0, 2, 3, 4, 5, 6] rfl)
            exact lp_34 _ 0 0 g _ _ (Nat.lt_succ_self _) (by omega) (by intro h; omega) (by exact bz_f (by rintro ⟨j, h1, h2⟩; omega)) hP hS ls (lv_sub hl [1, 0, 4, 5, 6, 2, 3] rfl)
    exact lp_15 _ r_1 0 gq_3 _ _ (Nat.lt_succ_self _) (by omega) (by exact hfm2) (by omega) hP hS ls (lv_sub hl [1, 0, 3, 4, 2] rfl)
set_option maxHeartbeats 4000000 in
set_option maxRecDepth 100000 in
theorem c_X6_deep0 (l : Launch) (D : va_G) (a : Nat → Nat) (k : Nat → ClassId) (I : Nat → Int) (F : Nat → Int → Int) (hdis : dis 21 a) (p0 : Int) (hv : mInv I F) (h0 : 0 ≤ p0 ∧ p0 < I 4) : mu_M (S := (Nat → Int) × (Nat → Int → Int)) l yX6_deep0 cX6_deep0 7 (some .int) 5 [.ref (a 0), .int (iI p0)] D (mT k) (mW a k I F) (fun u => mW a k u.1 u.2) (fun r u => r = mdv I F 3 p0 ∧ ∃ g : Int → Int, u = (I, uF F 20 g)) (adr 21 a) := by
  refine me_start (by decide) (Nat.le_of_ble_eq_true rfl) rfl ?_
  intro p e s m below meth c hx hb hml hr hown hlocks hnm hG hK hP ls hl
  have hown : s.vm.findClass RX6 = some m.cls := hown
  have hl : lv_has ls 7 [(0, .ref (a 0)), (1, .int (iI p0))] := hl
  have hS : va_S (adr 21 a) s.heap s.heap [] := va_S.rf
  have f_n := hv.n
  have f_fl := hv.fl p0 (by omega) (by omega)
  refine lv_aload_n hx hb dX6_deep0_0 rfl (lv_at hl 0 rfl) ?_
  refine lv_iload_n hx hb dX6_deep0_1 rfl (lv_at hl 1 rfl) ?_
  refine lv_aload_n hx hb dX6_deep0_2 rfl (lv_at hl 0 rfl) ?_
  refine va_get (D := D) (cl := vwC) (ci := 7) (v := .int (iI (I 3))) (C := RX6) (T := TX6) (N := 27) hx hb hG.use i_X6 hown hK hP 0 rfl rfl 4 (by decide) (hG.use _ lf_X6_97) (fun _ h9 => h9) rfl dX6_deep0_3 ?_
  refine mu_call (g_runV (rest := []) hx hb hml hown hG hK hP mV_X6_formatOf (c_X6_formatOf l D a k I F hdis p0 (I 3) hv (show 0 ≤ p0 ∧ p0 < I 4 by omega) (show 0 ≤ I 3 ∧ I 3 ≤ I 3 by omega)) lk_X6_125 (va_recv hK hP (ci := 7) (q0 := 0) rfl rfl) rfl hl.1 rfl (Nat.le_of_ble_eq_true rfl) ⟨(Nat.le_of_ble_eq_true rfl), (Nat.le_of_ble_eq_true rfl)⟩ ⟨(Nat.le_of_ble_eq_true rfl), (Nat.le_of_ble_eq_true rfl)⟩ dX6_deep0_6) hS (fun _ h => h) (fun r_1 u H locs q_2 hP _ _ hS => ?_)
  obtain ⟨I1, F1⟩ := u
  try dsimp only at q_2
  rcases q_2 with ⟨hfm, gq_3, hu, hgq⟩
  · skip
    cases hu
    have hP : va_P D vwC (mW a k I (uF F 20 gq_3)) H := hP
    have hfm : r_1 = fv (mset F p0 (I 3)) := hfm
    have f_m := fv_in (mset_in hv (f := p0) (n := I 3) (by omega))
    have hgq : ∀ q, 0 ≤ q → q < 30 → (gq_3 q = 0 ∨ gq_3 q = 1) ∧ (gq_3 q = 1 ↔ mset F p0 (I 3) q) := hgq
    have hfm2 : r_1 = mfm I F p0 := hfm
    have f_m2 := mfm_in hv p0
    refine lv_istore_n (lv' := [(2, .int (iI r_1)), (0, .ref (a 0)), (1, .int (iI p0))]) hx hb dX6_deep0_9 rfl hl (by decide) rfl (fun ls hl => ?_)
    refine lv_iload_n hx hb dX6_deep0_10 rfl (lv_at hl 0 rfl) ?_
    refine lv_istore_n (lv' := [(3, .int (iI r_1)), (2, .int (iI r_1)), (0, .ref (a 0)), (1, .int (iI p0))]) hx hb dX6_deep0_11 rfl hl (by decide) rfl (fun ls hl => ?_)
    refine xr_iconst hx hb dX6_deep0_12 ?_
    refine lv_istore (lv' := [(4, .int (iI 0)), (3, .int (iI r_1)), (2, .int (iI r_1)), (0, .ref (a 0)), (1, .int (iI p0))]) hx hb dX6_deep0_13 hl (by decide) rfl (fun ls hl => ?_)
    have lp_15 : ∀ (nz : Nat) (ta : Int) (cc : Int) (g : Int → Int) (H : Heap) (locs : List Loc), (I 5 - cc).toNat < nz → (0 ≤ cc ∧ cc ≤ I 5) → (ta = tg (F 13) (F 14) (F 15) (mfm I F p0) (fun w => ∃ o, (0 ≤ o ∧ o < I 4) ∧ F 12 o = p0 ∧ mdv I F 2 o = w) cc.toNat) → (-5 ≤ ta ∧ ta < 30) → va_P D vwC (mW a k I (uF (uF F 20 gq_3) 20 g)) H → va_S (adr 21 a) s.heap H locs → ∀ ls : Array Slot, lv_has ls 7 [(3, .int (iI ta)), (4, .int (iI cc)), (0, .ref (a 0)), (1, .int (iI p0)), (2, .int (iI r_1))] → W p l e (rmd 5) s m ([.ref (a 0), .int (iI p0)] : List Value).toArray below meth c H locs 0 0 (MQ below (mu_Q (S := (Nat → Int) × (Nat → Int → Int)) (fun u => mW a k u.1 u.2) D (fun r u => r = mdv I F 3 p0 ∧ ∃ g : Int → Int, u = (I, uF F 20 g)) (adr 21 a)) ([.ref (a 0), .int (iI p0)] : List Value).toArray s 0 0 (adr 21 a)) (F0 m 15 ls []) := by
      clear hl
      intro nz
      induction nz with
      | zero =>
        intro ta cc g H locs hn
        exact absurd hn (Nat.not_lt_zero _)
      | succ n_15 ih_15 =>
        intro ta cc g H locs hn_15 i0 i1 i2 hP hS ls hl
        refine lv_iload hx hb dX6_deep0_15 (lv_at hl 1 rfl) ?_
        refine lv_aload_n hx hb dX6_deep0_17 rfl (lv_at hl 2 rfl) ?_
        refine va_get (D := D) (cl := vwC) (ci := 7) (v := .int (iI (I 5))) (C := RX6) (T := TX6) (N := 27) hx hb hG.use i_X6 hown hK hP 0 rfl rfl 17 (by decide) (hG.use _ lf_X6_135) (fun _ h9 => h9) rfl dX6_deep0_18 ?_
        refine xr_icmp_ge (a := cc) (b := I 5) (tgt := 123) hx hb dX6_deep0_21 (by decide) (fun c_4 => ?_) (fun c_4 => ?_) (by omega) (by omega)
        · skip
          -- 21 t
          refine lv_iload_n hx hb dX6_deep0_123 rfl (lv_at hl 0 rfl) ?_
          exact W.iret (v := iI ta) hx hb hr (fun t ht9 hW => ⟨ta, (I, uF F 20 g), rfl, (by refine ⟨?_, _, rfl⟩; rw [i1]; first | (have e5 : cc = I 5 := (by omega); rw [e5]; by_cases hz : 0 ≤ mfm I F p0; exact (if_pos hz).symm; (rw [tg_neg (by omega) _ (fun i a b => (hv.cn i a (by omega)).1.1)]; exact (if_neg hz).symm)) | (rw [tg_neg (by omega) _ (fun i a b => (hv.cn i a (by omega)).1.1)]; exact (if_neg (by omega)).symm)), by rw [ht9]; exact hP, hS.F ht9⟩) hS.2.2 dX6_deep0_124
        · skip
          -- 21 f
          refine lv_iload_n hx hb dX6_deep0_24 rfl (lv_at hl 4 rfl) ?_
          refine xr_if_lt (a := r_1) (tgt := 123) hx hb dX6_deep0_25 (by decide) (fun c_5 => ?_) (fun c_5 => ?_) (by omega)
          · skip
            -- 25 t
            refine lv_iload_n hx hb dX6_deep0_123 rfl (lv_at hl 0 rfl) ?_
            exact W.iret (v := iI ta) hx hb hr (fun t ht9 hW => ⟨ta, (I, uF F 20 g), rfl, (by refine ⟨?_, _, rfl⟩; rw [i1]; first | (have e5 : cc = I 5 := (by omega); rw [e5]; by_cases hz : 0 ≤ mfm I F p0; exact (if_pos hz).symm; (rw [tg_neg (by omega) _ (fun i a b => (hv.cn i a (by omega)).1.1)]; exact (if_neg hz).symm)) | (rw [tg_neg (by omega) _ (fun i a b => (hv.cn i a (by omega)).1.1)]; exact (if_neg (by omega)).symm)), by rw [ht9]; exact hP, hS.F ht9⟩) hS.2.2 dX6_deep0_124
          · skip
            -- 25 f
            have f_cn := hv.cn cc (by omega) (by omega)
            refine xr_iconst hx hb dX6_deep0_28 ?_
            refine lv_istore (lv' := [(5, .int (iI 0)), (3, .int (iI ta)), (4, .int (iI cc)), (0, .ref (a 0)), (1, .int (iI p0)), (2, .int (iI r_1))]) hx hb dX6_deep0_29 hl (by decide) rfl (fun ls hl => ?_)
            refine xr_iconst hx hb dX6_deep0_31 ?_
            refine lv_istore (lv' := [(6, .int (iI 0)), (5, .int (iI 0)), (3, .int (iI ta)), (4, .int (iI cc)), (0, .ref (a 0)), (1, .int (iI p0)), (2, .int (iI r_1))]) hx hb dX6_deep0_32 hl (by decide) rfl (fun ls hl => ?_)
            have lp_34 : ∀ (nz : Nat) (ho : Int) (kj : Int) (gi : Int → Int) (H : Heap) (locs : List Loc), (F 10 p0 - kj).toNat < nz → (0 ≤ kj ∧ kj ≤ F 10 p0) → (0 < kj → F 13 cc = mfm I F p0) → (bz (∃ j : Int, (0 ≤ j ∧ j < kj) ∧ mdv I F 2 (F 11 (8 * p0 + j)) = F 14 cc) ho) → va_P D vwC (mW a k I (uF (uF (uF F 20 gq_3) 20 g) 20 gi)) H → va_S (adr 21 a) s.heap H locs → ∀ ls : Array Slot, lv_has ls 7 [(5, .int (iI ho)), (6, .int (iI kj)), (0, .ref (a 0)), (1, .int (iI p0)), (2, .int (iI r_1)), (3, .int (iI ta)), (4, .int (iI cc))] → W p l e (rmd 5) s m ([.ref (a 0), .int (iI p0)] : List Value).toArray below meth c H locs 0 0 (MQ below (mu_Q (S := (Nat → Int) × (Nat → Int → Int)) (fun u => mW a k u.1 u.2) D (fun r u => r = mdv I F 3 p0 ∧ ∃ g : Int → Int, u = (I, uF F 20 g)) (adr 21 a)) ([.ref (a 0), .int (iI p0)] : List Value).toArray s 0 0 (adr 21 a)) (F0 m 34 ls []) := by
              clear hl
              intro nz
              induction nz with
              | zero =>
                intro ho kj gi H locs hn
                exact absurd hn (Nat.not_lt_zero _)
              | succ n_34 ih_34 =>
                intro ho kj gi H locs hn_34 k0 i4 i3 hP hS ls hl
                have f_z := bz_01 i3
                refine lv_iload hx hb dX6_deep0_34 (lv_at hl 1 rfl) ?_
                refine lv_aload_n hx hb dX6_deep0_36 rfl (lv_at hl 2 rfl) ?_
                refine va_get (D := D) (cl := vwC) (ci := 7) (v := .ref (a 10)) (C := RX6) (T := TX6) (N := 27) hx hb hG.use i_X6 hown hK hP 0 rfl rfl 14 (by decide) (hG.use _ lf_X6_39) (fun _ h9 => h9) rfl dX6_deep0_37 ?_
                refine lv_iload_n hx hb dX6_deep0_40 rfl (lv_at hl 3 rfl) ?_
                refine xr_iald (f := F 10) (z := p0) hx hb hK hP 10 9 rfl rfl (by omega) (by omega) (by decide) dX6_deep0_41 ?_
                refine xr_icmp_ge (a := kj) (b := (F 10) p0) (tgt := 100) hx hb dX6_deep0_42 (by decide) (fun c_6 => ?_) (fun c_6 => ?_) (by omega) (by omega)
                · skip
                  -- 42 t
                  have i5 := dl_at hv (Dp := mdv I F 2) (w := F 14 cc) (kj := kj) (is := mfm I F p0) (cf := F 13 cc) i3 (fun h => by omega) (by omega) (by omega) h0
                  refine lv_iload hx hb dX6_deep0_100 (lv_at hl 0 rfl) ?_
                  refine xr_if_eqZ (tgt := 115) hx hb i5 dX6_deep0_102 (by decide) (fun c_7 => ?_) (fun c_7 => ?_)
                  · skip
                    -- 102 t
                    have h102 := c_7
                    refine lv_iload_n hx hb dX6_deep0_115 rfl (lv_at hl 5 rfl) ?_
                    refine lv_istore_n (lv' := [(3, .int (iI ta)), (5, .int (iI ho)), (6, .int (iI kj)), (0, .ref (a 0)), (1, .int (iI p0)), (2, .int (iI r_1)), (4, .int (iI cc))]) hx hb dX6_deep0_116 rfl hl (by decide) rfl (fun ls hl => ?_)
                    refine xr_iinc (z := cc) (lv' := [(4, .int (iI (cc + 1))), (3, .int (iI ta)), (5, .int (iI ho)), (6, .int (iI kj)), (0, .ref (a 0)), (1, .int (iI p0)), (2, .int (iI r_1))]) hx hb dX6_deep0_117 hl (k := 6) rfl (by decide) rfl (fun ls hl => ?_)
                    refine lv_goto (tgt := 15) hx hb dX6_deep0_120 (by decide) ?_
                    exact ih_15 ta (cc + 1) gi _ _ (by omega) (by omega) (by first | exact ((tg_z (by omega)).1 h102.1 h102.2).symm | (rw [(tg_z (by omega)).2 h102]; exact i1)) (by omega) hP hS ls (lv_sub hl [1, 0, 4, 5, 6] rfl)
                  · skip
                    -- 102 f
                    have h102 := c_7
                    refine lv_aload_n hx hb dX6_deep0_105 rfl (lv_at hl 2 rfl) ?_
                    refine va_get (D := D) (cl := vwC) (ci := 7) (v := .ref (a 15)) (C := RX6) (T := TX6) (N := 27) hx hb hG.use i_X6 hown hK hP 0 rfl rfl 20 (by decide) (hG.use _ lf_X6_54) (fun _ h9 => h9) rfl dX6_deep0_106 ?_
                    refine lv_iload hx hb dX6_deep0_109 (lv_at hl 6 rfl) ?_
                    refine xr_iald (f := F 15) (z := cc) hx hb hK hP 15 14 rfl rfl (by omega) (by omega) (by decide) dX6_deep0_111 ?_
                    refine lv_goto (tgt := 116) hx hb dX6_deep0_112 (by decide) ?_
                    refine lv_istore_n (lv' := [(3, .int (iI ((F 15) cc))), (5, .int (iI ho)), (6, .int (iI kj)), (0, .ref (a 0)), (1, .int (iI p0)), (2, .int (iI r_1)), (4, .int (iI cc))]) hx hb dX6_deep0_116 rfl hl (by decide) rfl (fun ls hl => ?_)
                    refine xr_iinc (z := cc) (lv' := [(4, .int (iI (cc + 1))), (3, .int (iI ((F 15) cc))), (5, .int (iI ho)), (6, .int (iI kj)), (0, .ref (a 0)), (1, .int (iI p0)), (2, .int (iI r_1))]) hx hb dX6_deep0_117 hl (k := 6) rfl (by decide) rfl (fun ls hl => ?_)
                    refine lv_goto (tgt := 15) hx hb dX6_deep0_120 (by decide) ?_
                    exact ih_15 ((F 15) cc) (cc + 1) gi _ _ (by omega) (by omega) (by first | exact ((tg_z (by omega)).1 h102.1 h102.2).symm | (rw [(tg_z (by omega)).2 h102]; exact i1)) (by omega) hP hS ls (lv_sub hl [1, 0, 4, 5, 6] rfl)
                · skip
                  -- 42 f
                  refine lv_aload_n hx hb dX6_deep0_45 rfl (lv_at hl 2 rfl) ?_
                  refine va_get (D := D) (cl := vwC) (ci := 7) (v := .ref (a 13)) (C := RX6) (T := TX6) (N := 27) hx hb hG.use i_X6 hown hK hP 0 rfl rfl 18 (by decide) (hG.use _ lf_X6_48) (fun _ h9 => h9) rfl dX6_deep0_46 ?_
                  refine lv_iload hx hb dX6_deep0_49 (lv_at hl 6 rfl) ?_
                  refine xr_iald (f := F 13) (z := cc) hx hb hK hP 13 12 rfl rfl (by omega) (by omega) (by decide) dX6_deep0_51 ?_
                  refine lv_iload_n hx hb dX6_deep0_52 rfl (lv_at hl 4 rfl) ?_
                  refine xr_icmp_ne (a := (F 13) cc) (b := r_1) (tgt := 100) hx hb dX6_deep0_53 (by decide) (fun c_8 => ?_) (fun c_8 => ?_) (by omega) (by omega)
                  · skip
                    -- 53 t
                    have i5 := dl_at hv (Dp := mdv I F 2) (w := F 14 cc) (kj := kj) (is := mfm I F p0) (cf := F 13 cc) i3 (fun h => by omega) (by omega) (by omega) h0
                    refine lv_iload hx hb dX6_deep0_100 (lv_at hl 0 rfl) ?_
                    refine xr_if_eqZ (tgt := 115) hx hb i5 dX6_deep0_102 (by decide) (fun c_9 => ?_) (fun c_9 => ?_)
                    · skip
                      -- 102 t
                      have h102 := c_9
                      refine lv_iload_n hx hb dX6_deep0_115 rfl (lv_at hl 5 rfl) ?_
                      refine lv_istore_n (lv' := [(3, .int (iI ta)), (5, .int (iI ho)), (6, .int (iI kj)), (0, .ref (a 0)), (1, .int (iI p0)), (2, .int (iI r_1)), (4, .int (iI cc))]) hx hb dX6_deep0_116 rfl hl (by decide) rfl (fun ls hl => ?_)
                      refine xr_iinc (z := cc) (lv' := [(4, .int (iI (cc + 1))), (3, .int (iI ta)), (5, .int (iI ho)), (6, .int (iI kj)), (0, .ref (a 0)), (1, .int (iI p0)), (2, .int (iI r_1))]) hx hb dX6_deep0_117 hl (k := 6) rfl (by decide) rfl (fun ls hl => ?_)
                      refine lv_goto (tgt := 15) hx hb dX6_deep0_120 (by decide) ?_
                      exact ih_15 ta (cc + 1) gi _ _ (by omega) (by omega) (by first | exact ((tg_z (by omega)).1 h102.1 h102.2).symm | (rw [(tg_z (by omega)).2 h102]; exact i1)) (by omega) hP hS ls (lv_sub hl [1, 0, 4, 5, 6] rfl)
                    · skip
                      -- 102 f
                      have h102 := c_9
                      refine lv_aload_n hx hb dX6_deep0_105 rfl (lv_at hl 2 rfl) ?_
                      refine va_get (D := D) (cl := vwC) (ci := 7) (v := .ref (a 15)) (C := RX6) (T := TX6) (N := 27) hx hb hG.use i_X6 hown hK hP 0 rfl rfl 20 (by decide) (hG.use _ lf_X6_54) (fun _ h9 => h9) rfl dX6_deep0_106 ?_
                      refine lv_iload hx hb dX6_deep0_109 (lv_at hl 6 rfl) ?_
                      refine xr_iald (f := F 15) (z := cc) hx hb hK hP 15 14 rfl rfl (by omega) (by omega) (by decide) dX6_deep0_111 ?_
                      refine lv_goto (tgt := 116) hx hb dX6_deep0_112 (by decide) ?_
                      refine lv_istore_n (lv' := [(3, .int (iI ((F 15) cc))), (5, .int (iI ho)), (6, .int (iI kj)), (0, .ref (a 0)), (1, .int (iI p0)), (2, .int (iI r_1)), (4, .int (iI cc))]) hx hb dX6_deep0_116 rfl hl (by decide) rfl (fun ls hl => ?_)
                      refine xr_iinc (z := cc) (lv' := [(4, .int (iI (cc + 1))), (3, .int (iI ((F 15) cc))), (5, .int (iI ho)), (6, .int (iI kj)), (0, .ref (a 0)), (1, .int (iI p0)), (2, .int (iI r_1))]) hx hb dX6_deep0_117 hl (k := 6) rfl (by decide) rfl (fun ls hl => ?_)
                      refine lv_goto (tgt := 15) hx hb dX6_deep0_120 (by decide) ?_
                      exact ih_15 ((F 15) cc) (cc + 1) gi _ _ (by omega) (by omega) (by first | exact ((tg_z (by omega)).1 h102.1 h102.2).symm | (rw [(tg_z (by omega)).2 h102]; exact i1)) (by omega) hP hS ls (lv_sub hl [1, 0, 4, 5, 6] rfl)
                  · skip
                    -- 53 f
                    refine lv_iload hx hb dX6_deep0_56 (lv_at hl 0 rfl) ?_
                    refine xr_if_ne (a := ho) (tgt := 87) hx hb dX6_deep0_58 (by decide) (fun c_10 => ?_) (fun c_10 => ?_) (by omega)
                    · skip
                      -- 58 t
                      refine xr_iconst hx hb dX6_deep0_87 ?_
                      refine lv_goto (tgt := 92) hx hb dX6_deep0_88 (by decide) ?_
                      refine lv_istore (lv' := [(5, .int (iI 1)), (6, .int (iI kj)), (0, .ref (a 0)), (1, .int (iI p0)), (2, .int (iI r_1)), (3, .int (iI ta)), (4, .int (iI cc))]) hx hb dX6_deep0_92 hl (by decide) rfl (fun ls hl => ?_)
                      refine xr_iinc (z := kj) (lv' := [(6, .int (iI (kj + 1))), (5, .int (iI 1)), (0, .ref (a 0)), (1, .int (iI p0)), (2, .int (iI r_1)), (3, .int (iI ta)), (4, .int (iI cc))]) hx hb dX6_deep0_94 hl (k := 1) rfl (by decide) rfl (fun ls hl => ?_)
                      refine lv_goto (tgt := 34) hx hb dX6_deep0_97 (by decide) ?_
                      exact ih_34 1 (kj + 1) gi _ _ (by omega) (by omega) (by intro _; omega) (by first | exact ex_1 i3 (by omega) | exact ex_2 (Q := fun j => mdv I F 2 (F 11 (8 * p0 + j)) = F 14 cc) (by omega) (by show mdv I F 2 (F 11 (8 * p0 + kj)) = F 14 cc; omega) | exact ex_3 (Q := fun j => mdv I F 2 (F 11 (8 * p0 + j)) = F 14 cc) i3 (by omega) (by show ¬ mdv I F 2 (F 11 (8 * p0 + kj)) = F 14 cc; omega)) hP hS ls (lv_sub hl [1, 0, 2, 3, 4, 5, 6] rfl)
                    · skip
                      -- 58 f
                      refine lv_aload_n hx hb dX6_deep0_61 rfl (lv_at hl 2 rfl) ?_
                      refine lv_aload_n hx hb dX6_deep0_62 rfl (lv_at hl 2 rfl) ?_
                      refine va_get (D := D) (cl := vwC) (ci := 7) (v := .ref (a 11)) (C := RX6) (T := TX6) (N := 27) hx hb hG.use i_X6 hown hK hP 0 rfl rfl 15 (by decide) (hG.use _ lf_X6_42) (fun _ h9 => h9) rfl dX6_deep0_63 ?_
                      refine xr_bipush hx hb dX6_deep0_66 (by decide +kernel) ?_
                      refine lv_iload_n hx hb dX6_deep0_68 rfl (lv_at hl 3 rfl) ?_
                      refine xr_imul (a := 8) (b := p0) hx hb dX6_deep0_69 ?_
                      refine lv_iload hx hb dX6_deep0_70 (lv_at hl 1 rfl) ?_
                      refine xr_iadd (a := 8 * p0) (b := kj) hx hb dX6_deep0_72 ?_
                      refine xr_iald (f := F 11) (z := (8 * p0) + kj) hx hb hK hP 11 10 rfl rfl (by omega) (by omega) (by decide) dX6_deep0_73 ?_
                      have f_mb := ((hv.ml p0 (F 11 (8 * p0 + kj)) (by omega) (by omega)).mp ⟨kj, by omega, rfl⟩).1
                      refine mu_call (g_runV (rest := []) hx hb hml hown hG hK hP mV_X6_deep1 (c_X6_deep1 l D a k I (uF (uF (uF F 20 gq_3) 20 g) 20 gi) hdis ((F 11) ((8 * p0) + kj)) hv (show 0 ≤ (F 11) ((8 * p0) + kj) ∧ (F 11) ((8 * p0) + kj) < I 4 by omega)) lk_X6_144 (va_recv hK hP (ci := 7) (q0 := 0) rfl rfl) rfl hl.1 rfl (Nat.le_of_ble_eq_true rfl) ⟨(Nat.le_of_ble_eq_true rfl), (Nat.le_of_ble_eq_true rfl)⟩ ⟨(Nat.le_of_ble_eq_true rfl), (Nat.le_of_ble_eq_true rfl)⟩ dX6_deep0_74) hS (fun _ h => h) (fun r_11 u H locs q_12 hP _ _ hS => ?_)
                      obtain ⟨I2, F2⟩ := u
                      try dsimp only at q_12
                      rcases q_12 with ⟨hdv, gd_13, hu⟩
                      · skip
                        cases hu
                        have hP : va_P D vwC (mW a k I (uF (uF (uF (uF F 20 gq_3) 20 g) 20 gi) 20 gd_13)) H := hP
                        have hdv : r_11 = mdv I F 2 ((F 11) ((8 * p0) + kj)) := hdv
                        have f_d := mdv_in hv 2 ((F 11) ((8 * p0) + kj))
                        rw [← hdv] at f_d
                        refine lv_aload_n hx hb dX6_deep0_77 rfl (lv_at hl 2 rfl) ?_
                        refine va_get (D := D) (cl := vwC) (ci := 7) (v := .ref (a 14)) (C := RX6) (T := TX6) (N := 27) hx hb hG.use i_X6 hown hK hP 0 rfl rfl 19 (by decide) (hG.use _ lf_X6_51) (fun _ h9 => h9) rfl dX6_deep0_78 ?_
                        refine lv_iload hx hb dX6_deep0_81 (lv_at hl 6 rfl) ?_
                        refine xr_iald (f := F 14) (z := cc) hx hb hK hP 14 13 rfl rfl (by omega) (by omega) (by decide) dX6_deep0_83 ?_
                        refine xr_icmp_ne (a := r_11) (b := (F 14) cc) (tgt := 91) hx hb dX6_deep0_84 (by decide) (fun c_14 => ?_) (fun c_14 => ?_) (by omega) (by omega)
                        · skip
                          -- 84 t
                          refine xr_iconst hx hb dX6_deep0_91 ?_
                          refine lv_istore (lv' := [(5, .int (iI 0)), (6, .int (iI kj)), (0, .ref (a 0)), (1, .int (iI p0)), (2, .int (iI r_1)), (3, .int (iI ta)), (4, .int (iI cc))]) hx hb dX6_deep0_92 hl (by decide) rfl (fun ls hl => ?_)
                          refine xr_iinc (z := kj) (lv' := [(6, .int (iI (kj + 1))), (5, .int (iI 0)), (0, .ref (a 0)), (1, .int (iI p0)), (2, .int (iI r_1)), (3, .int (iI ta)), (4, .int (iI cc))]) hx hb dX6_deep0_94 hl (k := 1) rfl (by decide) rfl (fun ls hl => ?_)
                          refine lv_goto (tgt := 34) hx hb dX6_deep0_97 (by decide) ?_
                          exact ih_34 0 (kj + 1) gd_13 _ _ (by omega) (by omega) (by intro _; omega) (by first | exact ex_1 i3 (by omega) | exact ex_2 (Q := fun j => mdv I F 2 (F 11 (8 * p0 + j)) = F 14 cc) (by omega) (by show mdv I F 2 (F 11 (8 * p0 + kj)) = F 14 cc; omega) | exact ex_3 (Q := fun j => mdv I F 2 (F 11 (8 * p0 + j)) = F 14 cc) i3 (by omega) (by show ¬ mdv I F 2 (F 11 (8 * p0 + kj)) = F 14 cc; omega)) hP hS ls (lv_sub hl [1, 0, 2, 3, 4, 5, 6] rfl)
                        · skip
                          -- 84 f
                          refine xr_iconst hx hb dX6_deep0_87 ?_
                          refine lv_goto (tgt := 92) hx hb dX6_deep0_88 (by decide) ?_
                          refine lv_istore (lv' := [(5, .int (iI 1)), (6, .int (iI kj)), (0, .ref (a 0)), (1, .int (iI p0)), (2, .int (iI r_1)), (3, .int (iI ta)), (4, .int (iI cc))]) hx hb dX6_deep0_92 hl (by decide) rfl (fun ls hl => ?_)
                          refine xr_iinc (z := kj) (lv' := [(6, .int (iI (kj + 1))), (5, .int (iI 1)), (0, .ref (a 0)), (1, .int (iI p0)), (2, .int (iI r_1)), (3, .int (iI ta)), (4, .int (iI cc))]) hx hb dX6_deep0_94 hl (k := 1) rfl (by decide) rfl (fun ls hl => ?_)
                          refine lv_goto (tgt := 34) hx hb dX6_deep0_97 (by decide) ?_
                          exact ih_34 1 (kj + 1) gd_13 _ _ (by omega) (by omega) (by intro _; omega) (by first | exact ex_1 i3 (by omega) | exact ex_2 (Q := fun j => mdv I F 2 (F 11 (8 * p0 + j)) = F 14 cc) (by omega) (by show mdv I F 2 (F 11 (8 * p0 + kj)) = F 14 cc; omega) | exact ex_3 (Q := fun j => mdv I F 2 (F 11 (8 * p0 + j)) = F 14 cc) i3 (by omega) (by show ¬ mdv I F 2 (F 11 (8 * p0 + kj)) = F 14 cc; omega)) hP hS ls (lv_sub hl [1, 0, 2, 3, 4, 5, 6] rfl)
            exact lp_34 _ 0 0 g _ _ (Nat.lt_succ_self _) (by omega) (by intro h; omega) (by exact bz_f (by rintro ⟨j, h1, h2⟩; omega)) hP hS ls (lv_sub hl [1, 0, 4, 5, 6, 2, 3] rfl)
    exact lp_15 _ r_1 0 gq_3 _ _ (Nat.lt_succ_self _) (by omega) (by exact hfm2) (by omega) hP hS ls (lv_sub hl [1, 0, 3, 4, 2] rfl)
set_option maxHeartbeats 4000000 in
set_option maxRecDepth 100000 in
theorem c_X6_deep (l : Launch) (D : va_G) (a : Nat → Nat) (k : Nat → ClassId) (I : Nat → Int) (F : Nat → Int → Int) (hdis : dis 21 a) (p0 : Int) (hv : mInv I F) (b0 : -2147483648 ≤ p0 ∧ p0 < 2147483648) : mu_M (S := (Nat → Int) × (Nat → Int → Int)) l yX6_deep cX6_deep 2 (some .int) 6 [.ref (a 0), .int (iI p0)] D (mT k) (mW a k I F) (fun u => mW a k u.1 u.2) (fun r u => ((¬ (0 ≤ p0 ∧ p0 < I 4) ∧ r = -2) ∨ ((0 ≤ p0 ∧ p0 < I 4) ∧ r = mdv I F 3 p0)) ∧ ∃ g : Int → Int, u = (uI I 0 0, uF F 20 g)) (adr 21 a) := by
  refine me_start (by decide) (Nat.le_of_ble_eq_true rfl) rfl ?_
  intro p e s m below meth c hx hb hml hr hown hlocks hnm hG hK hP ls hl
  have hown : s.vm.findClass RX6 = some m.cls := hown
  have hl : lv_has ls 2 [(0, .ref (a 0)), (1, .int (iI p0))] := hl
  have hS : va_S (adr 21 a) s.heap s.heap [] := va_S.rf
  have f_n := hv.n
  refine lv_aload_n hx hb dX6_deep_0 rfl (lv_at hl 0 rfl) ?_
  refine xr_iconst hx hb dX6_deep_1 ?_
  refine va_put (D := D) (cl := vwC) (ci := 7) (v := .int (iI 0)) (ty := .int) (C := RX6) (T := TX6) (N := 27) hx hb hG.use i_X6 tyX6 tyX6_ok nmX6 hown hK hP (mD hdis) hS 0 rfl rfl 0 (by decide) (hG.use _ lf_X6_72) (fun _ h9 => h9) rfl (by decide +kernel) rfl rfl (Nat.le_of_ble_eq_true rfl) dX6_deep_2 (fun H locs hP _ hS => ?_)
  have hP : va_P D vwC (mW a k (uI I 0 0) F) H := hP
  refine lv_aload_n hx hb dX6_deep_5 rfl (lv_at hl 0 rfl) ?_
  refine lv_iload_n hx hb dX6_deep_6 rfl (lv_at hl 1 rfl) ?_
  refine ro_call (g_runV (rest := []) hx hb hml hown hG hK hP mV_X6_isFile (c_X6_isFile l D a k (uI I 0 0) F p0 (by omega) f_n.2.1) lk_X6_118 (va_recv hK hP (ci := 7) (q0 := 0) rfl rfl) rfl hl.1 rfl (Nat.le_of_ble_eq_true rfl) ⟨(Nat.le_of_ble_eq_true rfl), (Nat.le_of_ble_eq_true rfl)⟩ ⟨(Nat.le_of_ble_eq_true rfl), (Nat.le_of_ble_eq_true rfl)⟩ dX6_deep_7) (fun r_1 q_2 => ?_)
  have q_2 : bz (0 ≤ p0 ∧ p0 ≤ I 4 - 1) r_1 := q_2
  refine xr_if_eqZ (tgt := 21) hx hb q_2 dX6_deep_10 (by decide) (fun c_3 => ?_) (fun c_3 => ?_)
  · skip
    -- 10 t
    refine xr_bipush hx hb dX6_deep_21 (by decide +kernel) ?_
    exact W.iret (v := iI (-2)) hx hb hr (fun t ht9 hW => ⟨(-2), (uI I 0 0, uF F 20 (F 20)), rfl, (by first | exact ⟨Or.inl ⟨by omega, rfl⟩, _, rfl⟩ | exact ⟨Or.inr ⟨by omega, hdv⟩, _, rfl⟩), by rw [ht9]; exact hP, hS.F ht9⟩) hS.2.2 dX6_deep_23
  · skip
    -- 10 f
    refine lv_aload_n hx hb dX6_deep_13 rfl (lv_at hl 0 rfl) ?_
    refine lv_iload_n hx hb dX6_deep_14 rfl (lv_at hl 1 rfl) ?_
    refine mu_call (g_runV (rest := []) hx hb hml hown hG hK hP mV_X6_deep0 (c_X6_deep0 l D a k (uI I 0 0) F hdis p0 hv (show 0 ≤ p0 ∧ p0 < I 4 by omega)) lk_X6_147 (va_recv hK hP (ci := 7) (q0 := 0) rfl rfl) rfl hl.1 rfl (Nat.le_of_ble_eq_true rfl) ⟨(Nat.le_of_ble_eq_true rfl), (Nat.le_of_ble_eq_true rfl)⟩ ⟨(Nat.le_of_ble_eq_true rfl), (Nat.le_of_ble_eq_true rfl)⟩ dX6_deep_15) hS (fun _ h => h) (fun r_4 u H locs q_5 hP _ _ hS => ?_)
    obtain ⟨I1, F1⟩ := u
    try dsimp only at q_5
    rcases q_5 with ⟨hdv, gd_6, hu⟩
    · skip
      cases hu
      have hP : va_P D vwC (mW a k (uI I 0 0) (uF F 20 gd_6)) H := hP
      have hdv : r_4 = mdv I F 3 p0 := hdv
      have f_d := mdv_in hv 3 p0
      rw [← hdv] at f_d
      refine lv_goto (tgt := 23) hx hb dX6_deep_18 (by decide) ?_
      exact W.iret (v := iI r_4) hx hb hr (fun t ht9 hW => ⟨r_4, (uI I 0 0, uF F 20 gd_6), rfl, (by first | exact ⟨Or.inl ⟨by omega, rfl⟩, _, rfl⟩ | exact ⟨Or.inr ⟨by omega, hdv⟩, _, rfl⟩), by rw [ht9]; exact hP, hS.F ht9⟩) hS.2.2 dX6_deep_23
