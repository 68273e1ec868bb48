theorem mo_fill {z : Prop} {g : Int → Int} {kk v : Int} (h : ∀ q, 0 ≤ q → q < kk → (g q = 0 ∨ g q = 1) ∧ (g q = 1 ↔ (z ∧ q = 0))) (hv : (v = 1 ∧ z ∧ kk = 0) ∨ (v = 0 ∧ ¬ (z ∧ kk = 0))) : ∀ q, 0 ≤ q → q < kk + 1 → (uA g kk v q = 0 ∨ uA g kk v q = 1) ∧ (uA g kk v q = 1 ↔ (z ∧ q = 0)) := by
  intro q q0 q1
  by_cases e : q = kk
  · subst e
    rw [uA_s]
    rcases hv with ⟨h1, h2, h3⟩ | ⟨h1, h2⟩
    · subst h1; exact ⟨Or.inr rfl, ⟨fun _ => ⟨h2, h3⟩, fun _ => rfl⟩⟩
    · subst h1; exact ⟨Or.inl rfl, ⟨fun x => absurd x (by decide), fun x => absurd x h2⟩⟩
  · rw [uA_n e]; exact h q q0 (by omega)
theorem mo_add {Z : Int → Prop} {P : Int → Prop} {rk fm g : Int → Int} {ro be : Int} (h : ∀ q, 0 ≤ q → q < 30 → (g q = 0 ∨ g q = 1) ∧ (g q = 1 ↔ (Z q ∨ ∃ r : Int, (0 ≤ r ∧ r < ro) ∧ P r ∧ rk r = be ∧ fm r = q))) (h0 : 0 ≤ ro) (hp : P ro) (hr : rk ro = be) : ∀ q, 0 ≤ q → q < 30 → (uA g (fm ro) 1 q = 0 ∨ uA g (fm ro) 1 q = 1) ∧ (uA g (fm ro) 1 q = 1 ↔ (Z q ∨ ∃ r : Int, (0 ≤ r ∧ r < ro + 1) ∧ P r ∧ rk r = be ∧ fm r = q)) := by
  intro q q0 q1
  by_cases e : q = fm ro
  · subst e
    rw [uA_s]
    exact ⟨Or.inr rfl, ⟨fun _ => Or.inr ⟨ro, by omega, hp, hr, rfl⟩, fun _ => rfl⟩⟩
  · rw [uA_n e]
    refine ⟨(h q q0 q1).1, (h q q0 q1).2.trans ⟨fun x => ?_, fun x => ?_⟩⟩
    · rcases x with x | ⟨r, a, b, c, d⟩
      · exact Or.inl x
      · exact Or.inr ⟨r, by omega, b, c, d⟩
    · rcases x with x | ⟨r, a, b, c, d⟩
      · exact Or.inl x
      · by_cases er : r = ro
        · subst er; exact absurd d.symm e
        · exact Or.inr ⟨r, by omega, b, c, d⟩
theorem mo_skip {Z : Int → Prop} {P : Int → Prop} {rk fm g : Int → Int} {ro be : Int} (h : ∀ q, 0 ≤ q → q < 30 → (g q = 0 ∨ g q = 1) ∧ (g q = 1 ↔ (Z q ∨ ∃ r : Int, (0 ≤ r ∧ r < ro) ∧ P r ∧ rk r = be ∧ fm r = q))) (hs : ¬ P ro ∨ ¬ rk ro = be) : ∀ q, 0 ≤ q → q < 30 → (g q = 0 ∨ g q = 1) ∧ (g q = 1 ↔ (Z q ∨ ∃ r : Int, (0 ≤ r ∧ r < ro + 1) ∧ P r ∧ rk r = be ∧ fm r = q)) := by
  intro q q0 q1
  refine ⟨(h q q0 q1).1, (h q q0 q1).2.trans ⟨fun x => ?_, fun x => ?_⟩⟩
  · rcases x with x | ⟨r, a, b, c, d⟩
    · exact Or.inl x
    · exact Or.inr ⟨r, by omega, b, c, d⟩
  · rcases x with x | ⟨r, a, b, c, d⟩
    · exact Or.inl x
    · by_cases er : r = ro
      · subst er
        rcases hs with hs | hs
        · exact absurd b hs
        · exact absurd c hs
      · exact Or.inr ⟨r, by omega, b, c, d⟩
set_option maxHeartbeats 4000000 in
set_option maxRecDepth 100000 in
theorem c_X6_formatOf (l : Launch) (D : va_G) (a : Nat → Nat) (k : Nat → ClassId) (I : Nat → Int) (F : Nat → Int → Int) (hdis : dis 21 a) (p0 p1 : Int) (hv : mInv I F) (h0 : 0 ≤ p0 ∧ p0 < I 4) (h1 : 0 ≤ p1 ∧ p1 ≤ I 3) : mu_M (S := (Nat → Int) × (Nat → Int → Int)) l yX6_formatOf cX6_formatOf 7 (some .int) 1 [.ref (a 0), .int (iI p0), .int (iI p1)] D (mT k) (mW a k I F) (fun u => mW a k u.1 u.2) (fun r u => r = fv (mset F p0 p1) ∧ ∃ g : Int → Int, u = (I, uF F 20 g) ∧ ∀ q, 0 ≤ q → q < 30 → (g q = 0 ∨ g q = 1) ∧ (g q = 1 ↔ mset F p0 p1 q)) (adr 21 a) := by
  refine me_start (by decide) (Nat.le_of_ble_eq_true rfl) rfl ?_
  intro p e s m below meth c hx hb hml hr hown hlocks hnm hG hK hP ls hl
  have hown : s.vm.findClass RX6 = some m.cls := hown
  have hl : lv_has ls 7 [(0, .ref (a 0)), (1, .int (iI p0)), (2, .int (iI p1))] := hl
  have hS : va_S (adr 21 a) s.heap s.heap [] := va_S.rf
  have f_n := hv.n
  have f_fl := hv.fl p0 (by omega) (by omega)
  refine xr_iconst hx hb dX6_formatOf_0 ?_
  refine lv_istore_n (lv' := [(3, .int (iI (-1))), (0, .ref (a 0)), (1, .int (iI p0)), (2, .int (iI p1))]) hx hb dX6_formatOf_1 rfl hl (by decide) rfl (fun ls hl => ?_)
  refine xr_iconst hx hb dX6_formatOf_2 ?_
  refine lv_istore (lv' := [(4, .int (iI 0)), (3, .int (iI (-1))), (0, .ref (a 0)), (1, .int (iI p0)), (2, .int (iI p1))]) hx hb dX6_formatOf_3 hl (by decide) rfl (fun ls hl => ?_)
  have lp_5 : ∀ (nz : Nat) (be : Int) (ro : Int), (p1 - ro).toNat < nz → (0 ≤ ro ∧ ro ≤ p1) → (-1 ≤ be ∧ be < 10) → (bsI (F 3) (fun r => mfit F r p0) ro be) → ∀ ls : Array Slot, lv_has ls 7 [(3, .int (iI be)), (4, .int (iI ro)), (0, .ref (a 0)), (1, .int (iI p0)), (2, .int (iI p1))] → W p l e (rmd 1) s m ([.ref (a 0), .int (iI p0), .int (iI p1)] : List Value).toArray below meth c s.heap [] 0 0 (MQ below (mu_Q (S := (Nat → Int) × (Nat → Int → Int)) (fun u => mW a k u.1 u.2) D (fun r u => r = fv (mset F p0 p1) ∧ ∃ g : Int → Int, u = (I, uF F 20 g) ∧ ∀ q, 0 ≤ q → q < 30 → (g q = 0 ∨ g q = 1) ∧ (g q = 1 ↔ mset F p0 p1 q)) (adr 21 a)) ([.ref (a 0), .int (iI p0), .int (iI p1)] : List Value).toArray s 0 0 (adr 21 a)) (F0 m 5 ls []) := by
    clear hl
    intro nz
    induction nz with
    | zero =>
      intro be ro hn
      exact absurd hn (Nat.not_lt_zero _)
    | succ n_5 ih_5 =>
      intro be ro hn_5 i0 i2 i1 ls hl
      refine lv_iload hx hb dX6_formatOf_5 (lv_at hl 1 rfl) ?_
      refine lv_iload_n hx hb dX6_formatOf_7 rfl (lv_at hl 4 rfl) ?_
      refine xr_icmp_ge (a := ro) (b := p1) (tgt := 50) hx hb dX6_formatOf_8 (by decide) (fun c_1 => ?_) (fun c_1 => ?_) (by omega) (by omega)
      · skip
        -- 8 t
        have e_r : ro = p1 := by omega
        rw [e_r] at i1
        refine xr_iconst hx hb dX6_formatOf_50 ?_
        refine lv_istore (lv' := [(4, .int (iI 0)), (3, .int (iI be)), (0, .ref (a 0)), (1, .int (iI p0)), (2, .int (iI p1))]) hx hb dX6_formatOf_51 hl (by decide) rfl (fun ls hl => ?_)
        have lp_53 : ∀ (nz : Nat) (kk : Int) (g : Int → Int) (H : Heap) (locs : List Loc), (30 - kk).toNat < nz → (0 ≤ kk ∧ kk ≤ 30) → (∀ q, 0 ≤ q → q < kk → (g q = 0 ∨ g q = 1) ∧ (g q = 1 ↔ (F 8 p0 = 0 ∧ q = 0))) → va_P D vwC (mW a k I (uF F 20 g)) H → va_S (adr 21 a) s.heap H locs → ∀ ls : Array Slot, lv_has ls 7 [(4, .int (iI kk)), (0, .ref (a 0)), (1, .int (iI p0)), (2, .int (iI p1)), (3, .int (iI be))] → W p l e (rmd 1) s m ([.ref (a 0), .int (iI p0), .int (iI p1)] : List Value).toArray below meth c H locs 0 0 (MQ below (mu_Q (S := (Nat → Int) × (Nat → Int → Int)) (fun u => mW a k u.1 u.2) D (fun r u => r = fv (mset F p0 p1) ∧ ∃ g : Int → Int, u = (I, uF F 20 g) ∧ ∀ q, 0 ≤ q → q < 30 → (g q = 0 ∨ g q = 1) ∧ (g q = 1 ↔ mset F p0 p1 q)) (adr 21 a)) ([.ref (a 0), .int (iI p0), .int (iI p1)] : List Value).toArray s 0 0 (adr 21 a)) (F0 m 53 ls []) := by
          clear hl
          intro nz
          induction nz with
          | zero =>
            intro kk g H locs hn
            exact absurd hn (Nat.not_lt_zero _)
          | succ n_53 ih_53 =>
            intro kk g H locs hn_53 j0 j1 hP hS ls hl
            refine lv_iload hx hb dX6_formatOf_53 (lv_at hl 0 rfl) ?_
            refine xr_bipush hx hb dX6_formatOf_55 (by decide +kernel) ?_
            refine xr_icmp_ge (a := kk) (b := 30) (tgt := 92) hx hb dX6_formatOf_57 (by decide) (fun c_2 => ?_) (fun c_2 => ?_) (by omega) (by omega)
            · skip
              -- 57 t
              refine xr_iconst hx hb dX6_formatOf_92 ?_
              refine lv_istore (lv' := [(4, .int (iI 0)), (0, .ref (a 0)), (1, .int (iI p0)), (2, .int (iI p1)), (3, .int (iI be))]) hx hb dX6_formatOf_93 hl (by decide) rfl (fun ls hl => ?_)
              have lp_95 : ∀ (nz : Nat) (ro : Int) (g : Int → Int) (H : Heap) (locs : List Loc), (p1 - ro).toNat < nz → (0 ≤ ro ∧ ro ≤ p1) → (∀ q, 0 ≤ q → q < 30 → (g q = 0 ∨ g q = 1) ∧ (g q = 1 ↔ ((F 8 p0 = 0 ∧ q = 0) ∨ ∃ r : Int, (0 ≤ r ∧ r < ro) ∧ mfit F r p0 ∧ F 3 r = be ∧ F 2 r = q))) → va_P D vwC (mW a k I (uF (uF F 20 g) 20 g)) H → va_S (adr 21 a) s.heap H locs → ∀ ls : Array Slot, lv_has ls 7 [(4, .int (iI ro)), (0, .ref (a 0)), (1, .int (iI p0)), (2, .int (iI p1)), (3, .int (iI be))] → W p l e (rmd 1) s m ([.ref (a 0), .int (iI p0), .int (iI p1)] : List Value).toArray below meth c H locs 0 0 (MQ below (mu_Q (S := (Nat → Int) × (Nat → Int → Int)) (fun u => mW a k u.1 u.2) D (fun r u => r = fv (mset F p0 p1) ∧ ∃ g : Int → Int, u = (I, uF F 20 g) ∧ ∀ q, 0 ≤ q → q < 30 → (g q = 0 ∨ g q = 1) ∧ (g q = 1 ↔ mset F p0 p1 q)) (adr 21 a)) ([.ref (a 0), .int (iI p0), .int (iI p1)] : List Value).toArray s 0 0 (adr 21 a)) (F0 m 95 ls []) := by
                clear hl
                intro nz
                induction nz with
                | zero =>
                  intro ro g H locs hn
                  exact absurd hn (Nat.not_lt_zero _)
                | succ n_95 ih_95 =>
                  intro ro g H locs hn_95 k0 k1 hP hS ls hl
                  refine lv_iload hx hb dX6_formatOf_95 (lv_at hl 0 rfl) ?_
                  refine lv_iload_n hx hb dX6_formatOf_97 rfl (lv_at hl 3 rfl) ?_
                  refine xr_icmp_ge (a := ro) (b := p1) (tgt := 141) hx hb dX6_formatOf_98 (by decide) (fun c_3 => ?_) (fun c_3 => ?_) (by omega) (by omega)
                  · skip
                    -- 98 t
                    have hSS : ∀ q, 0 ≤ q → q < 30 → (g q = 0 ∨ g q = 1) ∧ (g q = 1 ↔ mset F p0 p1 q) := by
                      intro q q0 q1
                      refine ⟨(k1 q q0 q1).1, (k1 q q0 q1).2.trans ?_⟩
                      rw [show ro = p1 by omega]
                      exact (bs_end (fm := F 2) i1 (fun r a b => (hv.rw r a (by omega)).2.1.1) (fun r a b c => mfit_0 c (hv.rw r a (by omega)).2.2.2.2.1) q).symm
                    have hSin := mset_in hv (f := p0) (n := p1) (by omega)
                    refine xr_iconst hx hb dX6_formatOf_141 ?_
                    refine lv_istore (lv' := [(4, .int (iI (-1))), (0, .ref (a 0)), (1, .int (iI p0)), (2, .int (iI p1)), (3, .int (iI be))]) hx hb dX6_formatOf_142 hl (by decide) rfl (fun ls hl => ?_)
                    refine xr_iconst hx hb dX6_formatOf_144 ?_
                    refine lv_istore (lv' := [(5, .int (iI 0)), (4, .int (iI (-1))), (0, .ref (a 0)), (1, .int (iI p0)), (2, .int (iI p1)), (3, .int (iI be))]) hx hb dX6_formatOf_145 hl (by decide) rfl (fun ls hl => ?_)
                    refine xr_iconst hx hb dX6_formatOf_147 ?_
                    refine lv_istore (lv' := [(6, .int (iI 0)), (5, .int (iI 0)), (4, .int (iI (-1))), (0, .ref (a 0)), (1, .int (iI p0)), (2, .int (iI p1)), (3, .int (iI be))]) hx hb dX6_formatOf_148 hl (by decide) rfl (fun ls hl => ?_)
                    have lp_150 : ∀ (nz : Nat) (on : Int) (nn : Int) (kk : Int), (30 - kk).toNat < nz → (0 ≤ kk ∧ kk ≤ 30) → (lsI (mset F p0 p1) kk on nn) → (0 ≤ nn ∧ nn ≤ kk) → (-1 ≤ on ∧ on < 30) → ∀ ls : Array Slot, lv_has ls 7 [(4, .int (iI on)), (5, .int (iI nn)), (6, .int (iI kk)), (0, .ref (a 0))] → W p l e (rmd 1) s m ([.ref (a 0), .int (iI p0), .int (iI p1)] : List Value).toArray below meth c H locs 0 0 (MQ below (mu_Q (S := (Nat → Int) × (Nat → Int → Int)) (fun u => mW a k u.1 u.2) D (fun r u => r = fv (mset F p0 p1) ∧ ∃ g : Int → Int, u = (I, uF F 20 g) ∧ ∀ q, 0 ≤ q → q < 30 → (g q = 0 ∨ g q = 1) ∧ (g q = 1 ↔ mset F p0 p1 q)) (adr 21 a)) ([.ref (a 0), .int (iI p0), .int (iI p1)] : List Value).toArray s 0 0 (adr 21 a)) (F0 m 150 ls []) := by
                      clear hl
                      intro nz
                      induction nz with
                      | zero =>
                        intro on nn kk hn
                        exact absurd hn (Nat.not_lt_zero _)
                      | succ n_150 ih_150 =>
                        intro on nn kk hn_150 l0 l1 l2 l3 ls hl
                        refine lv_iload hx hb dX6_formatOf_150 (lv_at hl 2 rfl) ?_
                        refine xr_bipush hx hb dX6_formatOf_152 (by decide +kernel) ?_
                        refine xr_icmp_ge (a := kk) (b := 30) (tgt := 202) hx hb dX6_formatOf_154 (by decide) (fun c_4 => ?_) (fun c_4 => ?_) (by omega) (by omega)
                        · skip
                          -- 154 t
                          refine lv_iload hx hb dX6_formatOf_202 (lv_at hl 1 rfl) ?_
                          refine xr_iconst hx hb dX6_formatOf_204 ?_
                          refine xr_icmp_le (a := nn) (b := 1) (tgt := 213) hx hb dX6_formatOf_205 (by decide) (fun c_5 => ?_) (fun c_5 => ?_) (by omega) (by omega)
                          · skip
                            -- 205 t
                            refine lv_iload hx hb dX6_formatOf_213 (lv_at hl 0 rfl) ?_
                            exact W.iret (v := iI on) hx hb hr (fun t ht9 hW => ⟨on, (I, uF F 20 g), rfl, (by refine ⟨?_, g, rfl, hSS⟩; rw [show kk = 30 by omega] at l1; first | exact (ls_two l1 hSin (by omega)).symm | exact ls_end l1 hSin (by omega)), by rw [ht9]; exact hP, hS.F ht9⟩) hS.2.2 dX6_formatOf_215
                          · skip
                            -- 205 f
                            refine xr_bipush hx hb dX6_formatOf_208 (by decide +kernel) ?_
                            refine lv_goto (tgt := 215) hx hb dX6_formatOf_210 (by decide) ?_
                            exact W.iret (v := iI (-5)) hx hb hr (fun t ht9 hW => ⟨(-5), (I, uF F 20 g), rfl, (by refine ⟨?_, g, rfl, hSS⟩; rw [show kk = 30 by omega] at l1; first | exact (ls_two l1 hSin (by omega)).symm | exact ls_end l1 hSin (by omega)), by rw [ht9]; exact hP, hS.F ht9⟩) hS.2.2 dX6_formatOf_215
                        · skip
                          -- 154 f
                          have f_g := (hSS kk (by omega) (by omega)).1
                          refine lv_aload_n hx hb dX6_formatOf_157 rfl (lv_at hl 3 rfl) ?_
                          refine va_get (D := D) (cl := vwC) (ci := 7) (v := .ref (a 20)) (C := RX6) (T := TX6) (N := 27) hx hb hG.use i_X6 hown hK hP 0 rfl rfl 26 (by decide) (hG.use _ lf_X6_69) (fun _ h9 => h9) rfl dX6_formatOf_158 ?_
                          refine lv_iload hx hb dX6_formatOf_161 (lv_at hl 2 rfl) ?_
                          refine xr_zald (f := g) (z := kk) hx hb hK hP 20 19 rfl rfl (by omega) (by omega) (by decide) dX6_formatOf_163 ?_
                          refine xr_if_eq (a := g kk) (tgt := 172) hx hb dX6_formatOf_164 (by decide) (fun c_6 => ?_) (fun c_6 => ?_) (by omega)
                          · skip
                            -- 164 t
                            refine lv_iload hx hb dX6_formatOf_172 (lv_at hl 0 rfl) ?_
                            refine lv_istore (lv' := [(4, .int (iI on)), (5, .int (iI nn)), (6, .int (iI kk)), (0, .ref (a 0))]) hx hb dX6_formatOf_174 hl (by decide) rfl (fun ls hl => ?_)
                            refine lv_iload hx hb dX6_formatOf_176 (lv_at hl 1 rfl) ?_
                            refine lv_aload_n hx hb dX6_formatOf_178 rfl (lv_at hl 3 rfl) ?_
                            refine va_get (D := D) (cl := vwC) (ci := 7) (v := .ref (a 20)) (C := RX6) (T := TX6) (N := 27) hx hb hG.use i_X6 hown hK hP 0 rfl rfl 26 (by decide) (hG.use _ lf_X6_69) (fun _ h9 => h9) rfl dX6_formatOf_179 ?_
                            refine lv_iload hx hb dX6_formatOf_182 (lv_at hl 2 rfl) ?_
                            refine xr_zald (f := g) (z := kk) hx hb hK hP 20 19 rfl rfl (by omega) (by omega) (by decide) dX6_formatOf_184 ?_
                            refine xr_if_eq (a := g kk) (tgt := 192) hx hb dX6_formatOf_185 (by decide) (fun c_7 => ?_) (fun c_7 => ?_) (by omega)
                            · skip
                              -- 185 t
                              refine xr_iconst hx hb dX6_formatOf_192 ?_
                              refine xr_iadd (a := nn) (b := 0) hx hb dX6_formatOf_193 ?_
                              refine lv_istore (lv' := [(5, .int (iI (nn + 0))), (4, .int (iI on)), (6, .int (iI kk)), (0, .ref (a 0))]) hx hb dX6_formatOf_194 hl (by decide) rfl (fun ls hl => ?_)
                              refine xr_iinc (z := kk) (lv' := [(6, .int (iI (kk + 1))), (5, .int (iI (nn + 0))), (4, .int (iI on)), (0, .ref (a 0))]) hx hb dX6_formatOf_196 hl (k := 2) rfl (by decide) rfl (fun ls hl => ?_)
                              refine lv_goto (tgt := 150) hx hb dX6_formatOf_199 (by decide) ?_
                              exact ih_150 on (nn + 0) (kk + 1) (by omega) (by omega) (by first | (exfalso; omega) | exact ls_t l1 (by omega) ((hSS kk (by omega) (by omega)).2.mp (by omega)) | exact ls_f l1 (by omega) (fun z => absurd ((hSS kk (by omega) (by omega)).2.mpr z) (by omega))) (by omega) (by omega) ls (lv_sub hl [2, 1, 0, 3] rfl)
                            · skip
                              -- 185 f
                              refine xr_iconst hx hb dX6_formatOf_188 ?_
                              refine lv_goto (tgt := 193) hx hb dX6_formatOf_189 (by decide) ?_
                              refine xr_iadd (a := nn) (b := 1) hx hb dX6_formatOf_193 ?_
                              refine lv_istore (lv' := [(5, .int (iI (nn + 1))), (4, .int (iI on)), (6, .int (iI kk)), (0, .ref (a 0))]) hx hb dX6_formatOf_194 hl (by decide) rfl (fun ls hl => ?_)
                              refine xr_iinc (z := kk) (lv' := [(6, .int (iI (kk + 1))), (5, .int (iI (nn + 1))), (4, .int (iI on)), (0, .ref (a 0))]) hx hb dX6_formatOf_196 hl (k := 2) rfl (by decide) rfl (fun ls hl => ?_)
                              refine lv_goto (tgt := 150) hx hb dX6_formatOf_199 (by decide) ?_
                              exact ih_150 on (nn + 1) (kk + 1) (by omega) (by omega) (by first | (exfalso; omega) | exact ls_t l1 (by omega) ((hSS kk (by omega) (by omega)).2.mp (by omega)) | exact ls_f l1 (by omega) (fun z => absurd ((hSS kk (by omega) (by omega)).2.mpr z) (by omega))) (by omega) (by omega) ls (lv_sub hl [2, 1, 0, 3] rfl)
                          · skip
                            -- 164 f
                            refine lv_iload hx hb dX6_formatOf_167 (lv_at hl 2 rfl) ?_
                            refine lv_goto (tgt := 174) hx hb dX6_formatOf_169 (by decide) ?_
                            refine lv_istore (lv' := [(4, .int (iI kk)), (5, .int (iI nn)), (6, .int (iI kk)), (0, .ref (a 0))]) hx hb dX6_formatOf_174 hl (by decide) rfl (fun ls hl => ?_)
                            refine lv_iload hx hb dX6_formatOf_176 (lv_at hl 1 rfl) ?_
                            refine lv_aload_n hx hb dX6_formatOf_178 rfl (lv_at hl 3 rfl) ?_
                            refine va_get (D := D) (cl := vwC) (ci := 7) (v := .ref (a 20)) (C := RX6) (T := TX6) (N := 27) hx hb hG.use i_X6 hown hK hP 0 rfl rfl 26 (by decide) (hG.use _ lf_X6_69) (fun _ h9 => h9) rfl dX6_formatOf_179 ?_
                            refine lv_iload hx hb dX6_formatOf_182 (lv_at hl 2 rfl) ?_
                            refine xr_zald (f := g) (z := kk) hx hb hK hP 20 19 rfl rfl (by omega) (by omega) (by decide) dX6_formatOf_184 ?_
                            refine xr_if_eq (a := g kk) (tgt := 192) hx hb dX6_formatOf_185 (by decide) (fun c_8 => ?_) (fun c_8 => ?_) (by omega)
                            · skip
                              -- 185 t
                              refine xr_iconst hx hb dX6_formatOf_192 ?_
                              refine xr_iadd (a := nn) (b := 0) hx hb dX6_formatOf_193 ?_
                              refine lv_istore (lv' := [(5, .int (iI (nn + 0))), (4, .int (iI kk)), (6, .int (iI kk)), (0, .ref (a 0))]) hx hb dX6_formatOf_194 hl (by decide) rfl (fun ls hl => ?_)
                              refine xr_iinc (z := kk) (lv' := [(6, .int (iI (kk + 1))), (5, .int (iI (nn + 0))), (4, .int (iI kk)), (0, .ref (a 0))]) hx hb dX6_formatOf_196 hl (k := 2) rfl (by decide) rfl (fun ls hl => ?_)
                              refine lv_goto (tgt := 150) hx hb dX6_formatOf_199 (by decide) ?_
                              exact ih_150 kk (nn + 0) (kk + 1) (by omega) (by omega) (by first | (exfalso; omega) | exact ls_t l1 (by omega) ((hSS kk (by omega) (by omega)).2.mp (by omega)) | exact ls_f l1 (by omega) (fun z => absurd ((hSS kk (by omega) (by omega)).2.mpr z) (by omega))) (by omega) (by omega) ls (lv_sub hl [2, 1, 0, 3] rfl)
                            · skip
                              -- 185 f
                              refine xr_iconst hx hb dX6_formatOf_188 ?_
                              refine lv_goto (tgt := 193) hx hb dX6_formatOf_189 (by decide) ?_
                              refine xr_iadd (a := nn) (b := 1) hx hb dX6_formatOf_193 ?_
                              refine lv_istore (lv' := [(5, .int (iI (nn + 1))), (4, .int (iI kk)), (6, .int (iI kk)), (0, .ref (a 0))]) hx hb dX6_formatOf_194 hl (by decide) rfl (fun ls hl => ?_)
                              refine xr_iinc (z := kk) (lv' := [(6, .int (iI (kk + 1))), (5, .int (iI (nn + 1))), (4, .int (iI kk)), (0, .ref (a 0))]) hx hb dX6_formatOf_196 hl (k := 2) rfl (by decide) rfl (fun ls hl => ?_)
                              refine lv_goto (tgt := 150) hx hb dX6_formatOf_199 (by decide) ?_
                              exact ih_150 kk (nn + 1) (kk + 1) (by omega) (by omega) (by first | (exfalso; omega) | exact ls_t l1 (by omega) ((hSS kk (by omega) (by omega)).2.mp (by omega)) | exact ls_f l1 (by omega) (fun z => absurd ((hSS kk (by omega) (by omega)).2.mpr z) (by omega))) (by omega) (by omega) ls (lv_sub hl [2, 1, 0, 3] rfl)
                    exact lp_150 _ (-1) 0 0 (Nat.lt_succ_self _) (by omega) (by exact ls_0) (by omega) (by omega) ls (lv_sub hl [2, 1, 0, 3] rfl)
                  · skip
                    -- 98 f
                    have f_r := hv.rw ro (by omega) (by omega)
                    refine lv_aload_n hx hb dX6_formatOf_101 rfl (lv_at hl 1 rfl) ?_
                    refine lv_iload hx hb dX6_formatOf_102 (lv_at hl 0 rfl) ?_
                    refine lv_iload_n hx hb dX6_formatOf_104 rfl (lv_at hl 2 rfl) ?_
                    refine ro_call (g_runV (rest := []) hx hb hml hown hG hK hP mV_X6_meetsAt (c_X6_meetsAt l D a k I (uF (uF F 20 g) 20 g) ro p0 hv (show 0 ≤ ro ∧ ro < I 3 by omega) (show 0 ≤ p0 ∧ p0 < I 4 by omega)) lk_X6_121 (va_recv hK hP (ci := 7) (q0 := 0) rfl rfl) rfl hl.1 rfl (Nat.le_of_ble_eq_true rfl) ⟨(Nat.le_of_ble_eq_true rfl), (Nat.le_of_ble_eq_true rfl)⟩ ⟨(Nat.le_of_ble_eq_true rfl), (Nat.le_of_ble_eq_true rfl)⟩ dX6_formatOf_105) (fun r_9 q_10 => ?_)
                    have q_10 : bz (mfit F ro p0) r_9 := q_10
                    refine xr_if_eqZ (tgt := 135) hx hb q_10 dX6_formatOf_108 (by decide) (fun c_11 => ?_) (fun c_11 => ?_)
                    · skip
                      -- 108 t
                      refine xr_iinc (z := ro) (lv' := [(4, .int (iI (ro + 1))), (0, .ref (a 0)), (1, .int (iI p0)), (2, .int (iI p1)), (3, .int (iI be))]) hx hb dX6_formatOf_135 hl (k := 0) rfl (by decide) rfl (fun ls hl => ?_)
                      refine lv_goto (tgt := 95) hx hb dX6_formatOf_138 (by decide) ?_
                      exact ih_95 (ro + 1) g _ _ (by omega) (by omega) (by first | exact mo_add (Z := fun q => F 8 p0 = 0 ∧ q = 0) (P := fun r => mfit F r p0) k1 (by omega) (by assumption) (by omega) | exact mo_skip (Z := fun q => F 8 p0 = 0 ∧ q = 0) (P := fun r => mfit F r p0) k1 (Or.inl (by assumption)) | exact mo_skip (Z := fun q => F 8 p0 = 0 ∧ q = 0) (P := fun r => mfit F r p0) k1 (Or.inr (by omega))) hP hS ls (lv_sub hl [0, 1, 2, 3, 4] rfl)
                    · skip
                      -- 108 f
                      refine lv_aload_n hx hb dX6_formatOf_111 rfl (lv_at hl 1 rfl) ?_
                      refine va_get (D := D) (cl := vwC) (ci := 7) (v := .ref (a 3)) (C := RX6) (T := TX6) (N := 27) hx hb hG.use i_X6 hown hK hP 0 rfl rfl 6 (by decide) (hG.use _ lf_X6_17) (fun _ h9 => h9) rfl dX6_formatOf_112 ?_
                      refine lv_iload hx hb dX6_formatOf_115 (lv_at hl 0 rfl) ?_
                      refine xr_iald (f := F 3) (z := ro) hx hb hK hP 3 2 rfl rfl (by omega) (by omega) (by decide) dX6_formatOf_117 ?_
                      refine lv_iload_n hx hb dX6_formatOf_118 rfl (lv_at hl 4 rfl) ?_
                      refine xr_icmp_ne (a := (F 3) ro) (b := be) (tgt := 135) hx hb dX6_formatOf_119 (by decide) (fun c_12 => ?_) (fun c_12 => ?_) (by omega) (by omega)
                      · skip
                        -- 119 t
                        refine xr_iinc (z := ro) (lv' := [(4, .int (iI (ro + 1))), (0, .ref (a 0)), (1, .int (iI p0)), (2, .int (iI p1)), (3, .int (iI be))]) hx hb dX6_formatOf_135 hl (k := 0) rfl (by decide) rfl (fun ls hl => ?_)
                        refine lv_goto (tgt := 95) hx hb dX6_formatOf_138 (by decide) ?_
                        exact ih_95 (ro + 1) g _ _ (by omega) (by omega) (by first | exact mo_add (Z := fun q => F 8 p0 = 0 ∧ q = 0) (P := fun r => mfit F r p0) k1 (by omega) (by assumption) (by omega) | exact mo_skip (Z := fun q => F 8 p0 = 0 ∧ q = 0) (P := fun r => mfit F r p0) k1 (Or.inl (by assumption)) | exact mo_skip (Z := fun q => F 8 p0 = 0 ∧ q = 0) (P := fun r => mfit F r p0) k1 (Or.inr (by omega))) hP hS ls (lv_sub hl [0, 1, 2, 3, 4] rfl)
                      · skip
                        -- 119 f
                        refine lv_aload_n hx hb dX6_formatOf_122 rfl (lv_at hl 1 rfl) ?_
                        refine va_get (D := D) (cl := vwC) (ci := 7) (v := .ref (a 20)) (C := RX6) (T := TX6) (N := 27) hx hb hG.use i_X6 hown hK hP 0 rfl rfl 26 (by decide) (hG.use _ lf_X6_69) (fun _ h9 => h9) rfl dX6_formatOf_123 ?_
                        refine lv_aload_n hx hb dX6_formatOf_126 rfl (lv_at hl 1 rfl) ?_
                        refine va_get (D := D) (cl := vwC) (ci := 7) (v := .ref (a 2)) (C := RX6) (T := TX6) (N := 27) hx hb hG.use i_X6 hown hK hP 0 rfl rfl 5 (by decide) (hG.use _ lf_X6_13) (fun _ h9 => h9) rfl dX6_formatOf_127 ?_
                        refine lv_iload hx hb dX6_formatOf_130 (lv_at hl 0 rfl) ?_
                        refine xr_iald (f := F 2) (z := ro) hx hb hK hP 2 1 rfl rfl (by omega) (by omega) (by decide) dX6_formatOf_132 ?_
                        refine xr_iconst hx hb dX6_formatOf_133 ?_
                        refine xr_zast (f := g) (z := (F 2) ro) (v := 1) hx hb hK hP (mD hdis) hS 20 19 rfl rfl (by omega) (by omega) (by decide) (by omega) dX6_formatOf_134 (fun H locs hP hS => ?_)
                        have hP : va_P D vwC (mW a k I (uF (uF (uF F 20 g) 20 g) 20 (uA g ((F 2) ro) 1))) H := hP
                        refine xr_iinc (z := ro) (lv' := [(4, .int (iI (ro + 1))), (0, .ref (a 0)), (1, .int (iI p0)), (2, .int (iI p1)), (3, .int (iI be))]) hx hb dX6_formatOf_135 hl (k := 0) rfl (by decide) rfl (fun ls hl => ?_)
                        refine lv_goto (tgt := 95) hx hb dX6_formatOf_138 (by decide) ?_
                        exact ih_95 (ro + 1) (uA g ((F 2) ro) 1) _ _ (by omega) (by omega) (by first | exact mo_add (Z := fun q => F 8 p0 = 0 ∧ q = 0) (P := fun r => mfit F r p0) k1 (by omega) (by assumption) (by omega) | exact mo_skip (Z := fun q => F 8 p0 = 0 ∧ q = 0) (P := fun r => mfit F r p0) k1 (Or.inl (by assumption)) | exact mo_skip (Z := fun q => F 8 p0 = 0 ∧ q = 0) (P := fun r => mfit F r p0) k1 (Or.inr (by omega))) hP hS ls (lv_sub hl [0, 1, 2, 3, 4] rfl)
              exact lp_95 _ 0 g _ _ (Nat.lt_succ_self _) (by omega) (by intro q q0 q1; refine ⟨(j1 q q0 (by omega)).1, (j1 q q0 (by omega)).2.trans ⟨fun x => Or.inl x, fun x => ?_⟩⟩; rcases x with x | ⟨r, x, _⟩; exact x; omega) hP hS ls (lv_sub hl [0, 1, 2, 3, 4] rfl)
            · skip
              -- 57 f
              refine lv_aload_n hx hb dX6_formatOf_60 rfl (lv_at hl 1 rfl) ?_
              refine va_get (D := D) (cl := vwC) (ci := 7) (v := .ref (a 20)) (C := RX6) (T := TX6) (N := 27) hx hb hG.use i_X6 hown hK hP 0 rfl rfl 26 (by decide) (hG.use _ lf_X6_69) (fun _ h9 => h9) rfl dX6_formatOf_61 ?_
              refine lv_iload hx hb dX6_formatOf_64 (lv_at hl 0 rfl) ?_
              refine lv_aload_n hx hb dX6_formatOf_66 rfl (lv_at hl 1 rfl) ?_
              refine va_get (D := D) (cl := vwC) (ci := 7) (v := .ref (a 8)) (C := RX6) (T := TX6) (N := 27) hx hb hG.use i_X6 hown hK hP 0 rfl rfl 12 (by decide) (hG.use _ lf_X6_33) (fun _ h9 => h9) rfl dX6_formatOf_67 ?_
              refine lv_iload_n hx hb dX6_formatOf_70 rfl (lv_at hl 2 rfl) ?_
              refine xr_iald (f := F 8) (z := p0) hx hb hK hP 8 7 rfl rfl (by omega) (by omega) (by decide) dX6_formatOf_71 ?_
              refine xr_if_ne (a := (F 8) p0) (tgt := 84) hx hb dX6_formatOf_72 (by decide) (fun c_13 => ?_) (fun c_13 => ?_) (by omega)
              · skip
                -- 72 t
                refine xr_iconst hx hb dX6_formatOf_84 ?_
                refine xr_zast (f := g) (z := kk) (v := 0) hx hb hK hP (mD hdis) hS 20 19 rfl rfl (by omega) (by omega) (by decide) (by omega) dX6_formatOf_85 (fun H locs hP hS => ?_)
                have hP : va_P D vwC (mW a k I (uF (uF F 20 g) 20 (uA g kk 0))) H := hP
                refine xr_iinc (z := kk) (lv' := [(4, .int (iI (kk + 1))), (0, .ref (a 0)), (1, .int (iI p0)), (2, .int (iI p1)), (3, .int (iI be))]) hx hb dX6_formatOf_86 hl (k := 0) rfl (by decide) rfl (fun ls hl => ?_)
                refine lv_goto (tgt := 53) hx hb dX6_formatOf_89 (by decide) ?_
                exact ih_53 (kk + 1) (uA g kk 0) _ _ (by omega) (by omega) (by exact mo_fill j1 (by omega)) hP hS ls (lv_sub hl [0, 1, 2, 3, 4] rfl)
              · skip
                -- 72 f
                refine lv_iload hx hb dX6_formatOf_75 (lv_at hl 0 rfl) ?_
                refine xr_if_ne (a := kk) (tgt := 84) hx hb dX6_formatOf_77 (by decide) (fun c_14 => ?_) (fun c_14 => ?_) (by omega)
                · skip
                  -- 77 t
                  refine xr_iconst hx hb dX6_formatOf_84 ?_
                  refine xr_zast (f := g) (z := kk) (v := 0) hx hb hK hP (mD hdis) hS 20 19 rfl rfl (by omega) (by omega) (by decide) (by omega) dX6_formatOf_85 (fun H locs hP hS => ?_)
                  have hP : va_P D vwC (mW a k I (uF (uF F 20 g) 20 (uA g kk 0))) H := hP
                  refine xr_iinc (z := kk) (lv' := [(4, .int (iI (kk + 1))), (0, .ref (a 0)), (1, .int (iI p0)), (2, .int (iI p1)), (3, .int (iI be))]) hx hb dX6_formatOf_86 hl (k := 0) rfl (by decide) rfl (fun ls hl => ?_)
                  refine lv_goto (tgt := 53) hx hb dX6_formatOf_89 (by decide) ?_
                  exact ih_53 (kk + 1) (uA g kk 0) _ _ (by omega) (by omega) (by exact mo_fill j1 (by omega)) hP hS ls (lv_sub hl [0, 1, 2, 3, 4] rfl)
                · skip
                  -- 77 f
                  refine xr_iconst hx hb dX6_formatOf_80 ?_
                  refine lv_goto (tgt := 85) hx hb dX6_formatOf_81 (by decide) ?_
                  refine xr_zast (f := g) (z := kk) (v := 1) hx hb hK hP (mD hdis) hS 20 19 rfl rfl (by omega) (by omega) (by decide) (by omega) dX6_formatOf_85 (fun H locs hP hS => ?_)
                  have hP : va_P D vwC (mW a k I (uF (uF F 20 g) 20 (uA g kk 1))) H := hP
                  refine xr_iinc (z := kk) (lv' := [(4, .int (iI (kk + 1))), (0, .ref (a 0)), (1, .int (iI p0)), (2, .int (iI p1)), (3, .int (iI be))]) hx hb dX6_formatOf_86 hl (k := 0) rfl (by decide) rfl (fun ls hl => ?_)
                  refine lv_goto (tgt := 53) hx hb dX6_formatOf_89 (by decide) ?_
                  exact ih_53 (kk + 1) (uA g kk 1) _ _ (by omega) (by omega) (by exact mo_fill j1 (by omega)) hP hS ls (lv_sub hl [0, 1, 2, 3, 4] rfl)
        exact lp_53 _ 0 (F 20) _ _ (Nat.lt_succ_self _) (by omega) (by intro q q0 q1; omega) hP hS ls (lv_sub hl [0, 2, 3, 4, 1] rfl)
      · skip
        -- 8 f
        have f_r := hv.rw ro (by omega) (by omega)
        refine lv_aload_n hx hb dX6_formatOf_11 rfl (lv_at hl 2 rfl) ?_
        refine lv_iload hx hb dX6_formatOf_12 (lv_at hl 1 rfl) ?_
        refine lv_iload_n hx hb dX6_formatOf_14 rfl (lv_at hl 3 rfl) ?_
        refine ro_call (g_runV (rest := []) hx hb hml hown hG hK hP mV_X6_meetsAt (c_X6_meetsAt l D a k I F ro p0 hv (show 0 ≤ ro ∧ ro < I 3 by omega) (show 0 ≤ p0 ∧ p0 < I 4 by omega)) lk_X6_121 (va_recv hK hP (ci := 7) (q0 := 0) rfl rfl) rfl hl.1 rfl (Nat.le_of_ble_eq_true rfl) ⟨(Nat.le_of_ble_eq_true rfl), (Nat.le_of_ble_eq_true rfl)⟩ ⟨(Nat.le_of_ble_eq_true rfl), (Nat.le_of_ble_eq_true rfl)⟩ dX6_formatOf_15) (fun r_15 q_16 => ?_)
        have q_16 : bz (mfit F ro p0) r_15 := q_16
        refine xr_if_eqZ (tgt := 42) hx hb q_16 dX6_formatOf_18 (by decide) (fun c_17 => ?_) (fun c_17 => ?_)
        · skip
          -- 18 t
          refine lv_iload_n hx hb dX6_formatOf_42 rfl (lv_at hl 0 rfl) ?_
          refine lv_istore_n (lv' := [(3, .int (iI be)), (4, .int (iI ro)), (0, .ref (a 0)), (1, .int (iI p0)), (2, .int (iI p1))]) hx hb dX6_formatOf_43 rfl hl (by decide) rfl (fun ls hl => ?_)
          refine xr_iinc (z := ro) (lv' := [(4, .int (iI (ro + 1))), (3, .int (iI be)), (0, .ref (a 0)), (1, .int (iI p0)), (2, .int (iI p1))]) hx hb dX6_formatOf_44 hl (k := 1) rfl (by decide) rfl (fun ls hl => ?_)
          refine lv_goto (tgt := 5) hx hb dX6_formatOf_47 (by decide) ?_
          exact ih_5 be (ro + 1) (by omega) (by omega) (by omega) (by first | exact bs_skip i1 (by omega) (Or.inr (by assumption)) | exact bs_skip i1 (by omega) (Or.inl (by omega)) | exact bs_new i1 (by omega) (by assumption) (by omega)) ls (lv_sub hl [1, 0, 2, 3, 4] rfl)
        · skip
          -- 18 f
          refine lv_aload_n hx hb dX6_formatOf_21 rfl (lv_at hl 2 rfl) ?_
          refine va_get (D := D) (cl := vwC) (ci := 7) (v := .ref (a 3)) (C := RX6) (T := TX6) (N := 27) hx hb hG.use i_X6 hown hK hP 0 rfl rfl 6 (by decide) (hG.use _ lf_X6_17) (fun _ h9 => h9) rfl dX6_formatOf_22 ?_
          refine lv_iload hx hb dX6_formatOf_25 (lv_at hl 1 rfl) ?_
          refine xr_iald (f := F 3) (z := ro) hx hb hK hP 3 2 rfl rfl (by omega) (by omega) (by decide) dX6_formatOf_27 ?_
          refine lv_iload_n hx hb dX6_formatOf_28 rfl (lv_at hl 0 rfl) ?_
          refine xr_icmp_le (a := (F 3) ro) (b := be) (tgt := 42) hx hb dX6_formatOf_29 (by decide) (fun c_18 => ?_) (fun c_18 => ?_) (by omega) (by omega)
          · skip
            -- 29 t
            refine lv_iload_n hx hb dX6_formatOf_42 rfl (lv_at hl 0 rfl) ?_
            refine lv_istore_n (lv' := [(3, .int (iI be)), (4, .int (iI ro)), (0, .ref (a 0)), (1, .int (iI p0)), (2, .int (iI p1))]) hx hb dX6_formatOf_43 rfl hl (by decide) rfl (fun ls hl => ?_)
            refine xr_iinc (z := ro) (lv' := [(4, .int (iI (ro + 1))), (3, .int (iI be)), (0, .ref (a 0)), (1, .int (iI p0)), (2, .int (iI p1))]) hx hb dX6_formatOf_44 hl (k := 1) rfl (by decide) rfl (fun ls hl => ?_)
            refine lv_goto (tgt := 5) hx hb dX6_formatOf_47 (by decide) ?_
            exact ih_5 be (ro + 1) (by omega) (by omega) (by omega) (by first | exact bs_skip i1 (by omega) (Or.inr (by assumption)) | exact bs_skip i1 (by omega) (Or.inl (by omega)) | exact bs_new i1 (by omega) (by assumption) (by omega)) ls (lv_sub hl [1, 0, 2, 3, 4] rfl)
          · skip
            -- 29 f
            refine lv_aload_n hx hb dX6_formatOf_32 rfl (lv_at hl 2 rfl) ?_
            refine va_get (D := D) (cl := vwC) (ci := 7) (v := .ref (a 3)) (C := RX6) (T := TX6) (N := 27) hx hb hG.use i_X6 hown hK hP 0 rfl rfl 6 (by decide) (hG.use _ lf_X6_17) (fun _ h9 => h9) rfl dX6_formatOf_33 ?_
            refine lv_iload hx hb dX6_formatOf_36 (lv_at hl 1 rfl) ?_
            refine xr_iald (f := F 3) (z := ro) hx hb hK hP 3 2 rfl rfl (by omega) (by omega) (by decide) dX6_formatOf_38 ?_
            refine lv_goto (tgt := 43) hx hb dX6_formatOf_39 (by decide) ?_
            refine lv_istore_n (lv' := [(3, .int (iI ((F 3) ro))), (4, .int (iI ro)), (0, .ref (a 0)), (1, .int (iI p0)), (2, .int (iI p1))]) hx hb dX6_formatOf_43 rfl hl (by decide) rfl (fun ls hl => ?_)
            refine xr_iinc (z := ro) (lv' := [(4, .int (iI (ro + 1))), (3, .int (iI ((F 3) ro))), (0, .ref (a 0)), (1, .int (iI p0)), (2, .int (iI p1))]) hx hb dX6_formatOf_44 hl (k := 1) rfl (by decide) rfl (fun ls hl => ?_)
            refine lv_goto (tgt := 5) hx hb dX6_formatOf_47 (by decide) ?_
            exact ih_5 ((F 3) ro) (ro + 1) (by omega) (by omega) (by omega) (by first | exact bs_skip i1 (by omega) (Or.inr (by assumption)) | exact bs_skip i1 (by omega) (Or.inl (by omega)) | exact bs_new i1 (by omega) (by assumption) (by omega)) ls (lv_sub hl [1, 0, 2, 3, 4] rfl)
  exact lp_5 _ (-1) 0 (Nat.lt_succ_self _) (by omega) (by omega) (by exact bs_0) ls (lv_sub hl [1, 0, 2, 3, 4] rfl)
set_option maxHeartbeats 4000000 in
set_option maxRecDepth 100000 in
theorem c_X6_sign (l : Launch) (D : va_G) (a : Nat → Nat) (k : Nat → ClassId) (I : Nat → Int) (F : Nat → Int → Int) (hdis : dis 21 a) (p0 : Int) (hv : mInv I F) : mv_M (S := (Nat → Int) × (Nat → Int → Int)) l yX6_sign cX6_sign 2 (none : Option Jvm.ClassFile.FieldType) 0 [.ref (a 0), .int (iI p0)] D (mT k) (mW a k I F) (fun u => mW a k u.1 u.2) (fun u => (60 ≤ I 1 ∧ u = (uI I 0 0, F)) ∨ (I 1 < 60 ∧ u = (uI (uI I 0 0) 1 (I 1 + 1), uF F 1 (uA (F 1) (I 1) (p0 % 256))))) (adr 21 a) := by
  refine me_start (by decide) (Nat.le_of_ble_eq_true rfl) rfl ?_
  intro p e s m below meth c hx hb hml hr hown hlocks hnm hG hK hP ls hl
  have hown : s.vm.findClass RX6 = some m.cls := hown
  have hl : lv_has ls 2 [(0, .ref (a 0)), (1, .int (iI p0))] := hl
  have hS : va_S (adr 21 a) s.heap s.heap [] := va_S.rf
  have f_n := hv.n
  refine lv_aload_n hx hb dX6_sign_0 rfl (lv_at hl 0 rfl) ?_
  refine xr_iconst hx hb dX6_sign_1 ?_
  refine va_put (D := D) (cl := vwC) (ci := 7) (v := .int (iI 0)) (ty := .int) (C := RX6) (T := TX6) (N := 27) hx hb hG.use i_X6 tyX6 tyX6_ok nmX6 hown hK hP (mD hdis) hS 0 rfl rfl 0 (by decide) (hG.use _ lf_X6_72) (fun _ h9 => h9) rfl (by decide +kernel) rfl rfl (Nat.le_of_ble_eq_true rfl) dX6_sign_2 (fun H locs hP _ hS => ?_)
  have hP : va_P D vwC (mW a k (uI I 0 0) F) H := hP
  refine lv_aload_n hx hb dX6_sign_5 rfl (lv_at hl 0 rfl) ?_
  refine va_get (D := D) (cl := vwC) (ci := 7) (v := .int (iI (I 1))) (C := RX6) (T := TX6) (N := 27) hx hb hG.use i_X6 hown hK hP 0 rfl rfl 1 (by decide) (hG.use _ lf_X6_83) (fun _ h9 => h9) rfl dX6_sign_6 ?_
  refine xr_bipush hx hb dX6_sign_9 (by decide +kernel) ?_
  refine xr_icmp_ne (a := I 1) (b := 60) (tgt := 15) hx hb dX6_sign_11 (by decide) (fun c_1 => ?_) (fun c_1 => ?_) (by omega) (by omega)
  · skip
    -- 11 t
    refine lv_aload_n hx hb dX6_sign_15 rfl (lv_at hl 0 rfl) ?_
    refine va_get (D := D) (cl := vwC) (ci := 7) (v := .ref (a 1)) (C := RX6) (T := TX6) (N := 27) hx hb hG.use i_X6 hown hK hP 0 rfl rfl 2 (by decide) (hG.use _ lf_X6_7) (fun _ h9 => h9) rfl dX6_sign_16 ?_
    refine lv_aload_n hx hb dX6_sign_19 rfl (lv_at hl 0 rfl) ?_
    refine va_get (D := D) (cl := vwC) (ci := 7) (v := .int (iI (I 1))) (C := RX6) (T := TX6) (N := 27) hx hb hG.use i_X6 hown hK hP 0 rfl rfl 1 (by decide) (hG.use _ lf_X6_83) (fun _ h9 => h9) rfl dX6_sign_20 ?_
    refine lv_iload_n hx hb dX6_sign_23 rfl (lv_at hl 1 rfl) ?_
    refine xr_i2b (z := p0) hx hb dX6_sign_24 ?_
    refine xr_bast (f := F 1) (z := I 1) (v := p0 % 256) hx hb hK hP (mD hdis) hS 1 0 rfl rfl (by omega) (by omega) (by decide) dX6_sign_25 (fun H locs hP hS => ?_)
    have hP : va_P D vwC (mW a k (uI I 0 0) (uF F 1 (uA (F 1) (I 1) (p0 % 256)))) H := hP
    refine lv_aload_n hx hb dX6_sign_26 rfl (lv_at hl 0 rfl) ?_
    refine lv_dup hx hb dX6_sign_27 rfl ?_
    refine va_get (D := D) (cl := vwC) (ci := 7) (v := .int (iI (I 1))) (C := RX6) (T := TX6) (N := 27) hx hb hG.use i_X6 hown hK hP 0 rfl rfl 1 (by decide) (hG.use _ lf_X6_83) (fun _ h9 => h9) rfl dX6_sign_28 ?_
    refine xr_iconst hx hb dX6_sign_31 ?_
    refine xr_iadd (a := I 1) (b := 1) hx hb dX6_sign_32 ?_
    refine va_put (D := D) (cl := vwC) (ci := 7) (v := .int (iI ((I 1) + 1))) (ty := .int) (C := RX6) (T := TX6) (N := 27) hx hb hG.use i_X6 tyX6 tyX6_ok nmX6 hown hK hP (mD hdis) hS 0 rfl rfl 1 (by decide) (hG.use _ lf_X6_83) (fun _ h9 => h9) rfl (by decide +kernel) rfl rfl (Nat.le_of_ble_eq_true rfl) dX6_sign_33 (fun H locs hP _ hS => ?_)
    have hP : va_P D vwC (mW a k (uI (uI I 0 0) 1 ((I 1) + 1)) (uF F 1 (uA (F 1) (I 1) (p0 % 256)))) H := hP
    exact W.vret hx hb hr (fun t ht9 hW => ⟨(uI (uI I 0 0) 1 ((I 1) + 1), uF F 1 (uA (F 1) (I 1) (p0 % 256))), rfl, (by first | exact Or.inl ⟨by omega, rfl⟩ | exact Or.inr ⟨by omega, rfl⟩), by rw [ht9]; exact hP, hS.F ht9⟩) hS.2.2 dX6_sign_36
  · skip
    -- 11 f
    exact W.vret hx hb hr (fun t ht9 hW => ⟨(uI I 0 0, F), rfl, (by first | exact Or.inl ⟨by omega, rfl⟩ | exact Or.inr ⟨by omega, rfl⟩), by rw [ht9]; exact hP, hS.F ht9⟩) hS.2.2 dX6_sign_14
set_option maxHeartbeats 4000000 in
set_option maxRecDepth 100000 in
theorem c_X6_file (l : Launch) (D : va_G) (a : Nat → Nat) (k : Nat → ClassId) (I : Nat → Int) (F : Nat → Int → Int) (hdis : dis 21 a)  (hv : mInv I F) : mu_M (S := (Nat → Int) × (Nat → Int → Int)) l yX6_file cX6_file 1 (some .int) 0 [.ref (a 0)] D (mT k) (mW a k I F) (fun u => mW a k u.1 u.2) (fun r u => (40 ≤ I 4 ∧ r = -4 ∧ u = (uI I 0 0, F)) ∨ (I 4 < 40 ∧ r = I 4 ∧ u = (uI (uI I 0 0) 4 (I 4 + 1), F))) (adr 21 a) := by
  refine me_start (by decide) (Nat.le_of_ble_eq_true rfl) rfl ?_
  intro p e s m below meth c hx hb hml hr hown hlocks hnm hG hK hP ls hl
  have hown : s.vm.findClass RX6 = some m.cls := hown
  have hl : lv_has ls 1 [(0, .ref (a 0))] := hl
  have hS : va_S (adr 21 a) s.heap s.heap [] := va_S.rf
  have f_n := hv.n
  refine lv_aload_n hx hb dX6_file_0 rfl (lv_at hl 0 rfl) ?_
  refine xr_iconst hx hb dX6_file_1 ?_
  refine va_put (D := D) (cl := vwC) (ci := 7) (v := .int (iI 0)) (ty := .int) (C := RX6) (T := TX6) (N := 27) hx hb hG.use i_X6 tyX6 tyX6_ok nmX6 hown hK hP (mD hdis) hS 0 rfl rfl 0 (by decide) (hG.use _ lf_X6_72) (fun _ h9 => h9) rfl (by decide +kernel) rfl rfl (Nat.le_of_ble_eq_true rfl) dX6_file_2 (fun H locs hP _ hS => ?_)
  have hP : va_P D vwC (mW a k (uI I 0 0) F) H := hP
  refine lv_aload_n hx hb dX6_file_5 rfl (lv_at hl 0 rfl) ?_
  refine va_get (D := D) (cl := vwC) (ci := 7) (v := .int (iI (I 4))) (C := RX6) (T := TX6) (N := 27) hx hb hG.use i_X6 hown hK hP 0 rfl rfl 11 (by decide) (hG.use _ lf_X6_76) (fun _ h9 => h9) rfl dX6_file_6 ?_
  refine xr_bipush hx hb dX6_file_9 (by decide +kernel) ?_
  refine xr_icmp_ne (a := I 4) (b := 40) (tgt := 17) hx hb dX6_file_11 (by decide) (fun c_1 => ?_) (fun c_1 => ?_) (by omega) (by omega)
  · skip
    -- 11 t
    refine lv_aload_n hx hb dX6_file_17 rfl (lv_at hl 0 rfl) ?_
    refine lv_dup hx hb dX6_file_18 rfl ?_
    refine va_get (D := D) (cl := vwC) (ci := 7) (v := .int (iI (I 4))) (C := RX6) (T := TX6) (N := 27) hx hb hG.use i_X6 hown hK hP 0 rfl rfl 11 (by decide) (hG.use _ lf_X6_76) (fun _ h9 => h9) rfl dX6_file_19 ?_
    refine xr_iconst hx hb dX6_file_22 ?_
    refine xr_iadd (a := I 4) (b := 1) hx hb dX6_file_23 ?_
    refine va_put (D := D) (cl := vwC) (ci := 7) (v := .int (iI ((I 4) + 1))) (ty := .int) (C := RX6) (T := TX6) (N := 27) hx hb hG.use i_X6 tyX6 tyX6_ok nmX6 hown hK hP (mD hdis) hS 0 rfl rfl 11 (by decide) (hG.use _ lf_X6_76) (fun _ h9 => h9) rfl (by decide +kernel) rfl rfl (Nat.le_of_ble_eq_true rfl) dX6_file_24 (fun H locs hP _ hS => ?_)
    have hP : va_P D vwC (mW a k (uI (uI I 0 0) 4 ((I 4) + 1)) F) H := hP
    refine lv_aload_n hx hb dX6_file_27 rfl (lv_at hl 0 rfl) ?_
    refine va_get (D := D) (cl := vwC) (ci := 7) (v := .int (iI ((I 4) + 1))) (C := RX6) (T := TX6) (N := 27) hx hb hG.use i_X6 hown hK hP 0 rfl rfl 11 (by decide) (hG.use _ lf_X6_76) (fun _ h9 => h9) rfl dX6_file_28 ?_
    refine xr_iconst hx hb dX6_file_31 ?_
    refine xr_isub (a := (I 4) + 1) (b := 1) hx hb dX6_file_32 ?_
    exact W.iret (v := iI (((I 4) + 1) - 1)) hx hb hr (fun t ht9 hW => ⟨((I 4) + 1) - 1, (uI (uI I 0 0) 4 ((I 4) + 1), F), rfl, (by first | exact Or.inl ⟨by omega, by omega, rfl⟩ | exact Or.inr ⟨by omega, by omega, rfl⟩), by rw [ht9]; exact hP, hS.F ht9⟩) hS.2.2 dX6_file_33
  · skip
    -- 11 f
    refine xr_bipush hx hb dX6_file_14 (by decide +kernel) ?_
    exact W.iret (v := iI (-4)) hx hb hr (fun t ht9 hW => ⟨(-4), (uI I 0 0, F), rfl, (by first | exact Or.inl ⟨by omega, by omega, rfl⟩ | exact Or.inr ⟨by omega, by omega, rfl⟩), by rw [ht9]; exact hP, hS.F ht9⟩) hS.2.2 dX6_file_16
set_option maxHeartbeats 4000000 in
set_option maxRecDepth 100000 in
theorem c_X6_octet (l : Launch) (D : va_G) (a : Nat → Nat) (k : Nat → ClassId) (I : Nat → Int) (F : Nat → Int → Int) (hdis : dis 21 a) (p0 p1 : Int) (hv : mInv I F) (b0 : -2147483648 ≤ p0 ∧ p0 < 2147483648) (b1 : -2147483648 ≤ p1 ∧ p1 < 2147483648) : mu_M (S := (Nat → Int) × (Nat → Int → Int)) l yX6_octet cX6_octet 3 (some .int) 2 [.ref (a 0), .int (iI p0), .int (iI p1)] D (mT k) (mW a k I F) (fun u => mW a k u.1 u.2) (fun r u => (¬ (0 ≤ p0 ∧ p0 < I 4) ∧ r = -1 ∧ u = (uI I 0 0, F)) ∨ ((0 ≤ p0 ∧ p0 < I 4) ∧ ((60 ≤ F 8 p0 ∧ r = -4 ∧ u = (uI I 0 0, F)) ∨ (F 8 p0 < 60 ∧ r = F 8 p0 + 1 ∧ u = (uI I 0 0, uF (uF F 9 (uA (F 9) (60 * p0 + F 8 p0) (p1 % 256))) 8 (uA (F 8) p0 (F 8 p0 + 1))))))) (adr 21 a) := by
  refine me_start (by decide) (Nat.le_of_ble_eq_true rfl) rfl ?_
  intro p e s m below meth c hx hb hml hr hown hlocks hnm hG hK hP ls hl
  have hown : s.vm.findClass RX6 = some m.cls := hown
  have hl : lv_has ls 3 [(0, .ref (a 0)), (1, .int (iI p0)), (2, .int (iI p1))] := hl
  have hS : va_S (adr 21 a) s.heap s.heap [] := va_S.rf
  have f_n := hv.n
  refine lv_aload_n hx hb dX6_octet_0 rfl (lv_at hl 0 rfl) ?_
  refine xr_iconst hx hb dX6_octet_1 ?_
  refine va_put (D := D) (cl := vwC) (ci := 7) (v := .int (iI 0)) (ty := .int) (C := RX6) (T := TX6) (N := 27) hx hb hG.use i_X6 tyX6 tyX6_ok nmX6 hown hK hP (mD hdis) hS 0 rfl rfl 0 (by decide) (hG.use _ lf_X6_72) (fun _ h9 => h9) rfl (by decide +kernel) rfl rfl (Nat.le_of_ble_eq_true rfl) dX6_octet_2 (fun H locs hP _ hS => ?_)
  have hP : va_P D vwC (mW a k (uI I 0 0) F) H := hP
  refine lv_aload_n hx hb dX6_octet_5 rfl (lv_at hl 0 rfl) ?_
  refine lv_iload_n hx hb dX6_octet_6 rfl (lv_at hl 1 rfl) ?_
  refine ro_call (g_runV (rest := []) hx hb hml hown hG hK hP mV_X6_isFile (c_X6_isFile l D a k (uI I 0 0) F p0 (by omega) f_n.2.1) lk_X6_118 (va_recv hK hP (ci := 7) (q0 := 0) rfl rfl) rfl hl.1 rfl (Nat.le_of_ble_eq_true rfl) ⟨(Nat.le_of_ble_eq_true rfl), (Nat.le_of_ble_eq_true rfl)⟩ ⟨(Nat.le_of_ble_eq_true rfl), (Nat.le_of_ble_eq_true rfl)⟩ dX6_octet_7) (fun r_1 q_2 => ?_)
  have q_2 : bz (0 ≤ p0 ∧ p0 ≤ I 4 - 1) r_1 := q_2
  refine xr_if_neZ (tgt := 15) hx hb q_2 dX6_octet_10 (by decide) (fun c_3 => ?_) (fun c_3 => ?_)
  · skip
    -- 10 t
    have f_fl := hv.fl p0 (by omega) (by omega)
    refine lv_aload_n hx hb dX6_octet_15 rfl (lv_at hl 0 rfl) ?_
    refine va_get (D := D) (cl := vwC) (ci := 7) (v := .ref (a 8)) (C := RX6) (T := TX6) (N := 27) hx hb hG.use i_X6 hown hK hP 0 rfl rfl 12 (by decide) (hG.use _ lf_X6_33) (fun _ h9 => h9) rfl dX6_octet_16 ?_
    refine lv_iload_n hx hb dX6_octet_19 rfl (lv_at hl 1 rfl) ?_
    refine xr_iald (f := F 8) (z := p0) hx hb hK hP 8 7 rfl rfl (by omega) (by omega) (by decide) dX6_octet_20 ?_
    refine xr_bipush hx hb dX6_octet_21 (by decide +kernel) ?_
    refine xr_icmp_ne (a := (F 8) p0) (b := 60) (tgt := 29) hx hb dX6_octet_23 (by decide) (fun c_4 => ?_) (fun c_4 => ?_) (by omega) (by omega)
    · skip
      -- 23 t
      refine lv_aload_n hx hb dX6_octet_29 rfl (lv_at hl 0 rfl) ?_
      refine va_get (D := D) (cl := vwC) (ci := 7) (v := .ref (a 9)) (C := RX6) (T := TX6) (N := 27) hx hb hG.use i_X6 hown hK hP 0 rfl rfl 13 (by decide) (hG.use _ lf_X6_36) (fun _ h9 => h9) rfl dX6_octet_30 ?_
      refine xr_bipush hx hb dX6_octet_33 (by decide +kernel) ?_
      refine lv_iload_n hx hb dX6_octet_35 rfl (lv_at hl 1 rfl) ?_
      refine xr_imul (a := 60) (b := p0) hx hb dX6_octet_36 ?_
      refine lv_aload_n hx hb dX6_octet_37 rfl (lv_at hl 0 rfl) ?_
      refine va_get (D := D) (cl := vwC) (ci := 7) (v := .ref (a 8)) (C := RX6) (T := TX6) (N := 27) hx hb hG.use i_X6 hown hK hP 0 rfl rfl 12 (by decide) (hG.use _ lf_X6_33) (fun _ h9 => h9) rfl dX6_octet_38 ?_
      refine lv_iload_n hx hb dX6_octet_41 rfl (lv_at hl 1 rfl) ?_
      refine xr_iald (f := F 8) (z := p0) hx hb hK hP 8 7 rfl rfl (by omega) (by omega) (by decide) dX6_octet_42 ?_
      refine xr_iadd (a := 60 * p0) (b := (F 8) p0) hx hb dX6_octet_43 ?_
      refine lv_iload_n hx hb dX6_octet_44 rfl (lv_at hl 2 rfl) ?_
      refine xr_i2b (z := p1) hx hb dX6_octet_45 ?_
      refine xr_bast (f := F 9) (z := (60 * p0) + ((F 8) p0)) (v := p1 % 256) hx hb hK hP (mD hdis) hS 9 8 rfl rfl (by omega) (by omega) (by decide) dX6_octet_46 (fun H locs hP hS => ?_)
      have hP : va_P D vwC (mW a k (uI I 0 0) (uF F 9 (uA (F 9) ((60 * p0) + ((F 8) p0)) (p1 % 256)))) H := hP
      refine lv_aload_n hx hb dX6_octet_47 rfl (lv_at hl 0 rfl) ?_
      refine va_get (D := D) (cl := vwC) (ci := 7) (v := .ref (a 8)) (C := RX6) (T := TX6) (N := 27) hx hb hG.use i_X6 hown hK hP 0 rfl rfl 12 (by decide) (hG.use _ lf_X6_33) (fun _ h9 => h9) rfl dX6_octet_48 ?_
      refine lv_iload_n hx hb dX6_octet_51 rfl (lv_at hl 1 rfl) ?_
      refine lv_dup2_11 hx hb dX6_octet_52 rfl rfl ?_
      refine xr_iald (f := F 8) (z := p0) hx hb hK hP 8 7 rfl rfl (by omega) (by omega) (by decide) dX6_octet_53 ?_
      refine xr_iconst hx hb dX6_octet_54 ?_
      refine xr_iadd (a := (F 8) p0) (b := 1) hx hb dX6_octet_55 ?_
      refine xr_iast (f := F 8) (z := p0) (v := ((F 8) p0) + 1) hx hb hK hP (mD hdis) hS 8 7 rfl rfl (by omega) (by omega) (by decide) dX6_octet_56 (fun H locs hP hS => ?_)
      have hP : va_P D vwC (mW a k (uI I 0 0) (uF (uF F 9 (uA (F 9) ((60 * p0) + ((F 8) p0)) (p1 % 256))) 8 (uA (F 8) p0 (((F 8) p0) + 1)))) H := hP
      refine lv_aload_n hx hb dX6_octet_57 rfl (lv_at hl 0 rfl) ?_
      refine va_get (D := D) (cl := vwC) (ci := 7) (v := .ref (a 8)) (C := RX6) (T := TX6) (N := 27) hx hb hG.use i_X6 hown hK hP 0 rfl rfl 12 (by decide) (hG.use _ lf_X6_33) (fun _ h9 => h9) rfl dX6_octet_58 ?_
      refine lv_iload_n hx hb dX6_octet_61 rfl (lv_at hl 1 rfl) ?_
      refine xr_iald (f := uA (F 8) p0 (((F 8) p0) + 1)) (z := p0) hx hb hK hP 8 7 rfl rfl (by omega) (by omega) (by decide) dX6_octet_62 ?_
      exact W.iret (v := iI ((uA (F 8) p0 (((F 8) p0) + 1)) p0)) hx hb hr (fun t ht9 hW => ⟨(uA (F 8) p0 (((F 8) p0) + 1)) p0, (uI I 0 0, uF (uF F 9 (uA (F 9) ((60 * p0) + ((F 8) p0)) (p1 % 256))) 8 (uA (F 8) p0 (((F 8) p0) + 1))), rfl, (by right; exact ⟨by omega, Or.inr ⟨by omega, uA_s, rfl⟩⟩), by rw [ht9]; exact hP, hS.F ht9⟩) hS.2.2 dX6_octet_63
    · skip
      -- 23 f
      refine xr_bipush hx hb dX6_octet_26 (by decide +kernel) ?_
      exact W.iret (v := iI (-4)) hx hb hr (fun t ht9 hW => ⟨(-4), (uI I 0 0, F), rfl, (by right; exact ⟨by omega, Or.inl ⟨by omega, rfl, rfl⟩⟩), by rw [ht9]; exact hP, hS.F ht9⟩) hS.2.2 dX6_octet_28
  · skip
    -- 10 f
    refine xr_iconst hx hb dX6_octet_13 ?_
    exact W.iret (v := iI (-1)) hx hb hr (fun t ht9 hW => ⟨(-1), (uI I 0 0, F), rfl, (by left; exact ⟨by omega, rfl, rfl⟩), by rw [ht9]; exact hP, hS.F ht9⟩) hS.2.2 dX6_octet_14
set_option maxHeartbeats 4000000 in
set_option maxRecDepth 100000 in
theorem c_X6_container (l : Launch) (D : va_G) (a : Nat → Nat) (k : Nat → ClassId) (I : Nat → Int) (F : Nat → Int → Int) (hdis : dis 21 a) (p0 p1 p2 : Int) (hv : mInv I F) (b0 : -2147483648 ≤ p0 ∧ p0 < 2147483648) (b1 : -2147483648 ≤ p1 ∧ p1 < 2147483648) (b2 : -2147483648 ≤ p2 ∧ p2 < 2147483648) : mu_M (S := (Nat → Int) × (Nat → Int → Int)) l yX6_container cX6_container 4 (some .int) 2 [.ref (a 0), .int (iI p0), .int (iI p1), .int (iI p2)] D (mT k) (mW a k I F) (fun u => mW a k u.1 u.2) (fun r u => (¬ ((0 ≤ p0 ∧ p0 < 30) ∧ (0 ≤ p1 ∧ p1 < 30) ∧ (0 ≤ p2 ∧ p2 < 30)) ∧ r = -2 ∧ u = (uI I 0 0, F)) ∨ (((0 ≤ p0 ∧ p0 < 30) ∧ (0 ≤ p1 ∧ p1 < 30) ∧ (0 ≤ p2 ∧ p2 < 30)) ∧ ((20 ≤ I 5 ∧ r = -4 ∧ u = (uI I 0 0, F)) ∨ (I 5 < 20 ∧ r = I 5 ∧ u = (uI (uI I 0 0) 5 (I 5 + 1), uF (uF (uF F 13 (uA (F 13) (I 5) p0)) 14 (uA (F 14) (I 5) p1)) 15 (uA (F 15) (I 5) p2)))))) (adr 21 a) := by
  refine me_start (by decide) (Nat.le_of_ble_eq_true rfl) rfl ?_
  intro p e s m below meth c hx hb hml hr hown hlocks hnm hG hK hP ls hl
  have hown : s.vm.findClass RX6 = some m.cls := hown
  have hl : lv_has ls 4 [(0, .ref (a 0)), (1, .int (iI p0)), (2, .int (iI p1)), (3, .int (iI p2))] := hl
  have hS : va_S (adr 21 a) s.heap s.heap [] := va_S.rf
  have f_n := hv.n
  refine lv_aload_n hx hb dX6_container_0 rfl (lv_at hl 0 rfl) ?_
  refine xr_iconst hx hb dX6_container_1 ?_
  refine va_put (D := D) (cl := vwC) (ci := 7) (v := .int (iI 0)) (ty := .int) (C := RX6) (T := TX6) (N := 27) hx hb hG.use i_X6 tyX6 tyX6_ok nmX6 hown hK hP (mD hdis) hS 0 rfl rfl 0 (by decide) (hG.use _ lf_X6_72) (fun _ h9 => h9) rfl (by decide +kernel) rfl rfl (Nat.le_of_ble_eq_true rfl) dX6_container_2 (fun H locs hP _ hS => ?_)
  have hP : va_P D vwC (mW a k (uI I 0 0) F) H := hP
  refine lv_iload_n hx hb dX6_container_5 rfl (lv_at hl 1 rfl) ?_
  refine ro_call (g_runS (rest := []) hx hb hml hown hG (hK.sub (tys' := []) [] rfl) (va_P0) mS_X6_isFormat (c_X6_isFormat l D p0 (by omega)) lk_X6_132 rfl hl.1 rfl (Nat.le_of_ble_eq_true rfl) ⟨(Nat.le_of_ble_eq_true rfl), (Nat.le_of_ble_eq_true rfl)⟩ ⟨(Nat.le_of_ble_eq_true rfl), (Nat.le_of_ble_eq_true rfl)⟩ dX6_container_6) (fun r_1 q_2 => ?_)
  refine xr_if_eqZ (tgt := 26) hx hb q_2 dX6_container_9 (by decide) (fun c_3 => ?_) (fun c_3 => ?_)
  · skip
    -- 9 t
    refine xr_bipush hx hb dX6_container_26 (by decide +kernel) ?_
    exact W.iret (v := iI (-2)) hx hb hr (fun t ht9 hW => ⟨(-2), (uI I 0 0, F), rfl, (by left; exact ⟨by omega, rfl, rfl⟩), by rw [ht9]; exact hP, hS.F ht9⟩) hS.2.2 dX6_container_28
  · skip
    -- 9 f
    refine lv_iload_n hx hb dX6_container_12 rfl (lv_at hl 2 rfl) ?_
    refine ro_call (g_runS (rest := []) hx hb hml hown hG (hK.sub (tys' := []) [] rfl) (va_P0) mS_X6_isFormat (c_X6_isFormat l D p1 (by omega)) lk_X6_132 rfl hl.1 rfl (Nat.le_of_ble_eq_true rfl) ⟨(Nat.le_of_ble_eq_true rfl), (Nat.le_of_ble_eq_true rfl)⟩ ⟨(Nat.le_of_ble_eq_true rfl), (Nat.le_of_ble_eq_true rfl)⟩ dX6_container_13) (fun r_4 q_5 => ?_)
    refine xr_if_eqZ (tgt := 26) hx hb q_5 dX6_container_16 (by decide) (fun c_6 => ?_) (fun c_6 => ?_)
    · skip
      -- 16 t
      refine xr_bipush hx hb dX6_container_26 (by decide +kernel) ?_
      exact W.iret (v := iI (-2)) hx hb hr (fun t ht9 hW => ⟨(-2), (uI I 0 0, F), rfl, (by left; exact ⟨by omega, rfl, rfl⟩), by rw [ht9]; exact hP, hS.F ht9⟩) hS.2.2 dX6_container_28
    · skip
      -- 16 f
      refine lv_iload_n hx hb dX6_container_19 rfl (lv_at hl 3 rfl) ?_
      refine ro_call (g_runS (rest := []) hx hb hml hown hG (hK.sub (tys' := []) [] rfl) (va_P0) mS_X6_isFormat (c_X6_isFormat l D p2 (by omega)) lk_X6_132 rfl hl.1 rfl (Nat.le_of_ble_eq_true rfl) ⟨(Nat.le_of_ble_eq_true rfl), (Nat.le_of_ble_eq_true rfl)⟩ ⟨(Nat.le_of_ble_eq_true rfl), (Nat.le_of_ble_eq_true rfl)⟩ dX6_container_20) (fun r_7 q_8 => ?_)
      refine xr_if_neZ (tgt := 29) hx hb q_8 dX6_container_23 (by decide) (fun c_9 => ?_) (fun c_9 => ?_)
      · skip
        -- 23 t
        refine lv_aload_n hx hb dX6_container_29 rfl (lv_at hl 0 rfl) ?_
        refine va_get (D := D) (cl := vwC) (ci := 7) (v := .int (iI (I 5))) (C := RX6) (T := TX6) (N := 27) hx hb hG.use i_X6 hown hK hP 0 rfl rfl 17 (by decide) (hG.use _ lf_X6_135) (fun _ h9 => h9) rfl dX6_container_30 ?_
        refine xr_bipush hx hb dX6_container_33 (by decide +kernel) ?_
        refine xr_icmp_ne (a := I 5) (b := 20) (tgt := 41) hx hb dX6_container_35 (by decide) (fun c_10 => ?_) (fun c_10 => ?_) (by omega) (by omega)
        · skip
          -- 35 t
          refine lv_aload_n hx hb dX6_container_41 rfl (lv_at hl 0 rfl) ?_
          refine va_get (D := D) (cl := vwC) (ci := 7) (v := .ref (a 13)) (C := RX6) (T := TX6) (N := 27) hx hb hG.use i_X6 hown hK hP 0 rfl rfl 18 (by decide) (hG.use _ lf_X6_48) (fun _ h9 => h9) rfl dX6_container_42 ?_
          refine lv_aload_n hx hb dX6_container_45 rfl (lv_at hl 0 rfl) ?_
          refine va_get (D := D) (cl := vwC) (ci := 7) (v := .int (iI (I 5))) (C := RX6) (T := TX6) (N := 27) hx hb hG.use i_X6 hown hK hP 0 rfl rfl 17 (by decide) (hG.use _ lf_X6_135) (fun _ h9 => h9) rfl dX6_container_46 ?_
          refine lv_iload_n hx hb dX6_container_49 rfl (lv_at hl 1 rfl) ?_
          refine xr_iast (f := F 13) (z := I 5) (v := p0) hx hb hK hP (mD hdis) hS 13 12 rfl rfl (by omega) (by omega) (by decide) dX6_container_50 (fun H locs hP hS => ?_)
          have hP : va_P D vwC (mW a k (uI I 0 0) (uF F 13 (uA (F 13) (I 5) p0))) H := hP
          refine lv_aload_n hx hb dX6_container_51 rfl (lv_at hl 0 rfl) ?_
          refine va_get (D := D) (cl := vwC) (ci := 7) (v := .ref (a 14)) (C := RX6) (T := TX6) (N := 27) hx hb hG.use i_X6 hown hK hP 0 rfl rfl 19 (by decide) (hG.use _ lf_X6_51) (fun _ h9 => h9) rfl dX6_container_52 ?_
          refine lv_aload_n hx hb dX6_container_55 rfl (lv_at hl 0 rfl) ?_
          refine va_get (D := D) (cl := vwC) (ci := 7) (v := .int (iI (I 5))) (C := RX6) (T := TX6) (N := 27) hx hb hG.use i_X6 hown hK hP 0 rfl rfl 17 (by decide) (hG.use _ lf_X6_135) (fun _ h9 => h9) rfl dX6_container_56 ?_
          refine lv_iload_n hx hb dX6_container_59 rfl (lv_at hl 2 rfl) ?_
          refine xr_iast (f := F 14) (z := I 5) (v := p1) hx hb hK hP (mD hdis) hS 14 13 rfl rfl (by omega) (by omega) (by decide) dX6_container_60 (fun H locs hP hS => ?_)
          have hP : va_P D vwC (mW a k (uI I 0 0) (uF (uF F 13 (uA (F 13) (I 5) p0)) 14 (uA (F 14) (I 5) p1))) H := hP
          refine lv_aload_n hx hb dX6_container_61 rfl (lv_at hl 0 rfl) ?_
          refine va_get (D := D) (cl := vwC) (ci := 7) (v := .ref (a 15)) (C := RX6) (T := TX6) (N := 27) hx hb hG.use i_X6 hown hK hP 0 rfl rfl 20 (by decide) (hG.use _ lf_X6_54) (fun _ h9 => h9) rfl dX6_container_62 ?_
          refine lv_aload_n hx hb dX6_container_65 rfl (lv_at hl 0 rfl) ?_
          refine va_get (D := D) (cl := vwC) (ci := 7) (v := .int (iI (I 5))) (C := RX6) (T := TX6) (N := 27) hx hb hG.use i_X6 hown hK hP 0 rfl rfl 17 (by decide) (hG.use _ lf_X6_135) (fun _ h9 => h9) rfl dX6_container_66 ?_
          refine lv_iload_n hx hb dX6_container_69 rfl (lv_at hl 3 rfl) ?_
          refine xr_iast (f := F 15) (z := I 5) (v := p2) hx hb hK hP (mD hdis) hS 15 14 rfl rfl (by omega) (by omega) (by decide) dX6_container_70 (fun H locs hP hS => ?_)
          have hP : va_P D vwC (mW a k (uI I 0 0) (uF (uF (uF F 13 (uA (F 13) (I 5) p0)) 14 (uA (F 14) (I 5) p1)) 15 (uA (F 15) (I 5) p2))) H := hP
          refine lv_aload_n hx hb dX6_container_71 rfl (lv_at hl 0 rfl) ?_
          refine lv_dup hx hb dX6_container_72 rfl ?_
          refine va_get (D := D) (cl := vwC) (ci := 7) (v := .int (iI (I 5))) (C := RX6) (T := TX6) (N := 27) hx hb hG.use i_X6 hown hK hP 0 rfl rfl 17 (by decide) (hG.use _ lf_X6_135) (fun _ h9 => h9) rfl dX6_container_73 ?_
          refine xr_iconst hx hb dX6_container_76 ?_
          refine xr_iadd (a := I 5) (b := 1) hx hb dX6_container_77 ?_
          refine va_put (D := D) (cl := vwC) (ci := 7) (v := .int (iI ((I 5) + 1))) (ty := .int) (C := RX6) (T := TX6) (N := 27) hx hb hG.use i_X6 tyX6 tyX6_ok nmX6 hown hK hP (mD hdis) hS 0 rfl rfl 17 (by decide) (hG.use _ lf_X6_135) (fun _ h9 => h9) rfl (by decide +kernel) rfl rfl (Nat.le_of_ble_eq_true rfl) dX6_container_78 (fun H locs hP _ hS => ?_)
          have hP : va_P D vwC (mW a k (uI (uI I 0 0) 5 ((I 5) + 1)) (uF (uF (uF F 13 (uA (F 13) (I 5) p0)) 14 (uA (F 14) (I 5) p1)) 15 (uA (F 15) (I 5) p2))) H := hP
          refine lv_aload_n hx hb dX6_container_81 rfl (lv_at hl 0 rfl) ?_
          refine va_get (D := D) (cl := vwC) (ci := 7) (v := .int (iI ((I 5) + 1))) (C := RX6) (T := TX6) (N := 27) hx hb hG.use i_X6 hown hK hP 0 rfl rfl 17 (by decide) (hG.use _ lf_X6_135) (fun _ h9 => h9) rfl dX6_container_82 ?_
          refine xr_iconst hx hb dX6_container_85 ?_
          refine xr_isub (a := (I 5) + 1) (b := 1) hx hb dX6_container_86 ?_
          exact W.iret (v := iI (((I 5) + 1) - 1)) hx hb hr (fun t ht9 hW => ⟨((I 5) + 1) - 1, (uI (uI I 0 0) 5 ((I 5) + 1), uF (uF (uF F 13 (uA (F 13) (I 5) p0)) 14 (uA (F 14) (I 5) p1)) 15 (uA (F 15) (I 5) p2)), rfl, (by right; exact ⟨by omega, Or.inr ⟨by omega, by omega, rfl⟩⟩), by rw [ht9]; exact hP, hS.F ht9⟩) hS.2.2 dX6_container_87
        · skip
          -- 35 f
          refine xr_bipush hx hb dX6_container_38 (by decide +kernel) ?_
          exact W.iret (v := iI (-4)) hx hb hr (fun t ht9 hW => ⟨(-4), (uI I 0 0, F), rfl, (by right; exact ⟨by omega, Or.inl ⟨by omega, rfl, rfl⟩⟩), by rw [ht9]; exact hP, hS.F ht9⟩) hS.2.2 dX6_container_40
      · skip
        -- 23 f
        refine xr_bipush hx hb dX6_container_26 (by decide +kernel) ?_
        exact W.iret (v := iI (-2)) hx hb hr (fun t ht9 hW => ⟨(-2), (uI I 0 0, F), rfl, (by left; exact ⟨by omega, rfl, rfl⟩), by rw [ht9]; exact hP, hS.F ht9⟩) hS.2.2 dX6_container_28
set_option maxHeartbeats 4000000 in
set_option maxRecDepth 100000 in
theorem c_X6_obsolete (l : Launch) (D : va_G) (a : Nat → Nat) (k : Nat → ClassId) (I : Nat → Int) (F : Nat → Int → Int) (hdis : dis 21 a) (p0 p1 : Int) (hv : mInv I F) (b0 : -2147483648 ≤ p0 ∧ p0 < 2147483648) (b1 : p1 = 0 ∨ p1 = 1) : mu_M (S := (Nat → Int) × (Nat → Int → Int)) l yX6_obsolete cX6_obsolete 3 (some .int) 2 [.ref (a 0), .int (iI p0), .int (iI p1)] D (mT k) (mW a k I F) (fun u => mW a k u.1 u.2) (fun r u => (¬ (0 ≤ p0 ∧ p0 < 30) ∧ r = -2 ∧ u = (uI I 0 0, F)) ∨ ((0 ≤ p0 ∧ p0 < 30) ∧ r = 1 ∧ u = (uI I 0 0, uF F 16 (uA (F 16) p0 p1)))) (adr 21 a) := by
  refine me_start (by decide) (Nat.le_of_ble_eq_true rfl) rfl ?_
  intro p e s m below meth c hx hb hml hr hown hlocks hnm hG hK hP ls hl
  have hown : s.vm.findClass RX6 = some m.cls := hown
  have hl : lv_has ls 3 [(0, .ref (a 0)), (1, .int (iI p0)), (2, .int (iI p1))] := hl
  have hS : va_S (adr 21 a) s.heap s.heap [] := va_S.rf
  refine lv_aload_n hx hb dX6_obsolete_0 rfl (lv_at hl 0 rfl) ?_
  refine xr_iconst hx hb dX6_obsolete_1 ?_
  refine va_put (D := D) (cl := vwC) (ci := 7) (v := .int (iI 0)) (ty := .int) (C := RX6) (T := TX6) (N := 27) hx hb hG.use i_X6 tyX6 tyX6_ok nmX6 hown hK hP (mD hdis) hS 0 rfl rfl 0 (by decide) (hG.use _ lf_X6_72) (fun _ h9 => h9) rfl (by decide +kernel) rfl rfl (Nat.le_of_ble_eq_true rfl) dX6_obsolete_2 (fun H locs hP _ hS => ?_)
  have hP : va_P D vwC (mW a k (uI I 0 0) F) H := hP
  refine lv_iload_n hx hb dX6_obsolete_5 rfl (lv_at hl 1 rfl) ?_
  refine ro_call (g_runS (rest := []) hx hb hml hown hG (hK.sub (tys' := []) [] rfl) (va_P0) mS_X6_isFormat (c_X6_isFormat l D p0 (by omega)) lk_X6_132 rfl hl.1 rfl (Nat.le_of_ble_eq_true rfl) ⟨(Nat.le_of_ble_eq_true rfl), (Nat.le_of_ble_eq_true rfl)⟩ ⟨(Nat.le_of_ble_eq_true rfl), (Nat.le_of_ble_eq_true rfl)⟩ dX6_obsolete_6) (fun r_1 q_2 => ?_)
  refine xr_if_neZ (tgt := 15) hx hb q_2 dX6_obsolete_9 (by decide) (fun c_3 => ?_) (fun c_3 => ?_)
  · skip
    -- 9 t
    refine lv_aload_n hx hb dX6_obsolete_15 rfl (lv_at hl 0 rfl) ?_
    refine va_get (D := D) (cl := vwC) (ci := 7) (v := .ref (a 16)) (C := RX6) (T := TX6) (N := 27) hx hb hG.use i_X6 hown hK hP 0 rfl rfl 21 (by decide) (hG.use _ lf_X6_57) (fun _ h9 => h9) rfl dX6_obsolete_16 ?_
    refine lv_iload_n hx hb dX6_obsolete_19 rfl (lv_at hl 1 rfl) ?_
    refine lv_iload_n hx hb dX6_obsolete_20 rfl (lv_at hl 2 rfl) ?_
    refine xr_zast (f := F 16) (z := p0) (v := p1) hx hb hK hP (mD hdis) hS 16 15 rfl rfl (by omega) (by omega) (by decide) (by omega) dX6_obsolete_21 (fun H locs hP hS => ?_)
    have hP : va_P D vwC (mW a k (uI I 0 0) (uF F 16 (uA (F 16) p0 p1))) H := hP
    refine xr_iconst hx hb dX6_obsolete_22 ?_
    exact W.iret (v := iI 1) hx hb hr (fun t ht9 hW => ⟨1, (uI I 0 0, uF F 16 (uA (F 16) p0 p1)), rfl, (by right; exact ⟨by omega, rfl, rfl⟩), by rw [ht9]; exact hP, hS.F ht9⟩) hS.2.2 dX6_obsolete_23
  · skip
    -- 9 f
    refine xr_bipush hx hb dX6_obsolete_12 (by decide +kernel) ?_
    exact W.iret (v := iI (-2)) hx hb hr (fun t ht9 hW => ⟨(-2), (uI I 0 0, F), rfl, (by left; exact ⟨by omega, rfl, rfl⟩), by rw [ht9]; exact hP, hS.F ht9⟩) hS.2.2 dX6_obsolete_14
set_option maxHeartbeats 4000000 in
set_option maxRecDepth 100000 in
theorem c_X6_meets (l : Launch) (D : va_G) (a : Nat → Nat) (k : Nat → ClassId) (I : Nat → Int) (F : Nat → Int → Int) (hdis : dis 21 a) (p0 p1 : Int) (hv : mInv I F) (b0 : -2147483648 ≤ p0 ∧ p0 < 2147483648) (b1 : -2147483648 ≤ p1 ∧ p1 < 2147483648) : mu_M (S := (Nat → Int) × (Nat → Int → Int)) l yX6_meets cX6_meets 3 (some .int) 2 [.ref (a 0), .int (iI p0), .int (iI p1)] D (mT k) (mW a k I F) (fun u => mW a k u.1 u.2) (fun r u => u = (uI I 0 0, F) ∧ ((¬ ((0 ≤ p0 ∧ p0 < I 3) ∧ (0 ≤ p1 ∧ p1 < I 4)) ∧ r = -1) ∨ ((0 ≤ p0 ∧ p0 < I 3) ∧ (0 ≤ p1 ∧ p1 < I 4) ∧ bz (mfit F p0 p1) r))) (adr 21 a) := by
  refine me_start (by decide) (Nat.le_of_ble_eq_true rfl) rfl ?_
  intro p e s m below meth c hx hb hml hr hown hlocks hnm hG hK hP ls hl
  have hown : s.vm.findClass RX6 = some m.cls := hown
  have hl : lv_has ls 3 [(0, .ref (a 0)), (1, .int (iI p0)), (2, .int (iI p1))] := hl
  have hS : va_S (adr 21 a) s.heap s.heap [] := va_S.rf
  have f_n := hv.n
  refine lv_aload_n hx hb dX6_meets_0 rfl (lv_at hl 0 rfl) ?_
  refine xr_iconst hx hb dX6_meets_1 ?_
  refine va_put (D := D) (cl := vwC) (ci := 7) (v := .int (iI 0)) (ty := .int) (C := RX6) (T := TX6) (N := 27) hx hb hG.use i_X6 tyX6 tyX6_ok nmX6 hown hK hP (mD hdis) hS 0 rfl rfl 0 (by decide) (hG.use _ lf_X6_72) (fun _ h9 => h9) rfl (by decide +kernel) rfl rfl (Nat.le_of_ble_eq_true rfl) dX6_meets_2 (fun H locs hP _ hS => ?_)
  have hP : va_P D vwC (mW a k (uI I 0 0) F) H := hP
  refine lv_iload_n hx hb dX6_meets_5 rfl (lv_at hl 1 rfl) ?_
  refine xr_iconst hx hb dX6_meets_6 ?_
  refine lv_aload_n hx hb dX6_meets_7 rfl (lv_at hl 0 rfl) ?_
  refine va_get (D := D) (cl := vwC) (ci := 7) (v := .int (iI (I 3))) (C := RX6) (T := TX6) (N := 27) hx hb hG.use i_X6 hown hK hP 0 rfl rfl 4 (by decide) (hG.use _ lf_X6_97) (fun _ h9 => h9) rfl dX6_meets_8 ?_
  refine xr_iconst hx hb dX6_meets_11 ?_
  refine xr_isub (a := I 3) (b := 1) hx hb dX6_meets_12 ?_
  refine ro_call (g_runS (rest := []) hx hb hml hown hG (hK.sub (tys' := []) [] rfl) (va_P0) mS_X6_in (c_X6_in l D p0 0 ((I 3) - 1) (by omega) (by omega) (by omega)) lk_X6_79 rfl hl.1 rfl (Nat.le_of_ble_eq_true rfl) ⟨(Nat.le_of_ble_eq_true rfl), (Nat.le_of_ble_eq_true rfl)⟩ ⟨(Nat.le_of_ble_eq_true rfl), (Nat.le_of_ble_eq_true rfl)⟩ dX6_meets_13) (fun r_1 q_2 => ?_)
  refine xr_if_eqZ (tgt := 27) hx hb q_2 dX6_meets_16 (by decide) (fun c_3 => ?_) (fun c_3 => ?_)
  · skip
    -- 16 t
    refine xr_iconst hx hb dX6_meets_27 ?_
    exact W.iret (v := iI (-1)) hx hb hr (fun t ht9 hW => ⟨(-1), (uI I 0 0, F), rfl, (by refine ⟨rfl, Or.inl ⟨by omega, rfl⟩⟩), by rw [ht9]; exact hP, hS.F ht9⟩) hS.2.2 dX6_meets_28
  · skip
    -- 16 f
    refine lv_aload_n hx hb dX6_meets_19 rfl (lv_at hl 0 rfl) ?_
    refine lv_iload_n hx hb dX6_meets_20 rfl (lv_at hl 2 rfl) ?_
    refine ro_call (g_runV (rest := []) hx hb hml hown hG hK hP mV_X6_isFile (c_X6_isFile l D a k (uI I 0 0) F p1 (by omega) f_n.2.1) lk_X6_118 (va_recv hK hP (ci := 7) (q0 := 0) rfl rfl) rfl hl.1 rfl (Nat.le_of_ble_eq_true rfl) ⟨(Nat.le_of_ble_eq_true rfl), (Nat.le_of_ble_eq_true rfl)⟩ ⟨(Nat.le_of_ble_eq_true rfl), (Nat.le_of_ble_eq_true rfl)⟩ dX6_meets_21) (fun r_4 q_5 => ?_)
    have q_5 : bz (0 ≤ p1 ∧ p1 ≤ I 4 - 1) r_4 := q_5
    refine xr_if_neZ (tgt := 29) hx hb q_5 dX6_meets_24 (by decide) (fun c_6 => ?_) (fun c_6 => ?_)
    · skip
      -- 24 t
      refine lv_aload_n hx hb dX6_meets_29 rfl (lv_at hl 0 rfl) ?_
      refine lv_iload_n hx hb dX6_meets_30 rfl (lv_at hl 1 rfl) ?_
      refine lv_iload_n hx hb dX6_meets_31 rfl (lv_at hl 2 rfl) ?_
      refine ro_call (g_runV (rest := []) hx hb hml hown hG hK hP mV_X6_meetsAt (c_X6_meetsAt l D a k (uI I 0 0) F p0 p1 hv (show 0 ≤ p0 ∧ p0 < I 3 by omega) (show 0 ≤ p1 ∧ p1 < I 4 by omega)) lk_X6_121 (va_recv hK hP (ci := 7) (q0 := 0) rfl rfl) rfl hl.1 rfl (Nat.le_of_ble_eq_true rfl) ⟨(Nat.le_of_ble_eq_true rfl), (Nat.le_of_ble_eq_true rfl)⟩ ⟨(Nat.le_of_ble_eq_true rfl), (Nat.le_of_ble_eq_true rfl)⟩ dX6_meets_32) (fun r_7 q_8 => ?_)
      have q_8 : bz (mfit F p0 p1) r_7 := q_8
      refine xr_if_eqZ (tgt := 42) hx hb q_8 dX6_meets_35 (by decide) (fun c_9 => ?_) (fun c_9 => ?_)
      · skip
        -- 35 t
        refine xr_iconst hx hb dX6_meets_42 ?_
        exact W.iret (v := iI 0) hx hb hr (fun t ht9 hW => ⟨0, (uI I 0 0, F), rfl, (by refine ⟨rfl, Or.inr ⟨by omega, by omega, ?_⟩⟩; first | exact bz_t (by assumption) | exact bz_f (by assumption)), by rw [ht9]; exact hP, hS.F ht9⟩) hS.2.2 dX6_meets_43
      · skip
        -- 35 f
        refine xr_iconst hx hb dX6_meets_38 ?_
        refine lv_goto (tgt := 43) hx hb dX6_meets_39 (by decide) ?_
        exact W.iret (v := iI 1) hx hb hr (fun t ht9 hW => ⟨1, (uI I 0 0, F), rfl, (by refine ⟨rfl, Or.inr ⟨by omega, by omega, ?_⟩⟩; first | exact bz_t (by assumption) | exact bz_f (by assumption)), by rw [ht9]; exact hP, hS.F ht9⟩) hS.2.2 dX6_meets_43
    · skip
      -- 24 f
      refine xr_iconst hx hb dX6_meets_27 ?_
      exact W.iret (v := iI (-1)) hx hb hr (fun t ht9 hW => ⟨(-1), (uI I 0 0, F), rfl, (by refine ⟨rfl, Or.inl ⟨by omega, rfl⟩⟩), by rw [ht9]; exact hP, hS.F ht9⟩) hS.2.2 dX6_meets_28
set_option maxHeartbeats 4000000 in
set_option maxRecDepth 100000 in
theorem c_X6_found (l : Launch) (D : va_G) (a : Nat → Nat) (k : Nat → ClassId) (I : Nat → Int) (F : Nat → Int → Int) (hdis : dis 21 a) (p0 : Int) (hv : mInv I F) (b0 : -2147483648 ≤ p0 ∧ p0 < 2147483648) : mu_M (S := (Nat → Int) × (Nat → Int → Int)) l yX6_found cX6_found 2 (some .int) 1 [.ref (a 0), .int (iI p0)] D (mT k) (mW a k I F) (fun u => mW a k u.1 u.2) (fun r u => ((0 ≤ p0 ∧ p0 < I 6) ∧ r = F 18 p0 ∧ u = (uI I 0 0, F)) ∨ (¬ (0 ≤ p0 ∧ p0 < I 6) ∧ r = 0 ∧ u = (uI I 0 1, F))) (adr 21 a) := by
  refine me_start (by decide) (Nat.le_of_ble_eq_true rfl) rfl ?_
  intro p e s m below meth c hx hb hml hr hown hlocks hnm hG hK hP ls hl
  have hown : s.vm.findClass RX6 = some m.cls := hown
  have hl : lv_has ls 2 [(0, .ref (a 0)), (1, .int (iI p0))] := hl
  have hS : va_S (adr 21 a) s.heap s.heap [] := va_S.rf
  have f_n := hv.n
  refine lv_aload_n hx hb dX6_found_0 rfl (lv_at hl 0 rfl) ?_
  refine lv_iload_n hx hb dX6_found_1 rfl (lv_at hl 1 rfl) ?_
  refine xr_iconst hx hb dX6_found_2 ?_
  refine lv_aload_n hx hb dX6_found_3 rfl (lv_at hl 0 rfl) ?_
  refine va_get (D := D) (cl := vwC) (ci := 7) (v := .int (iI (I 6))) (C := RX6) (T := TX6) (N := 27) hx hb hG.use i_X6 hown hK hP 0 rfl rfl 23 (by decide) (hG.use _ lf_X6_129) (fun _ h9 => h9) rfl dX6_found_4 ?_
  refine xr_iconst hx hb dX6_found_7 ?_
  refine xr_isub (a := I 6) (b := 1) hx hb dX6_found_8 ?_
  refine ro_call (g_runS (rest := [.ref (a 0)]) hx hb hml hown hG (hK.sub (tys' := []) [] rfl) (va_P0) mS_X6_in (c_X6_in l D p0 0 ((I 6) - 1) (by omega) (by omega) (by omega)) lk_X6_79 rfl hl.1 rfl (Nat.le_of_ble_eq_true rfl) ⟨(Nat.le_of_ble_eq_true rfl), (Nat.le_of_ble_eq_true rfl)⟩ ⟨(Nat.le_of_ble_eq_true rfl), (Nat.le_of_ble_eq_true rfl)⟩ dX6_found_9) (fun r_1 q_2 => ?_)
  refine xr_if_eqZ (tgt := 19) hx hb q_2 dX6_found_12 (by decide) (fun c_3 => ?_) (fun c_3 => ?_)
  · skip
    -- 12 t
    refine xr_iconst hx hb dX6_found_19 ?_
    refine va_put (D := D) (cl := vwC) (ci := 7) (v := .int (iI 1)) (ty := .int) (C := RX6) (T := TX6) (N := 27) hx hb hG.use i_X6 tyX6 tyX6_ok nmX6 hown hK hP (mD hdis) hS 0 rfl rfl 0 (by decide) (hG.use _ lf_X6_72) (fun _ h9 => h9) rfl (by decide +kernel) rfl rfl (Nat.le_of_ble_eq_true rfl) dX6_found_20 (fun H locs hP _ hS => ?_)
    have hP : va_P D vwC (mW a k (uI I 0 1) F) H := hP
    refine lv_aload_n hx hb dX6_found_23 rfl (lv_at hl 0 rfl) ?_
    refine va_get (D := D) (cl := vwC) (ci := 7) (v := .int (iI 1)) (C := RX6) (T := TX6) (N := 27) hx hb hG.use i_X6 hown hK hP 0 rfl rfl 0 (by decide) (hG.use _ lf_X6_72) (fun _ h9 => h9) rfl dX6_found_24 ?_
    refine xr_if_le (a := 1) (tgt := 34) hx hb dX6_found_27 (by decide) (fun c_4 => ?_) (fun c_4 => ?_) (by omega)
    · exact absurd c_4 (by omega)
    · skip
      -- 27 f
      refine xr_iconst hx hb dX6_found_30 ?_
      refine lv_goto (tgt := 40) hx hb dX6_found_31 (by decide) ?_
      exact W.iret (v := iI 0) hx hb hr (fun t ht9 hW => ⟨0, (uI I 0 1, F), rfl, (by first | exact Or.inl ⟨by omega, rfl, rfl⟩ | exact Or.inr ⟨by omega, rfl, rfl⟩), by rw [ht9]; exact hP, hS.F ht9⟩) hS.2.2 dX6_found_40
  · skip
    -- 12 f
    refine xr_iconst hx hb dX6_found_15 ?_
    refine lv_goto (tgt := 20) hx hb dX6_found_16 (by decide) ?_
    refine va_put (D := D) (cl := vwC) (ci := 7) (v := .int (iI 0)) (ty := .int) (C := RX6) (T := TX6) (N := 27) hx hb hG.use i_X6 tyX6 tyX6_ok nmX6 hown hK hP (mD hdis) hS 0 rfl rfl 0 (by decide) (hG.use _ lf_X6_72) (fun _ h9 => h9) rfl (by decide +kernel) rfl rfl (Nat.le_of_ble_eq_true rfl) dX6_found_20 (fun H locs hP _ hS => ?_)
    have hP : va_P D vwC (mW a k (uI I 0 0) F) H := hP
    refine lv_aload_n hx hb dX6_found_23 rfl (lv_at hl 0 rfl) ?_
    refine va_get (D := D) (cl := vwC) (ci := 7) (v := .int (iI 0)) (C := RX6) (T := TX6) (N := 27) hx hb hG.use i_X6 hown hK hP 0 rfl rfl 0 (by decide) (hG.use _ lf_X6_72) (fun _ h9 => h9) rfl dX6_found_24 ?_
    refine xr_if_le (a := 0) (tgt := 34) hx hb dX6_found_27 (by decide) (fun c_5 => ?_) (fun c_5 => ?_) (by omega)
    · skip
      -- 27 t
      refine lv_aload_n hx hb dX6_found_34 rfl (lv_at hl 0 rfl) ?_
      refine va_get (D := D) (cl := vwC) (ci := 7) (v := .ref (a 18)) (C := RX6) (T := TX6) (N := 27) hx hb hG.use i_X6 hown hK hP 0 rfl rfl 24 (by decide) (hG.use _ lf_X6_63) (fun _ h9 => h9) rfl dX6_found_35 ?_
      refine lv_iload_n hx hb dX6_found_38 rfl (lv_at hl 1 rfl) ?_
      refine xr_iald (f := F 18) (z := p0) hx hb hK hP 18 17 rfl rfl (by omega) (by omega) (by decide) dX6_found_39 ?_
      exact W.iret (v := iI ((F 18) p0)) hx hb hr (fun t ht9 hW => ⟨(F 18) p0, (uI I 0 0, F), rfl, (by first | exact Or.inl ⟨by omega, rfl, rfl⟩ | exact Or.inr ⟨by omega, rfl, rfl⟩), by rw [ht9]; exact hP, hS.F ht9⟩) hS.2.2 dX6_found_40
    · exact absurd c_5 (by omega)
set_option maxHeartbeats 4000000 in
set_option maxRecDepth 100000 in
theorem c_X6_pattern (l : Launch) (D : va_G) (a : Nat → Nat) (k : Nat → ClassId) (I : Nat → Int) (F : Nat → Int → Int) (hdis : dis 21 a) (p0 p1 : Int) (hv : mInv I F) (b0 : -2147483648 ≤ p0 ∧ p0 < 2147483648) (b1 : -2147483648 ≤ p1 ∧ p1 < 2147483648) : mu_M (S := (Nat → Int) × (Nat → Int → Int)) l yX6_pattern cX6_pattern 3 (some .int) 1 [.ref (a 0), .int (iI p0), .int (iI p1)] D (mT k) (mW a k I F) (fun u => mW a k u.1 u.2) (fun r u => (¬ (0 ≤ p0 ∧ p0 < I 3) ∧ r = -1 ∧ u = (uI I 0 0, F)) ∨ ((0 ≤ p0 ∧ p0 < I 3) ∧ (((0 ≤ p1 ∧ p1 < F 6 p0) ∧ r = F 7 (12 * p0 + p1) ∧ u = (uI (uI I 0 0) 0 0, F)) ∨ (¬ (0 ≤ p1 ∧ p1 < F 6 p0) ∧ r = 0 ∧ u = (uI (uI I 0 0) 0 1, F))))) (adr 21 a) := by
  refine me_start (by decide) (Nat.le_of_ble_eq_true rfl) rfl ?_
  intro p e s m below meth c hx hb hml hr hown hlocks hnm hG hK hP ls hl
  have hown : s.vm.findClass RX6 = some m.cls := hown
  have hl : lv_has ls 3 [(0, .ref (a 0)), (1, .int (iI p0)), (2, .int (iI p1))] := hl
  have hS : va_S (adr 21 a) s.heap s.heap [] := va_S.rf
  have f_n := hv.n
  refine lv_aload_n hx hb dX6_pattern_0 rfl (lv_at hl 0 rfl) ?_
  refine xr_iconst hx hb dX6_pattern_1 ?_
  refine va_put (D := D) (cl := vwC) (ci := 7) (v := .int (iI 0)) (ty := .int) (C := RX6) (T := TX6) (N := 27) hx hb hG.use i_X6 tyX6 tyX6_ok nmX6 hown hK hP (mD hdis) hS 0 rfl rfl 0 (by decide) (hG.use _ lf_X6_72) (fun _ h9 => h9) rfl (by decide +kernel) rfl rfl (Nat.le_of_ble_eq_true rfl) dX6_pattern_2 (fun H locs hP _ hS => ?_)
  have hP : va_P D vwC (mW a k (uI I 0 0) F) H := hP
  refine lv_iload_n hx hb dX6_pattern_5 rfl (lv_at hl 1 rfl) ?_
  refine xr_iconst hx hb dX6_pattern_6 ?_
  refine lv_aload_n hx hb dX6_pattern_7 rfl (lv_at hl 0 rfl) ?_
  refine va_get (D := D) (cl := vwC) (ci := 7) (v := .int (iI (I 3))) (C := RX6) (T := TX6) (N := 27) hx hb hG.use i_X6 hown hK hP 0 rfl rfl 4 (by decide) (hG.use _ lf_X6_97) (fun _ h9 => h9) rfl dX6_pattern_8 ?_
  refine xr_iconst hx hb dX6_pattern_11 ?_
  refine xr_isub (a := I 3) (b := 1) hx hb dX6_pattern_12 ?_
  refine ro_call (g_runS (rest := []) hx hb hml hown hG (hK.sub (tys' := []) [] rfl) (va_P0) mS_X6_in (c_X6_in l D p0 0 ((I 3) - 1) (by omega) (by omega) (by omega)) lk_X6_79 rfl hl.1 rfl (Nat.le_of_ble_eq_true rfl) ⟨(Nat.le_of_ble_eq_true rfl), (Nat.le_of_ble_eq_true rfl)⟩ ⟨(Nat.le_of_ble_eq_true rfl), (Nat.le_of_ble_eq_true rfl)⟩ dX6_pattern_13) (fun r_1 q_2 => ?_)
  refine xr_if_neZ (tgt := 21) hx hb q_2 dX6_pattern_16 (by decide) (fun c_3 => ?_) (fun c_3 => ?_)
  · skip
    -- 16 t
    have f_r := hv.rw p0 (by omega) (by omega)
    refine lv_aload_n hx hb dX6_pattern_21 rfl (lv_at hl 0 rfl) ?_
    refine lv_iload_n hx hb dX6_pattern_22 rfl (lv_at hl 2 rfl) ?_
    refine xr_iconst hx hb dX6_pattern_23 ?_
    refine lv_aload_n hx hb dX6_pattern_24 rfl (lv_at hl 0 rfl) ?_
    refine va_get (D := D) (cl := vwC) (ci := 7) (v := .ref (a 6)) (C := RX6) (T := TX6) (N := 27) hx hb hG.use i_X6 hown hK hP 0 rfl rfl 9 (by decide) (hG.use _ lf_X6_27) (fun _ h9 => h9) rfl dX6_pattern_25 ?_
    refine lv_iload_n hx hb dX6_pattern_28 rfl (lv_at hl 1 rfl) ?_
    refine xr_iald (f := F 6) (z := p0) hx hb hK hP 6 5 rfl rfl (by omega) (by omega) (by decide) dX6_pattern_29 ?_
    refine xr_iconst hx hb dX6_pattern_30 ?_
    refine xr_isub (a := (F 6) p0) (b := 1) hx hb dX6_pattern_31 ?_
    refine ro_call (g_runS (rest := [.ref (a 0)]) hx hb hml hown hG (hK.sub (tys' := []) [] rfl) (va_P0) mS_X6_in (c_X6_in l D p1 0 (((F 6) p0) - 1) (by omega) (by omega) (by omega)) lk_X6_79 rfl hl.1 rfl (Nat.le_of_ble_eq_true rfl) ⟨(Nat.le_of_ble_eq_true rfl), (Nat.le_of_ble_eq_true rfl)⟩ ⟨(Nat.le_of_ble_eq_true rfl), (Nat.le_of_ble_eq_true rfl)⟩ dX6_pattern_32) (fun r_4 q_5 => ?_)
    refine xr_if_eqZ (tgt := 42) hx hb q_5 dX6_pattern_35 (by decide) (fun c_6 => ?_) (fun c_6 => ?_)
    · skip
      -- 35 t
      refine xr_iconst hx hb dX6_pattern_42 ?_
      refine va_put (D := D) (cl := vwC) (ci := 7) (v := .int (iI 1)) (ty := .int) (C := RX6) (T := TX6) (N := 27) hx hb hG.use i_X6 tyX6 tyX6_ok nmX6 hown hK hP (mD hdis) hS 0 rfl rfl 0 (by decide) (hG.use _ lf_X6_72) (fun _ h9 => h9) rfl (by decide +kernel) rfl rfl (Nat.le_of_ble_eq_true rfl) dX6_pattern_43 (fun H locs hP _ hS => ?_)
      have hP : va_P D vwC (mW a k (uI (uI I 0 0) 0 1) F) H := hP
      refine lv_aload_n hx hb dX6_pattern_46 rfl (lv_at hl 0 rfl) ?_
      refine va_get (D := D) (cl := vwC) (ci := 7) (v := .int (iI 1)) (C := RX6) (T := TX6) (N := 27) hx hb hG.use i_X6 hown hK hP 0 rfl rfl 0 (by decide) (hG.use _ lf_X6_72) (fun _ h9 => h9) rfl dX6_pattern_47 ?_
      refine xr_if_le (a := 1) (tgt := 57) hx hb dX6_pattern_50 (by decide) (fun c_7 => ?_) (fun c_7 => ?_) (by omega)
      · exact absurd c_7 (by omega)
      · skip
        -- 50 f
        refine xr_iconst hx hb dX6_pattern_53 ?_
        refine lv_goto (tgt := 68) hx hb dX6_pattern_54 (by decide) ?_
        exact W.iret (v := iI 0) hx hb hr (fun t ht9 hW => ⟨0, (uI (uI I 0 0) 0 1, F), rfl, (by right; refine ⟨by omega, ?_⟩; first | exact Or.inl ⟨by omega, rfl, rfl⟩ | exact Or.inr ⟨by omega, rfl, rfl⟩), by rw [ht9]; exact hP, hS.F ht9⟩) hS.2.2 dX6_pattern_68
    · skip
      -- 35 f
      refine xr_iconst hx hb dX6_pattern_38 ?_
      refine lv_goto (tgt := 43) hx hb dX6_pattern_39 (by decide) ?_
      refine va_put (D := D) (cl := vwC) (ci := 7) (v := .int (iI 0)) (ty := .int) (C := RX6) (T := TX6) (N := 27) hx hb hG.use i_X6 tyX6 tyX6_ok nmX6 hown hK hP (mD hdis) hS 0 rfl rfl 0 (by decide) (hG.use _ lf_X6_72) (fun _ h9 => h9) rfl (by decide +kernel) rfl rfl (Nat.le_of_ble_eq_true rfl) dX6_pattern_43 (fun H locs hP _ hS => ?_)
      have hP : va_P D vwC (mW a k (uI (uI I 0 0) 0 0) F) H := hP
      refine lv_aload_n hx hb dX6_pattern_46 rfl (lv_at hl 0 rfl) ?_
      refine va_get (D := D) (cl := vwC) (ci := 7) (v := .int (iI 0)) (C := RX6) (T := TX6) (N := 27) hx hb hG.use i_X6 hown hK hP 0 rfl rfl 0 (by decide) (hG.use _ lf_X6_72) (fun _ h9 => h9) rfl dX6_pattern_47 ?_
      refine xr_if_le (a := 0) (tgt := 57) hx hb dX6_pattern_50 (by decide) (fun c_8 => ?_) (fun c_8 => ?_) (by omega)
      · skip
        -- 50 t
        refine lv_aload_n hx hb dX6_pattern_57 rfl (lv_at hl 0 rfl) ?_
        refine va_get (D := D) (cl := vwC) (ci := 7) (v := .ref (a 7)) (C := RX6) (T := TX6) (N := 27) hx hb hG.use i_X6 hown hK hP 0 rfl rfl 10 (by decide) (hG.use _ lf_X6_30) (fun _ h9 => h9) rfl dX6_pattern_58 ?_
        refine xr_bipush hx hb dX6_pattern_61 (by decide +kernel) ?_
        refine lv_iload_n hx hb dX6_pattern_63 rfl (lv_at hl 1 rfl) ?_
        refine xr_imul (a := 12) (b := p0) hx hb dX6_pattern_64 ?_
        refine lv_iload_n hx hb dX6_pattern_65 rfl (lv_at hl 2 rfl) ?_
        refine xr_iadd (a := 12 * p0) (b := p1) hx hb dX6_pattern_66 ?_
        refine xr_iald (f := F 7) (z := (12 * p0) + p1) hx hb hK hP 7 6 rfl rfl (by omega) (by omega) (by decide) dX6_pattern_67 ?_
        exact W.iret (v := iI ((F 7) ((12 * p0) + p1))) hx hb hr (fun t ht9 hW => ⟨(F 7) ((12 * p0) + p1), (uI (uI I 0 0) 0 0, F), rfl, (by right; refine ⟨by omega, ?_⟩; first | exact Or.inl ⟨by omega, rfl, rfl⟩ | exact Or.inr ⟨by omega, rfl, rfl⟩), by rw [ht9]; exact hP, hS.F ht9⟩) hS.2.2 dX6_pattern_68
      · exact absurd c_8 (by omega)
  · skip
    -- 16 f
    refine xr_iconst hx hb dX6_pattern_19 ?_
    exact W.iret (v := iI (-1)) hx hb hr (fun t ht9 hW => ⟨(-1), (uI I 0 0, F), rfl, (by left; exact ⟨by omega, rfl, rfl⟩), by rw [ht9]; exact hP, hS.F ht9⟩) hS.2.2 dX6_pattern_20
