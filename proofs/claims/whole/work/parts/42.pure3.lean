section
variable {I : Nat → Int} {F : Nat → Int → Int} {J : Nat → Int} {G : Nat → Int → Int}
/-! the calls that write -/
theorem s_sign (h : RR I F J G) {p0 : Int} {u v : Us} (hx : (60 ≤ I 1 ∧ u = (I, F)) ∨ (I 1 < 60 ∧ u = (uI I 1 (I 1 + 1), uF F 7 (uA (F 7) (I 1) (p0 % 256))))) (hm : (60 ≤ J 1 ∧ v = (uI J 0 0, G)) ∨ (J 1 < 60 ∧ v = (uI (uI J 0 0) 1 (J 1 + 1), uF G 1 (uA (G 1) (J 1) (p0 % 256))))) : RR u.1 u.2 v.1 v.2 := by
  have hv := h.xi
  have hn := hv.n
  rw [h.n1, h.tx] at hm
  rcases hx with ⟨a, rfl⟩ | ⟨a, rfl⟩ <;> rcases hm with ⟨b, rfl⟩ | ⟨b, rfl⟩
  · exact h.th
  · omega
  · omega
  · refine ⟨⟨⟨hv.n.1, hv.n.2.1, hv.n.2.2.1, ?_⟩, ?_, hv.rw, hv.pt, hv.fl, hv.byt, hv.pr, hv.nw, hv.cn, hv.mg, hv.kp⟩, h.n3, h.n4, h.n5, rfl, rfl, h.ln, h.byt, h.mb, h.cf, h.cw, h.ct, h.od, h.rw, h.pt, h.pr, h.pn, h.mg, h.kp, h.fd, h.ml, h.r1, h.r2⟩
    · show 0 ≤ I 1 + 1 ∧ I 1 + 1 ≤ 60
      omega
    · show ∀ q, 0 ≤ q → q < I 1 + 1 → 0 ≤ uA (F 7) (I 1) (p0 % 256) q ∧ uA (F 7) (I 1) (p0 % 256) q < 256
      intro q h0 h1
      by_cases e : q = I 1
      · rw [e, uA_s]; omega
      · rw [uA_n e]; exact hv.sg q h0 (by omega)
theorem s_octet (h : RR I F J G) {p0 p1 r r' : Int} {u v : Us} (hx : (¬ (0 ≤ p0 ∧ p0 < I 9) ∧ r = -1 ∧ u = (I, F)) ∨ ((0 ≤ p0 ∧ p0 < I 9) ∧ ((60 ≤ F 15 p0 ∧ r = -4 ∧ u = (I, F)) ∨ (F 15 p0 < 60 ∧ r = F 15 p0 + 1 ∧ u = (I, uF (uF F 16 (uA (F 16) (p0 * 60 + F 15 p0) (p1 % 256))) 15 (uA (F 15) p0 (F 15 p0 + 1))))))) (hm : (¬ (0 ≤ p0 ∧ p0 < J 4) ∧ r' = -1 ∧ v = (uI J 0 0, G)) ∨ ((0 ≤ p0 ∧ p0 < J 4) ∧ ((60 ≤ G 8 p0 ∧ r' = -4 ∧ v = (uI J 0 0, G)) ∨ (G 8 p0 < 60 ∧ r' = G 8 p0 + 1 ∧ v = (uI J 0 0, uF (uF G 9 (uA (G 9) (60 * p0 + G 8 p0) (p1 % 256))) 8 (uA (G 8) p0 (G 8 p0 + 1))))))) : r = r' ∧ RR u.1 u.2 v.1 v.2 := by
  have hv := h.xi
  have hn := hv.n
  rw [h.n4, h.ln, h.byt, Int.mul_comm 60 p0] at hm
  rcases hx with ⟨a, b, rfl⟩ | ⟨a, ⟨b, c, rfl⟩ | ⟨b, c, rfl⟩⟩ <;> rcases hm with ⟨a', b', rfl⟩ | ⟨a', ⟨b', c', rfl⟩ | ⟨b', c', rfl⟩⟩
  · exact ⟨by omega, h.th⟩
  · exact absurd a' a
  · exact absurd a' a
  · exact absurd a a'
  · exact ⟨by omega, h.th⟩
  · omega
  · exact absurd a a'
  · omega
  · refine ⟨by omega, ⟨⟨hv.n, hv.sg, hv.rw, hv.pt, ?_, ?_, hv.pr, ?_, hv.cn, hv.mg, hv.kp⟩, h.n3, h.n4, h.n5, h.n1, h.tx, rfl, rfl, h.mb, h.cf, h.cw, h.ct, h.od, h.rw, h.pt, h.pr, h.pn, h.mg, h.kp, h.fd, h.ml, h.r1, h.r2⟩⟩
    · show ∀ f, 0 ≤ f → f < 40 → (0 ≤ uA (F 15) p0 (F 15 p0 + 1) f ∧ uA (F 15) p0 (F 15 p0 + 1) f ≤ 60) ∧ (0 ≤ F 17 f ∧ F 17 f ≤ 8)
      intro f h0 h1
      have q := hv.fl f h0 h1
      by_cases e : f = p0
      · subst e; rw [uA_s]; omega
      · rw [uA_n e]; exact q
    · show ∀ f j, 0 ≤ f → f < I 9 → 0 ≤ j → j < uA (F 15) p0 (F 15 p0 + 1) f → 0 ≤ uA (F 16) (p0 * 60 + F 15 p0) (p1 % 256) (f * 60 + j) ∧ uA (F 16) (p0 * 60 + F 15 p0) (p1 % 256) (f * 60 + j) < 256
      intro f j h0 h1 h2 h3
      by_cases e : f * 60 + j = p0 * 60 + F 15 p0
      · rw [e, uA_s]; omega
      · rw [uA_n e]
        by_cases e2 : f = p0
        · subst e2
          rw [uA_s] at h3
          exact hv.byt f j h0 h1 h2 (by omega)
        · rw [uA_n e2] at h3
          exact hv.byt f j h0 h1 h2 h3
    · show ∀ f, I 9 ≤ f → f < 40 → uA (F 15) p0 (F 15 p0 + 1) f = 0 ∧ F 17 f = 0
      intro f h0 h1
      rw [uA_n (show f ≠ p0 by omega)]
      exact hv.nw f h0 h1
theorem s_file (h : RR I F J G) {r r' : Int} {u v : Us} (hx : (40 ≤ I 9 ∧ r = -4 ∧ u = (I, F)) ∨ (I 9 < 40 ∧ r = I 9 ∧ u = (uI I 9 (I 9 + 1), uF F 18 (uA (F 18) (I 9) (-1))))) (hm : (40 ≤ J 4 ∧ r' = -4 ∧ v = (uI J 0 0, G)) ∨ (J 4 < 40 ∧ r' = J 4 ∧ v = (uI (uI J 0 0) 4 (J 4 + 1), G))) : r = r' ∧ RR u.1 u.2 v.1 v.2 := by
  have hv := h.xi
  have hn := hv.n
  have n4 := h.n4
  rcases hx with ⟨a, b, rfl⟩ | ⟨a, b, rfl⟩ <;> rcases hm with ⟨a', b', rfl⟩ | ⟨a', b', rfl⟩
  · exact ⟨by omega, h.th⟩
  · omega
  · omega
  · refine ⟨by omega, ⟨⟨⟨hv.n.1, ?_, hv.n.2.2.1, hv.n.2.2.2⟩, hv.sg, hv.rw, hv.pt, hv.fl, ?_, ?_, ?_, hv.cn, hv.mg, hv.kp⟩, h.n3, ?_, h.n5, h.n1, h.tx, h.ln, h.byt, h.mb, h.cf, h.cw, h.ct, h.od, h.rw, h.pt, ?_, ?_, h.mg, h.kp, h.fd, ?_, ?_, h.r2⟩⟩
    · show 0 ≤ I 9 + 1 ∧ I 9 + 1 ≤ 40
      omega
    · show ∀ f j, 0 ≤ f → f < I 9 + 1 → 0 ≤ j → j < F 15 f → 0 ≤ F 16 (f * 60 + j) ∧ F 16 (f * 60 + j) < 256
      intro f j h0 h1 h2 h3
      by_cases e : f = I 9
      · have := (hv.nw f (by omega) (by omega)).1
        omega
      · exact hv.byt f j h0 (by omega) h2 h3
    · show ∀ f, 0 ≤ f → f < I 9 + 1 → -1 ≤ uA (F 18) (I 9) (-1) f ∧ uA (F 18) (I 9) (-1) f < I 9 + 1
      intro f h0 h1
      by_cases e : f = I 9
      · rw [e, uA_s]; omega
      · rw [uA_n e]
        have := hv.pr f h0 (by omega)
        omega
    · show ∀ f, I 9 + 1 ≤ f → f < 40 → F 15 f = 0 ∧ F 17 f = 0
      exact fun f h0 h1 => hv.nw f (by omega) h1
    · show J 4 + 1 = I 9 + 1
      omega
    · show ∀ f, 0 ≤ f → f < I 9 + 1 → G 12 f = uA (F 18) (I 9) (-1) f
      intro f h0 h1
      by_cases e : f = I 9
      · rw [e, uA_s]; exact h.pn _ (by omega) (by omega)
      · rw [uA_n e]; exact h.pr f h0 (by omega)
    · show ∀ f, I 9 + 1 ≤ f → f < 40 → G 12 f = -1
      exact fun f h0 h1 => h.pn f (by omega) h1
    · show ∀ f o, 0 ≤ f → f < J 4 + 1 → ((∃ j, (0 ≤ j ∧ j < G 10 f) ∧ G 11 (8 * f + j) = o) ↔ ((0 ≤ o ∧ o < J 4 + 1) ∧ G 12 o = f))
      intro f o h0 h1
      by_cases e : f = J 4
      · have z : G 10 f = 0 := by rw [h.mb]; exact (hv.nw f (by omega) (by omega)).2
        constructor
        · rintro ⟨j, hj, -⟩; omega
        · rintro ⟨ho, he⟩
          have := (h.mi.pr o ho.1 (by omega)).2
          omega
      · refine (h.ml f o h0 (by omega)).trans ⟨fun q => ⟨by omega, q.2⟩, fun q => ⟨⟨q.1.1, ?_⟩, q.2⟩⟩
        by_cases e2 : o = J 4
        · have := h.pn o (by omega) (by omega)
          omega
        · omega
    · show ac (G 12) (J 4 + 1)
      obtain ⟨rho, hr⟩ := h.r1
      refine ⟨rho, fun f h0 h1 h2 => hr f h0 ?_ h2⟩
      by_cases e : f = J 4
      · have := h.pn f (by omega) (by omega)
        omega
      · omega
theorem s_member (h : RR I F J G) {p0 p1 r r' : Int} {u v : Us} (hx : (¬ ((0 ≤ p0 ∧ p0 < I 9) ∧ (0 ≤ p1 ∧ p1 < I 9)) ∧ r = -1 ∧ u = (I, F)) ∨ (((0 ≤ p0 ∧ p0 < I 9) ∧ (0 ≤ p1 ∧ p1 < I 9)) ∧ (((F 18 p0 ≠ -1 ∨ (∃ n : Nat, n < 40 ∧ up (F 18) p1 n = p0)) ∧ r = -3 ∧ u = (I, F)) ∨ ((F 18 p0 = -1 ∧ ¬ (∃ n : Nat, n < 40 ∧ up (F 18) p1 n = p0)) ∧ ((8 ≤ F 17 p1 ∧ r = -4 ∧ u = (I, F)) ∨ (F 17 p1 < 8 ∧ r = F 17 p1 + 1 ∧ u = (I, uF (uF F 18 (uA (F 18) p0 p1)) 17 (uA (F 17) p1 (F 17 p1 + 1)))))))))
    (hm : (¬ ((0 ≤ p0 ∧ p0 < J 4) ∧ (0 ≤ p1 ∧ p1 < J 4)) ∧ r' = -1 ∧ v = (uI J 0 0, G)) ∨ (((0 ≤ p0 ∧ p0 < J 4) ∧ (0 ≤ p1 ∧ p1 < J 4)) ∧ (((G 12 p0 ≠ -1 ∨ (rngP (G 12) p1 p0)) ∧ r' = -3 ∧ v = (uI J 0 0, G)) ∨ ((G 12 p0 = -1 ∧ ¬ (rngP (G 12) p1 p0)) ∧ ((8 ≤ G 10 p1 ∧ r' = -4 ∧ v = (uI J 0 0, G)) ∨ (G 10 p1 < 8 ∧ r' = G 10 p1 + 1 ∧ v = (uI J 0 0, uF (uF (uF G 11 (uA (G 11) (8 * p1 + G 10 p1) p0)) 10 (uA (G 10) p1 (G 10 p1 + 1))) 12 (uA (G 12) p0 p1)))))))) : r = r' ∧ RR u.1 u.2 v.1 v.2 := by
  have hv := h.xi
  have hn := hv.n
  have n4 := h.n4
  by_cases hin : (0 ≤ p0 ∧ p0 < I 9) ∧ (0 ≤ p1 ∧ p1 < I 9)
  · have hc : cl (G 12) ((J 4).toNat : Nat) := fun f h0 h1 => by have := h.mi.pr f h0 (by omega); omega
    have ha : ac (G 12) ((J 4).toNat : Nat) := by rw [show (((J 4).toNat : Nat) : Int) = J 4 by omega]; exact h.r1
    have e0 : G 12 p0 = F 18 p0 := h.pr p0 hin.1.1 hin.1.2
    have eu : ∀ n : Nat, up (G 12) p1 n = up (F 18) p1 n := up_ext hc hin.2.1 (by omega) (fun f h0 h1 => h.pr f h0 (by omega))
    have er : rngP (G 12) p1 p0 ↔ ∃ n : Nat, n < 40 ∧ up (F 18) p1 n = p0 := by
      rw [rng_iff (up_stop2 (M := 40) hc hin.2.1 (by omega) ha (by omega)) (by omega)]
      exact ⟨fun ⟨n, a, b⟩ => ⟨n, a, by rw [← eu]; exact b⟩, fun ⟨n, a, b⟩ => ⟨n, a, by rw [eu]; exact b⟩⟩
    rcases hx with ⟨a, -⟩ | ⟨-, hx⟩
    · exact absurd hin a
    rcases hm with ⟨a, -⟩ | ⟨-, hm⟩
    · exact absurd ⟨by omega, by omega⟩ a
    rw [h.mb] at hm
    rcases hx with ⟨a, b, rfl⟩ | ⟨a, ⟨b, c, rfl⟩ | ⟨b, c, rfl⟩⟩ <;> rcases hm with ⟨a', b', rfl⟩ | ⟨a', ⟨b', c', rfl⟩ | ⟨b', c', rfl⟩⟩
    · exact ⟨by omega, h.th⟩
    · exact absurd a (fun q => q.elim (fun z => z (by rw [← e0]; exact a'.1)) (fun z => a'.2 (er.mpr z)))
    · exact absurd a (fun q => q.elim (fun z => z (by rw [← e0]; exact a'.1)) (fun z => a'.2 (er.mpr z)))
    · exact absurd a' (fun q => q.elim (fun z => z (by rw [e0]; exact a.1)) (fun z => a.2 (er.mp z)))
    · exact ⟨by omega, h.th⟩
    · omega
    · exact absurd a' (fun q => q.elim (fun z => z (by rw [e0]; exact a.1)) (fun z => a.2 (er.mp z)))
    · omega
    · have h8 := (hv.fl p1 hin.2.1 (by omega)).2
      refine ⟨by omega, ⟨⟨hv.n, hv.sg, hv.rw, hv.pt, ?_, hv.byt, ?_, ?_, hv.cn, hv.mg, hv.kp⟩, h.n3, h.n4, h.n5, h.n1, h.tx, h.ln, h.byt, rfl, h.cf, h.cw, h.ct, h.od, h.rw, h.pt, ?_, ?_, h.mg, h.kp, h.fd, ?_, ac_up h.r1 hin.1.1 (Or.inr a'.2), h.r2⟩⟩
      · show ∀ f, 0 ≤ f → f < 40 → (0 ≤ F 15 f ∧ F 15 f ≤ 60) ∧ (0 ≤ uA (F 17) p1 (F 17 p1 + 1) f ∧ uA (F 17) p1 (F 17 p1 + 1) f ≤ 8)
        intro f h0 h1
        have q := hv.fl f h0 h1
        by_cases e : f = p1
        · subst e; rw [uA_s]; omega
        · rw [uA_n e]; exact q
      · show ∀ f, 0 ≤ f → f < I 9 → -1 ≤ uA (F 18) p0 p1 f ∧ uA (F 18) p0 p1 f < I 9
        intro f h0 h1
        by_cases e : f = p0
        · rw [e, uA_s]; omega
        · rw [uA_n e]; exact hv.pr f h0 h1
      · show ∀ f, I 9 ≤ f → f < 40 → F 15 f = 0 ∧ uA (F 17) p1 (F 17 p1 + 1) f = 0
        intro f h0 h1
        rw [uA_n (show f ≠ p1 by omega)]
        exact hv.nw f h0 h1
      · show ∀ f, 0 ≤ f → f < I 9 → uA (G 12) p0 p1 f = uA (F 18) p0 p1 f
        intro f h0 h1
        by_cases e : f = p0
        · rw [e, uA_s, uA_s]
        · rw [uA_n e, uA_n e]; exact h.pr f h0 h1
      · show ∀ f, I 9 ≤ f → f < 40 → uA (G 12) p0 p1 f = -1
        intro f h0 h1
        rw [uA_n (show f ≠ p0 by omega)]
        exact h.pn f h0 h1
      · show ∀ f o, 0 ≤ f → f < J 4 → ((∃ j, (0 ≤ j ∧ j < uA (F 17) p1 (F 17 p1 + 1) f) ∧ uA (G 11) (8 * p1 + F 17 p1) p0 (8 * f + j) = o) ↔ ((0 ≤ o ∧ o < J 4) ∧ uA (G 12) p0 p1 o = f))
        intro f o h0 h1
        have hml := h.ml f o h0 h1
        rw [h.mb] at hml
        by_cases e : f = p1
        · subst e
          rw [uA_s]
          constructor
          · rintro ⟨j, hj, ho⟩
            by_cases ej : j = F 17 f
            · rw [ej, uA_s] at ho
              subst ho
              exact ⟨by omega, uA_s⟩
            · rw [uA_n (show 8 * f + j ≠ 8 * f + F 17 f by omega)] at ho
              obtain ⟨q1, q2⟩ := hml.mp ⟨j, by omega, ho⟩
              refine ⟨q1, ?_⟩
              by_cases eo : o = p0
              · rw [eo, uA_s]
              · rw [uA_n eo]; exact q2
          · rintro ⟨ho, he⟩
            by_cases eo : o = p0
            · subst eo
              exact ⟨F 17 f, by omega, uA_s⟩
            · rw [uA_n eo] at he
              obtain ⟨j, q1, q2⟩ := hml.mpr ⟨ho, he⟩
              exact ⟨j, by omega, by rw [uA_n (show 8 * f + j ≠ 8 * f + F 17 f by omega)]; exact q2⟩
        · rw [uA_n e]
          have h9 := (hv.fl f h0 (by omega)).2
          constructor
          · rintro ⟨j, hj, ho⟩
            rw [uA_n (show 8 * f + j ≠ 8 * p1 + F 17 p1 by omega)] at ho
            obtain ⟨q1, q2⟩ := hml.mp ⟨j, hj, ho⟩
            refine ⟨q1, ?_⟩
            by_cases eo : o = p0
            · subst eo
              have := a'.1
              omega
            · rw [uA_n eo]; exact q2
          · rintro ⟨ho, he⟩
            by_cases eo : o = p0
            · rw [eo, uA_s] at he
              exact absurd he.symm e
            · rw [uA_n eo] at he
              obtain ⟨j, q1, q2⟩ := hml.mpr ⟨ho, he⟩
              exact ⟨j, q1, by rw [uA_n (show 8 * f + j ≠ 8 * p1 + F 17 p1 by omega)]; exact q2⟩
  · rcases hx with ⟨a, b, rfl⟩ | ⟨a, -⟩
    · rcases hm with ⟨a', b', rfl⟩ | ⟨a', -⟩
      · exact ⟨by omega, h.th⟩
      · exact absurd ⟨by omega, by omega⟩ hin
    · exact absurd a hin
theorem s_identify (h : RR I F J G) {p0 r r' : Int} {u v : Us} (hx : (¬ (0 ≤ p0 ∧ p0 < I 9) ∧ r = -2 ∧ u = (I, F)) ∨ ((0 ≤ p0 ∧ p0 < I 9) ∧ r = xfm I F p0 ∧ ∃ M : Int, bits M (xset F p0 (I 8)) ∧ u = (uI I 0 M, F))) (hm : (¬ (0 ≤ p0 ∧ p0 < J 4) ∧ r' = -2 ∧ ∃ (g gf : Int → Int) (nf : Int), v = (uI (uI J 0 0) 6 nf, uF (uF G 20 g) 18 gf) ∧ nf = J 6 ∧ gf = G 18) ∨ ((0 ≤ p0 ∧ p0 < J 4) ∧ r' = mfm J G p0 ∧ ∃ (g gf : Int → Int) (nf : Int), v = (uI (uI J 0 0) 6 nf, uF (uF G 20 g) 18 gf) ∧ nf = cnt (mset G p0 (J 3)) 30 ∧ ∀ w, (mset G p0 (J 3)) w → gf (cnt (mset G p0 (J 3)) w.toNat) = w)) : r = r' ∧ RR u.1 u.2 v.1 v.2 := by
  have n4 := h.n4
  rcases hx with ⟨a, b, rfl⟩ | ⟨a, b, M, c, rfl⟩ <;> rcases hm with ⟨a', b', g, gf, nf, rfl, rfl, rfl⟩ | ⟨a', b', g, gf, nf, rfl, c', d'⟩
  · exact ⟨by omega, ⟨h.xi, h.n3, h.n4, h.n5, h.n1, h.tx, h.ln, h.byt, h.mb, h.cf, h.cw, h.ct, h.od, h.rw, h.pt, h.pr, h.pn, h.mg, h.kp, h.fd, h.ml, h.r1, h.r2⟩⟩
  · omega
  · omega
  · refine ⟨by rw [b, b', h.fm], ⟨h.xi, h.n3, h.n4, h.n5, h.n1, h.tx, h.ln, h.byt, h.mb, h.cf, h.cw, h.ct, h.od, h.rw, h.pt, h.pr, h.pn, h.mg, h.kp, ⟨mset G p0 (J 3), ?_, c', d'⟩, h.ml, h.r1, h.r2⟩⟩
    rw [h.n3]
    exact bits_ext c (fun k => h.set (Int.le_refl _))
theorem s_container (h : RR I F J G) {p0 p1 p2 r r' : Int} {u v : Us} (hx : (¬ ((0 ≤ p0 ∧ p0 < 30) ∧ (0 ≤ p1 ∧ p1 < 30) ∧ (0 ≤ p2 ∧ p2 < 30)) ∧ r = -2 ∧ u = (I, F)) ∨ (((0 ≤ p0 ∧ p0 < 30) ∧ (0 ≤ p1 ∧ p1 < 30) ∧ (0 ≤ p2 ∧ p2 < 30)) ∧ ((20 ≤ I 10 ∧ r = -4 ∧ u = (I, F)) ∨ (I 10 < 20 ∧ r = I 10 ∧ u = (uI I 10 (I 10 + 1), uF (uF (uF F 19 (uA (F 19) (I 10) p0)) 20 (uA (F 20) (I 10) p1)) 21 (uA (F 21) (I 10) p2)))))) (hm : (¬ ((0 ≤ p0 ∧ p0 < 30) ∧ (0 ≤ p1 ∧ p1 < 30) ∧ (0 ≤ p2 ∧ p2 < 30)) ∧ r' = -2 ∧ v = (uI J 0 0, G)) ∨ (((0 ≤ p0 ∧ p0 < 30) ∧ (0 ≤ p1 ∧ p1 < 30) ∧ (0 ≤ p2 ∧ p2 < 30)) ∧ ((20 ≤ J 5 ∧ r' = -4 ∧ v = (uI J 0 0, G)) ∨ (J 5 < 20 ∧ r' = J 5 ∧ v = (uI (uI J 0 0) 5 (J 5 + 1), uF (uF (uF G 13 (uA (G 13) (J 5) p0)) 14 (uA (G 14) (J 5) p1)) 15 (uA (G 15) (J 5) p2)))))) : r = r' ∧ RR u.1 u.2 v.1 v.2 := by
  have hv := h.xi
  have hn := hv.n
  rw [h.n5, h.cf, h.cw, h.ct] at hm
  rcases hx with ⟨a, b, rfl⟩ | ⟨a, ⟨b, c, rfl⟩ | ⟨b, c, rfl⟩⟩ <;> rcases hm with ⟨a', b', rfl⟩ | ⟨a', ⟨b', c', rfl⟩ | ⟨b', c', rfl⟩⟩
  · exact ⟨by omega, h.th⟩
  · exact absurd a' a
  · exact absurd a' a
  · exact absurd a a'
  · exact ⟨by omega, h.th⟩
  · omega
  · exact absurd a a'
  · omega
  · refine ⟨by omega, ⟨⟨⟨hv.n.1, hv.n.2.1, ?_, hv.n.2.2.2⟩, hv.sg, hv.rw, hv.pt, hv.fl, hv.byt, hv.pr, hv.nw, ?_, hv.mg, hv.kp⟩, h.n3, h.n4, rfl, h.n1, h.tx, h.ln, h.byt, h.mb, rfl, rfl, rfl, h.od, h.rw, h.pt, h.pr, h.pn, h.mg, h.kp, h.fd, h.ml, h.r1, h.r2⟩⟩
    · show 0 ≤ I 10 + 1 ∧ I 10 + 1 ≤ 20
      omega
    · show ∀ i, 0 ≤ i → i < I 10 + 1 → (0 ≤ uA (F 19) (I 10) p0 i ∧ uA (F 19) (I 10) p0 i < 30) ∧ (0 ≤ uA (F 20) (I 10) p1 i ∧ uA (F 20) (I 10) p1 i < 30) ∧ (0 ≤ uA (F 21) (I 10) p2 i ∧ uA (F 21) (I 10) p2 i < 30)
      intro i h0 h1
      by_cases e : i = I 10
      · rw [e, uA_s, uA_s, uA_s]; exact a
      · rw [uA_n e, uA_n e, uA_n e]; exact hv.cn i h0 (by omega)
theorem s_obsolete (h : RR I F J G) {p0 p1 r r' : Int} {u v : Us} (hp : p1 = 0 ∨ p1 = 1) (hx : (¬ (0 ≤ p0 ∧ p0 < 30) ∧ r = -2 ∧ u = (I, F)) ∨ ((0 ≤ p0 ∧ p0 < 30) ∧ r = 1 ∧ u = (I, uF F 22 (uA (F 22) p0 p1)))) (hm : (¬ (0 ≤ p0 ∧ p0 < 30) ∧ r' = -2 ∧ v = (uI J 0 0, G)) ∨ ((0 ≤ p0 ∧ p0 < 30) ∧ r' = 1 ∧ v = (uI J 0 0, uF G 16 (uA (G 16) p0 p1)))) : r = r' ∧ RR u.1 u.2 v.1 v.2 := by
  have hv := h.xi
  rw [h.od] at hm
  rcases hx with ⟨a, b, rfl⟩ | ⟨a, b, rfl⟩ <;> rcases hm with ⟨a', b', rfl⟩ | ⟨a', b', rfl⟩
  · exact ⟨by omega, h.th⟩
  · exact absurd a' a
  · exact absurd a a'
  · refine ⟨by omega, ⟨⟨hv.n, hv.sg, hv.rw, hv.pt, hv.fl, hv.byt, hv.pr, hv.nw, hv.cn, ?_, hv.kp⟩, h.n3, h.n4, h.n5, h.n1, h.tx, h.ln, h.byt, h.mb, h.cf, h.cw, h.ct, rfl, h.rw, h.pt, h.pr, h.pn, h.mg, h.kp, h.fd, h.ml, h.r1, h.r2⟩⟩
    show ∀ i, 0 ≤ i → i < 30 → (uA (F 22) p0 p1 i = 0 ∨ uA (F 22) p0 p1 i = 1) ∧ (-1 ≤ F 23 i ∧ F 23 i < 30)
    intro i h0 h1
    have q := hv.mg i h0 h1
    by_cases e : i = p0
    · rw [e, uA_s]; subst e; exact ⟨hp, q.2⟩
    · rw [uA_n e]; exact q
theorem s_migration (h : RR I F J G) {p0 p1 r r' : Int} {u v : Us} (hx : (¬ ((0 ≤ p0 ∧ p0 < 30) ∧ (-1 ≤ p1 ∧ p1 < 30)) ∧ r = -2 ∧ u = (I, F)) ∨ (((0 ≤ p0 ∧ p0 < 30) ∧ (-1 ≤ p1 ∧ p1 < 30)) ∧ (((p1 ≠ -1 ∧ (∃ n : Nat, n < 30 ∧ up (F 23) p1 n = p0)) ∧ r = -3 ∧ u = (I, F)) ∨ (¬ (p1 ≠ -1 ∧ (∃ n : Nat, n < 30 ∧ up (F 23) p1 n = p0)) ∧ r = 1 ∧ u = (I, uF F 23 (uA (F 23) p0 p1)))))) (hm : (¬ ((0 ≤ p0 ∧ p0 < 30) ∧ (-1 ≤ p1 ∧ p1 < 30)) ∧ r' = -2 ∧ v = (uI J 0 0, G)) ∨ (((0 ≤ p0 ∧ p0 < 30) ∧ (-1 ≤ p1 ∧ p1 < 30)) ∧ (((rngP (G 17) p1 p0) ∧ r' = -3 ∧ v = (uI J 0 0, G)) ∨ (¬ (rngP (G 17) p1 p0) ∧ r' = 1 ∧ v = (uI J 0 0, uF G 17 (uA (G 17) p0 p1)))))) : r = r' ∧ RR u.1 u.2 v.1 v.2 := by
  have hv := h.xi
  by_cases hin : (0 ≤ p0 ∧ p0 < 30) ∧ (-1 ≤ p1 ∧ p1 < 30)
  · have er : rngP (G 17) p1 p0 ↔ (p1 ≠ -1 ∧ (∃ n : Nat, n < 30 ∧ up (F 23) p1 n = p0)) := by
      by_cases e : p1 = -1
      · constructor
        · rintro ⟨n, hn⟩
          rw [e, up_m1] at hn
          omega
        · exact fun q => absurd e q.1
      · have hc : cl (G 17) (30 : Nat) := fun f h0 h1 => (h.mi.mg f h0 h1).2
        have eu : ∀ n : Nat, up (G 17) p1 n = up (F 23) p1 n := up_ext hc (by omega) (by omega) (fun f h0 h1 => h.mg f h0 h1)
        rw [rng_iff (up_stop (N := 30) hc (by omega) (by omega) h.r2) (by omega)]
        exact ⟨fun ⟨n, a, b⟩ => ⟨e, n, a, by rw [← eu]; exact b⟩, fun ⟨_, n, a, b⟩ => ⟨n, a, by rw [eu]; exact b⟩⟩
    rcases hx with ⟨a, -⟩ | ⟨-, hx⟩
    · exact absurd hin a
    rcases hm with ⟨a, -⟩ | ⟨-, hm⟩
    · exact absurd hin a
    rcases hx with ⟨a, b, rfl⟩ | ⟨a, b, rfl⟩ <;> rcases hm with ⟨a', b', rfl⟩ | ⟨a', b', rfl⟩
    · exact ⟨by omega, h.th⟩
    · exact absurd (er.mpr a) a'
    · exact absurd (er.mp a') a
    · refine ⟨by omega, ⟨⟨hv.n, hv.sg, hv.rw, hv.pt, hv.fl, hv.byt, hv.pr, hv.nw, hv.cn, ?_, hv.kp⟩, h.n3, h.n4, h.n5, h.n1, h.tx, h.ln, h.byt, h.mb, h.cf, h.cw, h.ct, h.od, h.rw, h.pt, h.pr, h.pn, ?_, h.kp, h.fd, h.ml, h.r1, ac_up h.r2 hin.1.1 (Or.inr a')⟩⟩
      · show ∀ i, 0 ≤ i → i < 30 → (F 22 i = 0 ∨ F 22 i = 1) ∧ (-1 ≤ uA (F 23) p0 p1 i ∧ uA (F 23) p0 p1 i < 30)
        intro i h0 h1
        have q := hv.mg i h0 h1
        by_cases e : i = p0
        · rw [e, uA_s]; subst e; exact ⟨q.1, hin.2⟩
        · rw [uA_n e]; exact q
      · show ∀ i, 0 ≤ i → i < 30 → uA (G 17) p0 p1 i = uA (F 23) p0 p1 i
        intro i h0 h1
        by_cases e : i = p0
        · rw [e, uA_s, uA_s]
        · rw [uA_n e, uA_n e]; exact h.mg i h0 h1
  · rcases hx with ⟨a, b, rfl⟩ | ⟨a, -⟩
    · rcases hm with ⟨a', b', rfl⟩ | ⟨a', -⟩
      · exact ⟨by omega, h.th⟩
      · exact absurd a' hin
    · exact absurd a hin
theorem s_keep (h : RR I F J G) {r r' : Int} {u v : Us} (hx : r = I 8 ∧ ∃ g : Int → Int, u = (I, uF F 6 g) ∧ (∀ f, 0 ≤ f → f < I 9 → g f = xfm I F f) ∧ ∀ f, I 9 ≤ f → g f = F 6 f) (hm : r' = J 3 ∧ ∃ (g kp : Int → Int), v = (uI J 0 0, uF (uF G 20 g) 19 kp) ∧ (∀ f, 0 ≤ f → f < J 4 → kp f = mfm J G f) ∧ ∀ f, J 4 ≤ f → kp f = G 19 f) : r = r' ∧ RR u.1 u.2 v.1 v.2 := by
  have hv := h.xi
  have n3 := h.n3; have n4 := h.n4
  obtain ⟨a, g, rfl, b, c⟩ := hx
  obtain ⟨a', g', kp, rfl, b', c'⟩ := hm
  refine ⟨by omega, ⟨⟨hv.n, hv.sg, hv.rw, hv.pt, hv.fl, hv.byt, hv.pr, hv.nw, hv.cn, hv.mg, ?_⟩, h.n3, h.n4, h.n5, h.n1, h.tx, h.ln, h.byt, h.mb, h.cf, h.cw, h.ct, h.od, h.rw, h.pt, h.pr, h.pn, h.mg, ?_, h.fd, h.ml, h.r1, h.r2⟩⟩
  · show ∀ f, 0 ≤ f → f < 40 → -5 ≤ g f ∧ g f < 30
    intro f h0 h1
    by_cases e : f < I 9
    · rw [b f h0 e]; exact xfm_in hv f
    · rw [c f (by omega)]; exact hv.kp f h0 h1
  · show ∀ f, 0 ≤ f → f < 40 → kp f = g f
    intro f h0 h1
    by_cases e : f < I 9
    · rw [b f h0 e, b' f h0 (by omega), h.fm]
    · rw [c f (by omega), c' f (by omega)]; exact h.kp f h0 h1
theorem rowR_un {T : Int → Int} {n f r q o c f' r' q' o' c' : Int} {g g' : Int → Int} (a : rowR T n f r q o c g) (b : rowR T n f' r' q' o' c' g') : f' = f ∧ r' = r ∧ q' = q ∧ o' = o ∧ c' = c ∧ ∀ j, 0 ≤ j → j < c → g' j = g j := by
  obtain ⟨a1, a2, a3, a4, a5, -, -, a6⟩ := a
  obtain ⟨b1, b2, b3, b4, b5, -, -, b6⟩ := b
  refine ⟨by rw [a1, b1], by rw [a2, b2], ?_, by rw [a4, b4], by rw [a5, b5], fun j h0 h1 => ?_⟩
  · rcases a3 with ⟨x, y⟩ | ⟨x, y⟩ <;> rcases b3 with ⟨z, w⟩ | ⟨z, w⟩ <;> omega
  · rw [(a6 j h0 h1).1, (b6 j h0 (by rw [b5, ← a5]; exact h1)).1]
theorem s_row (h : RR I F J G) {r r' : Int} {u v : Us} (hx : ∃ (i2 i3 i4 i5 i6 i7 : Int) (g : Int → Int), (rdA (F 7) (I 1)).2.1 = i2 ∧ (((rdA (F 7) (I 1)).1 = 0 ∧ r = -10 - i2 ∧ u = (uI (uI (uI (uI (uI (uI (uI I 2 i2) 3 i3) 4 i4) 5 i5) 6 i6) 7 i7) 1 0, uF F 8 g)) ∨ ((rdA (F 7) (I 1)).1 = 1 ∧ rowR (F 7) (I 1) i3 i4 i5 i6 i7 g ∧ ((60 ≤ I 8 ∧ r = -4 ∧ u = (uI (uI (uI (uI (uI (uI (uI I 2 i2) 3 i3) 4 i4) 5 i5) 6 i6) 7 i7) 1 0, uF F 8 g)) ∨ (I 8 < 60 ∧ r = I 8 ∧ ∃ gp : Int → Int, u = (uI (uI (uI (uI (uI (uI (uI (uI I 2 i2) 3 i3) 4 i4) 5 i5) 6 i6) 7 i7) 1 0) 8 (I 8 + 1), uF (uF (uF (uF (uF (uF (uF F 8 g) 9 (uA (F 9) (I 8) i3)) 10 (uA (F 10) (I 8) i4)) 11 (uA (F 11) (I 8) i5)) 12 (uA (F 12) (I 8) i6)) 13 (uA (F 13) (I 8) i7)) 14 gp) ∧ (∀ j, 0 ≤ j → j < i7 → gp (I 8 * 12 + j) = g j) ∧ ∀ q, q < I 8 * 12 → gp q = F 14 q)))))
    (hm : ∃ (ia : Int) (g2 g3 g4 g5 g6 g7 : Int → Int), (rdA (G 1) (J 1)).2.1 = ia ∧ (∀ q, q < J 3 → g2 q = G 2 q ∧ g3 q = G 3 q ∧ g4 q = G 4 q ∧ g5 q = G 5 q ∧ g6 q = G 6 q) ∧ (∀ q, q < 12 * J 3 → g7 q = G 7 q) ∧ (((rdA (G 1) (J 1)).1 = 0 ∧ r' = -10 - ia ∧ v = (uI (uI (uI J 0 0) 2 ia) 1 0, uF (uF (uF (uF (uF (uF G 2 g2) 3 g3) 4 g4) 5 g5) 6 g6) 7 g7)) ∨ ((rdA (G 1) (J 1)).1 = 1 ∧ rowR (G 1) (J 1) (g2 (J 3)) (g3 (J 3)) (g5 (J 3)) (g4 (J 3)) (g6 (J 3)) (fun j => g7 (12 * J 3 + j)) ∧ ((60 ≤ J 3 ∧ r' = -4 ∧ v = (uI (uI (uI J 0 0) 2 ia) 1 0, uF (uF (uF (uF (uF (uF G 2 g2) 3 g3) 4 g4) 5 g5) 6 g6) 7 g7)) ∨ (J 3 < 60 ∧ r' = J 3 ∧ v = (uI (uI (uI (uI J 0 0) 2 ia) 1 0) 3 (J 3 + 1), uF (uF (uF (uF (uF (uF G 2 g2) 3 g3) 4 g4) 5 g5) 6 g6) 7 g7)))))) : r = r' ∧ RR u.1 u.2 v.1 v.2 := by
  have hv := h.xi
  have hn := hv.n
  obtain ⟨i2, i3, i4, i5, i6, i7, g, hi2, hx⟩ := hx
  obtain ⟨ia, g2, g3, g4, g5, g6, g7, hia, hg, hg7, hm⟩ := hm
  rw [h.tx, h.n1] at hia hm
  rw [h.n3] at hg hg7 hm
  have ei : ia = i2 := by rw [← hia, ← hi2]
  subst ei
  have hrw : ∀ r, 0 ≤ r → r < I 8 → g2 r = F 9 r ∧ g3 r = F 10 r ∧ g5 r = F 11 r ∧ g4 r = F 12 r ∧ g6 r = F 13 r := fun r h0 h1 => by
    obtain ⟨a1, a2, a3, a4, a5⟩ := hg r h1
    obtain ⟨b1, b2, b3, b4, b5⟩ := h.rw r h0 h1
    exact ⟨a1.trans b1, a2.trans b2, a4.trans b3, a3.trans b4, a5.trans b5⟩
  have hpt : ∀ r j, 0 ≤ r → r < I 8 → 0 ≤ j → j < F 13 r → g7 (12 * r + j) = F 14 (r * 12 + j) := fun r j h0 h1 h2 h3 => by
    have := (hv.rw r h0 h1).2.2.2.2
    rw [hg7 _ (by omega)]
    exact h.pt r j h0 h1 h2 h3
  have hno : RR (uI (uI (uI (uI (uI (uI (uI I 2 ia) 3 i3) 4 i4) 5 i5) 6 i6) 7 i7) 1 0) (uF F 8 g) (uI (uI (uI J 0 0) 2 ia) 1 0) (uF (uF (uF (uF (uF (uF G 2 g2) 3 g3) 4 g4) 5 g5) 6 g6) 7 g7) := by
    refine ⟨⟨⟨hv.n.1, hv.n.2.1, hv.n.2.2.1, ?_⟩, ?_, hv.rw, hv.pt, hv.fl, hv.byt, hv.pr, hv.nw, hv.cn, hv.mg, hv.kp⟩, h.n3, h.n4, h.n5, rfl, h.tx, h.ln, h.byt, h.mb, h.cf, h.cw, h.ct, h.od, hrw, hpt, h.pr, h.pn, h.mg, h.kp, h.fd, h.ml, h.r1, h.r2⟩
    · show (0 : Int) ≤ 0 ∧ (0 : Int) ≤ 60
      omega
    · show ∀ q, 0 ≤ q → q < (0 : Int) → 0 ≤ F 7 q ∧ F 7 q < 256
      intro q h0 h1
      omega
  rcases hx with ⟨a, b, rfl⟩ | ⟨a, hr, hx⟩ <;> rcases hm with ⟨a', b', rfl⟩ | ⟨a', hr', hm⟩
  · exact ⟨by omega, hno⟩
  · omega
  · omega
  · rcases hx with ⟨b, c, rfl⟩ | ⟨b, c, gp, rfl, d1, d2⟩ <;> rcases hm with ⟨b', c', rfl⟩ | ⟨b', c', rfl⟩
    · exact ⟨by omega, hno⟩
    · omega
    · omega
    · obtain ⟨e1, e2, e3, e4, e5, e6⟩ := rowR_un hr hr'
      obtain ⟨-, -, hq, -, -, hc, hb, hp⟩ := hr
      refine ⟨by omega, ⟨⟨⟨?_, hv.n.2.1, hv.n.2.2.1, ?_⟩, ?_, ?_, ?_, hv.fl, hv.byt, hv.pr, hv.nw, hv.cn, hv.mg, hv.kp⟩, rfl, hno.n4, hno.n5, hno.n1, hno.tx, hno.ln, hno.byt, hno.mb, hno.cf, hno.cw, hno.ct, hno.od, ?_, ?_, hno.pr, hno.pn, hno.mg, hno.kp, hno.fd, hno.ml, hno.r1, hno.r2⟩⟩
      · show 0 ≤ I 8 + 1 ∧ I 8 + 1 ≤ 60
        omega
      · show (0 : Int) ≤ 0 ∧ (0 : Int) ≤ 60
        omega
      · show ∀ q, 0 ≤ q → q < (0 : Int) → 0 ≤ F 7 q ∧ F 7 q < 256
        intro q h0 h1
        omega
      · show ∀ r, 0 ≤ r → r < I 8 + 1 → (0 ≤ uA (F 9) (I 8) i3 r ∧ uA (F 9) (I 8) i3 r < 30) ∧ (0 ≤ uA (F 10) (I 8) i4 r ∧ uA (F 10) (I 8) i4 r < 10) ∧ (uA (F 11) (I 8) i5 r = 0 ∨ uA (F 11) (I 8) i5 r = 1) ∧ (0 ≤ uA (F 12) (I 8) i6 r ∧ uA (F 12) (I 8) i6 r < 1000) ∧ (1 ≤ uA (F 13) (I 8) i7 r ∧ uA (F 13) (I 8) i7 r ≤ 12)
        intro r h0 h1
        by_cases e : r = I 8
        · rw [e, uA_s, uA_s, uA_s, uA_s, uA_s]
          refine ⟨hb.1, hb.2.1, ?_, hb.2.2, hc⟩
          rcases hq with ⟨-, hq⟩ | ⟨-, hq⟩
          · exact Or.inr hq
          · exact Or.inl hq
        · rw [uA_n e, uA_n e, uA_n e, uA_n e, uA_n e]
          exact hv.rw r h0 (by omega)
      · show ∀ r j, 0 ≤ r → r < I 8 + 1 → 0 ≤ j → j < uA (F 13) (I 8) i7 r → 0 ≤ gp (r * 12 + j) ∧ gp (r * 12 + j) ≤ 256
        intro r j h0 h1 h2 h3
        by_cases e : r = I 8
        · rw [e, uA_s] at h3
          rw [e, d1 j h2 h3]
          exact (hp j h2 h3).2
        · rw [uA_n e] at h3
          have := (hv.rw r h0 (by omega)).2.2.2.2
          rw [d2 _ (by omega)]
          exact hv.pt r j h0 (by omega) h2 h3
      · show ∀ r, 0 ≤ r → r < I 8 + 1 → g2 r = uA (F 9) (I 8) i3 r ∧ g3 r = uA (F 10) (I 8) i4 r ∧ g5 r = uA (F 11) (I 8) i5 r ∧ g4 r = uA (F 12) (I 8) i6 r ∧ g6 r = uA (F 13) (I 8) i7 r
        intro r h0 h1
        by_cases e : r = I 8
        · rw [e, uA_s, uA_s, uA_s, uA_s, uA_s]
          exact ⟨e1, e2, e3, e4, e5⟩
        · rw [uA_n e, uA_n e, uA_n e, uA_n e, uA_n e]
          exact hrw r h0 (by omega)
      · show ∀ r j, 0 ≤ r → r < I 8 + 1 → 0 ≤ j → j < uA (F 13) (I 8) i7 r → g7 (12 * r + j) = gp (r * 12 + j)
        intro r j h0 h1 h2 h3
        by_cases e : r = I 8
        · rw [e, uA_s] at h3
          rw [e, d1 j h2 h3]
          exact e6 j h2 h3
        · rw [uA_n e] at h3
          have := (hv.rw r h0 (by omega)).2.2.2.2
          rw [d2 _ (by omega)]
          exact hpt r j h0 (by omega) h2 h3
end
/-- the start -/
theorem s_start {h0 h0' : Nat} {a a' : Nat → Nat} {F G : Nat → Int → Int} {I J : Nat → Int} (hI : ∀ i, I i = 0) (hJ : ∀ i, J i = 0) (hx : x0 h0 a F) (hm : m0 h0' a' G) : RR I F J G := by
  have i8 := hI 8; have i9 := hI 9; have i10 := hI 10; have i1 := hI 1; have j3 := hJ 3; have j4 := hJ 4; have j5 := hJ 5; have j1 := hJ 1
  obtain ⟨-, x6, x23, xz⟩ := hx
  obtain ⟨-, m12, m19, m17, mz⟩ := hm
  have fe : ∀ (i j : Nat), i ≠ 12 → i ≠ 19 → i ≠ 17 → j ≠ 6 → j ≠ 23 → G i = F j := fun i j q1 q2 q3 q4 q5 => funext fun q => by rw [mz i q q1 q2 q3, xz j q q4 q5]
  refine ⟨⟨⟨by omega, by omega, by omega, by omega⟩, ?_, ?_, ?_, ?_, ?_, ?_, ?_, ?_, ?_, ?_⟩, by omega, by omega, by omega, by omega, fe 1 7 (by decide) (by decide) (by decide) (by decide) (by decide), fe 8 15 (by decide) (by decide) (by decide) (by decide) (by decide), fe 9 16 (by decide) (by decide) (by decide) (by decide) (by decide), fe 10 17 (by decide) (by decide) (by decide) (by decide) (by decide), fe 13 19 (by decide) (by decide) (by decide) (by decide) (by decide), fe 14 20 (by decide) (by decide) (by decide) (by decide) (by decide), fe 15 21 (by decide) (by decide) (by decide) (by decide) (by decide), fe 16 22 (by decide) (by decide) (by decide) (by decide) (by decide), ?_, ?_, ?_, ?_, ?_, ?_, ⟨fun _ => False, by rw [hI 0]; exact bits_0 (fun _ h => h), ?_, fun v h => h.elim⟩, ?_, ?_, ?_⟩
  · exact fun q h0 h1 => by omega
  · exact fun q h0 h1 => by omega
  · exact fun q j h0 h1 => by omega
  · intro f h0 h1
    rw [xz 15 f (by decide) (by decide), xz 17 f (by decide) (by decide)]
    omega
  · exact fun q j h0 h1 => by omega
  · exact fun q h0 h1 => by omega
  · exact fun f h0 h1 => ⟨xz 15 f (by decide) (by decide), xz 17 f (by decide) (by decide)⟩
  · exact fun q h0 h1 => by omega
  · intro i h0 h1
    rw [xz 22 i (by decide) (by decide), x23 i h0 h1]
    omega
  · intro f h0 h1
    rw [x6 f h0 h1]
    omega
  · exact fun q h0 h1 => by omega
  · exact fun q j h0 h1 => by omega
  · exact fun q h0 h1 => by omega
  · exact fun f h0 h1 => m12 f (by omega) h1
  · exact fun i h0 h1 => by rw [m17 i h0 h1, x23 i h0 h1]
  · exact fun f h0 h1 => by rw [m19 f h0 h1, x6 f h0 h1]
  · have e : ∀ n : Nat, cnt (fun _ => False) n = 0 := fun n => by
      induction n with
      | zero => rfl
      | succ n ih => rw [cnt_f (fun h => h), ih]
    exact (hJ 6).trans (e 30).symm
  · exact fun f o h0 h1 => by omega
  · exact ⟨fun _ => 0, fun f h0 h1 => by omega⟩
  · exact ⟨fun _ => 0, fun f h0 h1 h2 => by rw [m17 f h0 h1] at h2; omega⟩
