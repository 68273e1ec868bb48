/-! the two objects, side by side -/
def RR (I : Nat → Int) (F : Nat → Int → Int) (J : Nat → Int) (G : Nat → Int → Int) : Prop :=
  (xInv I F) ∧
  (J 3 = I 8) ∧
  (J 4 = I 9) ∧
  (J 5 = I 10) ∧
  (J 1 = I 1) ∧
  (G 1 = F 7) ∧
  (G 8 = F 15) ∧
  (G 9 = F 16) ∧
  (G 10 = F 17) ∧
  (G 13 = F 19) ∧
  (G 14 = F 20) ∧
  (G 15 = F 21) ∧
  (G 16 = F 22) ∧
  (∀ r, 0 ≤ r → r < I 8 → G 2 r = F 9 r ∧ G 3 r = F 10 r ∧ G 5 r = F 11 r ∧ G 4 r = F 12 r ∧ G 6 r = F 13 r) ∧
  (∀ r j, 0 ≤ r → r < I 8 → 0 ≤ j → j < F 13 r → G 7 (12 * r + j) = F 14 (r * 12 + j)) ∧
  (∀ f, 0 ≤ f → f < I 9 → G 12 f = F 18 f) ∧
  (∀ f, I 9 ≤ f → f < 40 → G 12 f = -1) ∧
  (∀ i, 0 ≤ i → i < 30 → G 17 i = F 23 i) ∧
  (∀ f, 0 ≤ f → f < 40 → G 19 f = F 6 f) ∧
  (∃ S : Int → Prop, bits (I 0) S ∧ J 6 = cnt S 30 ∧ ∀ v, S v → G 18 (cnt S v.toNat) = v) ∧
  (∀ f o, 0 ≤ f → f < J 4 → ((∃ j, (0 ≤ j ∧ j < G 10 f) ∧ G 11 (8 * f + j) = o) ↔ ((0 ≤ o ∧ o < J 4) ∧ G 12 o = f))) ∧
  (ac (G 12) (J 4)) ∧
  (ac (G 17) 30)
section
variable {I : Nat → Int} {F : Nat → Int → Int} {J : Nat → Int} {G : Nat → Int → Int}
theorem RR.xi (h : RR I F J G) : xInv I F := h.1
theorem RR.n3 (h : RR I F J G) : J 3 = I 8 := h.2.1
theorem RR.n4 (h : RR I F J G) : J 4 = I 9 := h.2.2.1
theorem RR.n5 (h : RR I F J G) : J 5 = I 10 := h.2.2.2.1
theorem RR.n1 (h : RR I F J G) : J 1 = I 1 := h.2.2.2.2.1
theorem RR.tx (h : RR I F J G) : G 1 = F 7 := h.2.2.2.2.2.1
theorem RR.ln (h : RR I F J G) : G 8 = F 15 := h.2.2.2.2.2.2.1
theorem RR.byt (h : RR I F J G) : G 9 = F 16 := h.2.2.2.2.2.2.2.1
theorem RR.mb (h : RR I F J G) : G 10 = F 17 := h.2.2.2.2.2.2.2.2.1
theorem RR.cf (h : RR I F J G) : G 13 = F 19 := h.2.2.2.2.2.2.2.2.2.1
theorem RR.cw (h : RR I F J G) : G 14 = F 20 := h.2.2.2.2.2.2.2.2.2.2.1
theorem RR.ct (h : RR I F J G) : G 15 = F 21 := h.2.2.2.2.2.2.2.2.2.2.2.1
theorem RR.od (h : RR I F J G) : G 16 = F 22 := h.2.2.2.2.2.2.2.2.2.2.2.2.1
theorem RR.rw (h : RR I F J G) : ∀ r, 0 ≤ r → r < I 8 → G 2 r = F 9 r ∧ G 3 r = F 10 r ∧ G 5 r = F 11 r ∧ G 4 r = F 12 r ∧ G 6 r = F 13 r := h.2.2.2.2.2.2.2.2.2.2.2.2.2.1
theorem RR.pt (h : RR I F J G) : ∀ r j, 0 ≤ r → r < I 8 → 0 ≤ j → j < F 13 r → G 7 (12 * r + j) = F 14 (r * 12 + j) := h.2.2.2.2.2.2.2.2.2.2.2.2.2.2.1
theorem RR.pr (h : RR I F J G) : ∀ f, 0 ≤ f → f < I 9 → G 12 f = F 18 f := h.2.2.2.2.2.2.2.2.2.2.2.2.2.2.2.1
theorem RR.pn (h : RR I F J G) : ∀ f, I 9 ≤ f → f < 40 → G 12 f = -1 := h.2.2.2.2.2.2.2.2.2.2.2.2.2.2.2.2.1
theorem RR.mg (h : RR I F J G) : ∀ i, 0 ≤ i → i < 30 → G 17 i = F 23 i := h.2.2.2.2.2.2.2.2.2.2.2.2.2.2.2.2.2.1
theorem RR.kp (h : RR I F J G) : ∀ f, 0 ≤ f → f < 40 → G 19 f = F 6 f := h.2.2.2.2.2.2.2.2.2.2.2.2.2.2.2.2.2.2.1
theorem RR.fd (h : RR I F J G) : ∃ S : Int → Prop, bits (I 0) S ∧ J 6 = cnt S 30 ∧ ∀ v, S v → G 18 (cnt S v.toNat) = v := h.2.2.2.2.2.2.2.2.2.2.2.2.2.2.2.2.2.2.2.1
theorem RR.ml (h : RR I F J G) : ∀ f o, 0 ≤ f → f < J 4 → ((∃ j, (0 ≤ j ∧ j < G 10 f) ∧ G 11 (8 * f + j) = o) ↔ ((0 ≤ o ∧ o < J 4) ∧ G 12 o = f)) := h.2.2.2.2.2.2.2.2.2.2.2.2.2.2.2.2.2.2.2.2.1
theorem RR.r1 (h : RR I F J G) : ac (G 12) (J 4) := h.2.2.2.2.2.2.2.2.2.2.2.2.2.2.2.2.2.2.2.2.2.1
theorem RR.r2 (h : RR I F J G) : ac (G 17) 30 := h.2.2.2.2.2.2.2.2.2.2.2.2.2.2.2.2.2.2.2.2.2.2
end
section
variable {I : Nat → Int} {F : Nat → Int → Int} {J : Nat → Int} {G : Nat → Int → Int}
theorem RR.mi (h : RR I F J G) : mInv J G := by
  have hx := h.xi
  have n3 := h.n3; have n4 := h.n4; have n5 := h.n5; have n1 := h.n1
  obtain ⟨S, s1, s2, s3⟩ := h.fd
  have hn := hx.n
  refine ⟨⟨by omega, by omega, by omega, by omega, ?_⟩, ?_, ?_, ?_, ?_, ?_, ?_, h.ml, ?_, ?_, ?_, ?_, h.r1, h.r2⟩
  · rw [s2]; exact cnt_in S 30
  · intro q h0 h1; rw [h.tx]; exact hx.sg q h0 (by omega)
  · intro r h0 h1
    obtain ⟨e1, e2, e3, e4, e5⟩ := h.rw r h0 (by omega)
    rw [e1, e2, e3, e4, e5]
    exact hx.rw r h0 (by omega)
  · intro r j h0 h1 h2 h3
    obtain ⟨-, -, -, -, e5⟩ := h.rw r h0 (by omega)
    rw [e5] at h3
    rw [h.pt r j h0 (by omega) h2 h3]
    exact hx.pt r j h0 (by omega) h2 h3
  · intro f h0 h1; rw [h.ln, h.mb]; exact hx.fl f h0 h1
  · intro f j h0 h1 h2 h3
    rw [h.ln] at h3
    rw [h.byt, Int.mul_comm]
    exact hx.byt f j h0 (by omega) h2 h3
  · intro f h0 h1
    by_cases q : f < I 9
    · rw [h.pr f h0 q, n4]; exact hx.pr f h0 q
    · rw [h.pn f (by omega) h1]; omega
  · intro i h0 h1; rw [h.cf, h.cw, h.ct]; exact hx.cn i h0 (by omega)
  · intro i h0 h1; rw [h.od, h.mg i h0 h1]; exact hx.mg i h0 h1
  · intro f h0 h1; rw [h.kp f h0 h1]; exact hx.kp f h0 h1
  · intro i h0 h1
    rw [s2] at h1
    obtain ⟨j, a, b, c⟩ := cnt_at h0 30 h1
    have e := s3 j b
    rw [c] at e
    rw [e]
    exact ⟨a.1, a.2⟩
theorem fitP_ext {fe off c len fe' off' c' len' : Int} {pat pat' byt byt' : Int → Int} (e1 : fe' = fe) (e2 : off' = off) (e3 : c' = c) (e4 : len' = len) (e5 : ∀ j, 0 ≤ j → j < c → pat' j = pat j) (e6 : byt' = byt) : fitP fe off c pat len byt ↔ fitP fe' off' c' pat' len' byt' := by
  subst e1 e2 e3 e4 e6
  constructor
  · rintro ⟨a, b, q⟩
    exact ⟨a, b, fun j h0 h1 => by rw [e5 j h0 h1]; exact q j h0 h1⟩
  · rintro ⟨a, b, q⟩
    exact ⟨a, b, fun j h0 h1 => by rw [← e5 j h0 h1]; exact q j h0 h1⟩
theorem RR.fit (h : RR I F J G) {r f : Int} (h0 : 0 ≤ r) (h1 : r < I 8) : xfit F r f ↔ mfit G r f := by
  obtain ⟨e1, e2, e3, e4, e5⟩ := h.rw r h0 h1
  refine fitP_ext e3 e4 e5 (by rw [h.ln]) (fun j q0 q1 => h.pt r j h0 h1 q0 q1) ?_
  funext j
  rw [h.byt, Int.mul_comm]
theorem RR.set (h : RR I F J G) {f n k : Int} (hn : n ≤ I 8) : xset F f n k ↔ mset G f n k := by
  have e0 : (G 8 f = 0) = (F 15 f = 0) := by rw [h.ln]
  unfold xset mset fset
  rw [e0]
  have step : ∀ r, 0 ≤ r → r < n → (xfit F r f ↔ mfit G r f) ∧ G 2 r = F 9 r ∧ G 3 r = F 10 r := fun r h0 h1 => ⟨h.fit h0 (by omega), (h.rw r h0 (by omega)).1, (h.rw r h0 (by omega)).2.1⟩
  constructor
  · rintro (q | ⟨q, r, a, b, c, d⟩)
    · exact Or.inl q
    · obtain ⟨s1, s2, s3⟩ := step r a.1 a.2
      refine Or.inr ⟨q, r, a, s1.mp b, by rw [s2]; exact c, fun r' h0 h1 h2 => ?_⟩
      obtain ⟨t1, t2, t3⟩ := step r' h0 h1
      rw [t3, s3]
      exact d r' h0 h1 (t1.mpr h2)
  · rintro (q | ⟨q, r, a, b, c, d⟩)
    · exact Or.inl q
    · obtain ⟨s1, s2, s3⟩ := step r a.1 a.2
      refine Or.inr ⟨q, r, a, s1.mpr b, by rw [← s2]; exact c, fun r' h0 h1 h2 => ?_⟩
      obtain ⟨t1, t2, t3⟩ := step r' h0 h1
      have := d r' h0 h1 (t1.mp h2)
      rw [t3, s3] at this
      exact this
theorem RR.fvs (h : RR I F J G) {f n : Int} (hn : n ≤ I 8) : fv (xset F f n) = fv (mset G f n) := fv_ext (fun _ => h.set hn)
theorem RR.fm (h : RR I F J G) (f : Int) : xfm I F f = mfm J G f := by
  unfold xfm mfm
  rw [h.n3]
  exact h.fvs (Int.le_refl _)
theorem RR.dv (h : RR I F J G) : ∀ (d : Nat) (f : Int), xdv I F d f = mdv J G d f
  | 0, f => h.fm f
  | d + 1, f => by
    show (if 0 ≤ xfm I F f then tg (F 19) (F 20) (F 21) (xfm I F f) (fun w => ∃ o, (0 ≤ o ∧ o < I 9) ∧ F 18 o = f ∧ xdv I F d o = w) (I 10).toNat else xfm I F f) = (if 0 ≤ mfm J G f then tg (G 13) (G 14) (G 15) (mfm J G f) (fun w => ∃ o, (0 ≤ o ∧ o < J 4) ∧ G 12 o = f ∧ mdv J G d o = w) (J 5).toNat else mfm J G f)
    rw [← h.fm f, h.cf, h.cw, h.ct, h.n5, h.n4]
    have e : (fun w => ∃ o, (0 ≤ o ∧ o < I 9) ∧ F 18 o = f ∧ xdv I F d o = w) = (fun w => ∃ o, (0 ≤ o ∧ o < I 9) ∧ G 12 o = f ∧ mdv J G d o = w) := by
      funext w
      refine propext ⟨?_, ?_⟩
      · rintro ⟨o, a, b, c⟩
        exact ⟨o, a, by rw [h.pr o a.1 a.2]; exact b, by rw [← RR.dv h d o]; exact c⟩
      · rintro ⟨o, a, b, c⟩
        exact ⟨o, a, by rw [← h.pr o a.1 a.2]; exact b, by rw [RR.dv h d o]; exact c⟩
    rw [e]
theorem RR.th (h : RR I F J G) {z : Int} : RR I F (uI J 0 z) G := ⟨h.xi, h.n3, h.n4, h.n5, h.n1, h.tx, h.ln, h.byt, h.mb, h.cf, h.cw, h.ct, h.od, h.rw, h.pt, h.pr, h.pn, h.mg, h.kp, h.fd, h.ml, h.r1, h.r2⟩
theorem RR.thm (h : RR I F J G) {z : Int} {g : Int → Int} : RR I F (uI J 0 z) (uF G 20 g) := ⟨h.xi, h.n3, h.n4, h.n5, h.n1, h.tx, h.ln, h.byt, h.mb, h.cf, h.cw, h.ct, h.od, h.rw, h.pt, h.pr, h.pn, h.mg, h.kp, h.fd, h.ml, h.r1, h.r2⟩
theorem RR.th2 (h : RR I F J G) {z w : Int} : RR I F (uI (uI J 0 z) 0 w) G := ⟨h.xi, h.n3, h.n4, h.n5, h.n1, h.tx, h.ln, h.byt, h.mb, h.cf, h.cw, h.ct, h.od, h.rw, h.pt, h.pr, h.pn, h.mg, h.kp, h.fd, h.ml, h.r1, h.r2⟩
abbrev Us := (Nat → Int) × (Nat → Int → Int)
/-! the calls that only read -/
theorem s_meets (h : RR I F J G) {p0 p1 r r' : Int} {v : Us} (hx : (¬ ((0 ≤ p0 ∧ p0 < I 8) ∧ (0 ≤ p1 ∧ p1 < I 9)) ∧ r = -1) ∨ ((0 ≤ p0 ∧ p0 < I 8) ∧ (0 ≤ p1 ∧ p1 < I 9) ∧ bz (xfit F p0 p1) r)) (hm : v = (uI J 0 0, G) ∧ ((¬ ((0 ≤ p0 ∧ p0 < J 3) ∧ (0 ≤ p1 ∧ p1 < J 4)) ∧ r' = -1) ∨ ((0 ≤ p0 ∧ p0 < J 3) ∧ (0 ≤ p1 ∧ p1 < J 4) ∧ bz (mfit G p0 p1) r'))) : r = r' ∧ RR I F v.1 v.2 := by
  obtain ⟨rfl, hm⟩ := hm
  refine ⟨?_, h.th⟩
  have n3 := h.n3; have n4 := h.n4
  rcases hx with ⟨a, b⟩ | ⟨a, b, c⟩ <;> rcases hm with ⟨a', b'⟩ | ⟨a', b', c'⟩
  · rw [b, b']
  · exact absurd (show _ ∧ _ from ⟨by omega, by omega⟩) a
  · exact absurd (show _ ∧ _ from ⟨by omega, by omega⟩) a'
  · have e := h.fit (f := p1) a.1 a.2
    rcases c with ⟨c1, c2⟩ | ⟨c1, c2⟩ <;> rcases c' with ⟨d1, d2⟩ | ⟨d1, d2⟩
    · rw [c1, d1]
    · exact absurd (e.mp c2) d2
    · exact absurd (e.mpr d2) c2
    · rw [c1, d1]
theorem s_deep (h : RR I F J G) {p0 r r' : Int} {v : Us} (hx : (¬ (0 ≤ p0 ∧ p0 < I 9) ∧ r = -2) ∨ ((0 ≤ p0 ∧ p0 < I 9) ∧ r = xdv I F 3 p0)) (hm : ((¬ (0 ≤ p0 ∧ p0 < J 4) ∧ r' = -2) ∨ ((0 ≤ p0 ∧ p0 < J 4) ∧ r' = mdv J G 3 p0)) ∧ ∃ g : Int → Int, v = (uI J 0 0, uF G 20 g)) : r = r' ∧ RR I F v.1 v.2 := by
  obtain ⟨hm, g, rfl⟩ := hm
  refine ⟨?_, h.thm⟩
  have n4 := h.n4
  rcases hx with ⟨a, b⟩ | ⟨a, b⟩ <;> rcases hm with ⟨a', b'⟩ | ⟨a', b'⟩
  · rw [b, b']
  · omega
  · omega
  · rw [b, b', h.dv]
theorem s_becomes (h : RR I F J G) {p0 r r' : Int} {v : Us} (hx : (¬ (0 ≤ p0 ∧ p0 < 30) ∧ r = -2) ∨ ((0 ≤ p0 ∧ p0 < 30) ∧ ((bc (F 22) (F 23) p0 30 = p0 ∧ r = -1) ∨ (bc (F 22) (F 23) p0 30 ≠ p0 ∧ r = bc (F 22) (F 23) p0 30)))) (hm : v = (uI J 0 0, G) ∧ ((¬ (0 ≤ p0 ∧ p0 < 30) ∧ r' = -2) ∨ ((0 ≤ p0 ∧ p0 < 30) ∧ ∃ n : Nat, ¬ (G 16 (bc (G 16) (G 17) p0 n) = 1 ∧ G 17 (bc (G 16) (G 17) p0 n) ≠ -1) ∧ ((bc (G 16) (G 17) p0 n = p0 ∧ r' = -1) ∨ (bc (G 16) (G 17) p0 n ≠ p0 ∧ r' = bc (G 16) (G 17) p0 n))))) : r = r' ∧ RR I F v.1 v.2 := by
  obtain ⟨rfl, hm⟩ := hm
  refine ⟨?_, h.th⟩
  rcases hx with ⟨a, b⟩ | ⟨a, b⟩ <;> rcases hm with ⟨a', b'⟩ | ⟨a', n, k1, k2⟩
  · rw [b, b']
  · exact absurd a' a
  · exact absurd a a'
  · have hc : cl (G 17) (30 : Nat) := fun f h0 h1 => (h.mi.mg f h0 h1).2
    have hcx : cl (F 23) (30 : Nat) := fun f h0 h1 => (h.xi.mg f h0 h1).2
    have e1 := bc_stop (od := G 16) hc a.1 a.2 h.r2 k1
    have e2 := (bc_ext (od := F 22) (od' := G 16) (nx' := G 17) (30 : Nat) hcx a.1 a.2 (fun f h0 h1 => ⟨by rw [h.od], (h.mg f h0 h1).symm⟩) 30).1
    rw [e2, e1] at b
    rcases b with ⟨b1, b2⟩ | ⟨b1, b2⟩ <;> rcases k2 with ⟨c1, c2⟩ | ⟨c1, c2⟩
    · rw [b2, c2]
    · exact absurd b1 c1
    · exact absurd c1 b1
    · rw [b2, c2]
theorem s_changed (h : RR I F J G) {p0 r r' : Int} {v : Us} (hx : ith (fun f => xfm I F f ≠ F 6 f) (I 9) p0 r) (hm : ith (fun f => mfm J G f ≠ G 19 f) (J 4) p0 r' ∧ ∃ g : Int → Int, v = (uI J 0 0, uF G 20 g)) : r = r' ∧ RR I F v.1 v.2 := by
  obtain ⟨hm, g, rfl⟩ := hm
  refine ⟨?_, h.thm⟩
  have hn := h.xi.n
  rw [h.n4] at hm
  refine ith_un (ith_ext (by omega) (fun j h0 h1 => ?_) hx) hm
  rw [h.fm j, h.kp j h0 (by omega)]
theorem s_count (h : RR I F J G) {p0 p1 r r' : Int} {v : Us} (hx : (¬ (((0 ≤ p0 ∧ p0 < 30) ∨ p0 = -1 ∨ p0 = -5) ∧ (0 ≤ p1 ∧ p1 ≤ I 8)) ∧ r = -2) ∨ ((((0 ≤ p0 ∧ p0 < 30) ∨ p0 = -1 ∨ p0 = -5) ∧ (0 ≤ p1 ∧ p1 ≤ I 8)) ∧ r = cnt (fun f => fv (xset F f p1) = p0) (I 9).toNat)) (hm : ((¬ (((0 ≤ p0 ∧ p0 < 30) ∨ p0 = -1 ∨ p0 = -5) ∧ (0 ≤ p1 ∧ p1 ≤ J 3)) ∧ r' = -2) ∨ ((((0 ≤ p0 ∧ p0 < 30) ∨ p0 = -1 ∨ p0 = -5) ∧ (0 ≤ p1 ∧ p1 ≤ J 3)) ∧ r' = cnt (fun f => fv (mset G f p1) = p0) (J 4).toNat)) ∧ ∃ g : Int → Int, v = (uI J 0 0, uF G 20 g)) : r = r' ∧ RR I F v.1 v.2 := by
  obtain ⟨hm, g, rfl⟩ := hm
  refine ⟨?_, h.thm⟩
  rw [h.n3, h.n4] at hm
  rcases hx with ⟨a, b⟩ | ⟨a, b⟩ <;> rcases hm with ⟨a', b'⟩ | ⟨a', b'⟩
  · rw [b, b']
  · exact absurd a' a
  · exact absurd a a'
  · rw [b, b']
    exact cnt_ext _ (fun j _ _ => by rw [h.fvs a.2.2])
theorem s_found0 (h : RR I F J G) {p0 w r' : Int} {v : Us} (hi : ith (fun k => bt (I 0) k) 30 p0 w) (hm : ((0 ≤ p0 ∧ p0 < J 6) ∧ r' = G 18 p0 ∧ v = (uI J 0 0, G)) ∨ (¬ (0 ≤ p0 ∧ p0 < J 6) ∧ r' = 0 ∧ v = (uI J 0 1, G))) : RR I F v.1 v.2 ∧ ((w ≠ -1 → v.1 0 = 0 ∧ r' = w) ∧ (w = -1 → v.1 0 = 1)) := by
  obtain ⟨S, s1, s2, s3⟩ := h.fd
  have hb : ∀ j, 0 ≤ j → j < 30 → (bt (I 0) j ↔ S j) := fun j h0 h1 => s1.2.1 j h0 (by omega)
  have hi := ith_ext (by omega) hb hi
  have key : (w ≠ -1 → (0 ≤ p0 ∧ p0 < J 6) ∧ G 18 p0 = w) ∧ (w = -1 → ¬ (0 ≤ p0 ∧ p0 < J 6)) := by
    rcases hi with ⟨a1, a2, a3, a4⟩ | ⟨a1, a2⟩
    · refine ⟨fun _ => ?_, fun e => by omega⟩
      have c1 := cnt_lt (P := S) (i := w) (j := 30) a1 a2 a3
      have c2 := cnt_in S w.toNat
      have c3 : cnt S (30 : Int).toNat = cnt S 30 := rfl
      have e := s3 w a3
      rw [a4] at e
      exact ⟨by omega, e⟩
    · refine ⟨fun e => absurd a1 e, fun _ q => ?_⟩
      rw [s2] at q
      obtain ⟨j, b1, b2, b3⟩ := cnt_at q.1 30 q.2
      exact a2 j b1.1 b1.2 b2 b3
  rcases hm with ⟨a, b, rfl⟩ | ⟨a, b, rfl⟩
  · refine ⟨h.th, fun e => ⟨rfl, by rw [b]; exact (key.1 e).2⟩, fun e => absurd a (key.2 e)⟩
  · refine ⟨h.th, fun e => absurd (key.1 e).1 a, fun e => rfl⟩
theorem s_pattern (h : RR I F J G) {p0 p1 r' : Int} {v : Us} (hm : (¬ (0 ≤ p0 ∧ p0 < J 3) ∧ r' = -1 ∧ v = (uI J 0 0, G)) ∨ ((0 ≤ p0 ∧ p0 < J 3) ∧ (((0 ≤ p1 ∧ p1 < G 6 p0) ∧ r' = G 7 (12 * p0 + p1) ∧ v = (uI (uI J 0 0) 0 0, G)) ∨ (¬ (0 ≤ p1 ∧ p1 < G 6 p0) ∧ r' = 0 ∧ v = (uI (uI J 0 0) 0 1, G))))) : RR I F v.1 v.2 ∧ ((((0 ≤ p0 ∧ p0 < I 8) → 0 ≤ p1 ∧ p1 < F 13 p0) → v.1 0 = 0 ∧ ∀ r, ((¬ (0 ≤ p0 ∧ p0 < I 8) ∧ r = -1) ∨ ((0 ≤ p0 ∧ p0 < I 8) ∧ r = F 14 (p0 * 12 + p1))) → r = r') ∧ (¬ ((0 ≤ p0 ∧ p0 < I 8) → 0 ≤ p1 ∧ p1 < F 13 p0) → v.1 0 = 1)) := by
  rw [h.n3] at hm
  rcases hm with ⟨a, b, rfl⟩ | ⟨a, ⟨b, c, rfl⟩ | ⟨b, c, rfl⟩⟩
  · refine ⟨h.th, fun _ => ⟨rfl, fun r hr => ?_⟩, fun q => absurd (fun z => absurd z a) q⟩
    rcases hr with ⟨_, hr⟩ | ⟨hr, _⟩
    · rw [hr, b]
    · exact absurd hr a
  · have e := (h.rw p0 a.1 a.2).2.2.2.2
    rw [e] at b
    refine ⟨h.th2, fun _ => ⟨rfl, fun r hr => ?_⟩, fun q => absurd (fun _ => b) q⟩
    rcases hr with ⟨hr, _⟩ | ⟨_, hr⟩
    · exact absurd a hr
    · rw [hr, c, h.pt p0 p1 a.1 a.2 b.1 b.2]
  · have e := (h.rw p0 a.1 a.2).2.2.2.2
    rw [e] at b
    exact ⟨h.th2, fun q => absurd (q a) b, fun _ => rfl⟩
end
