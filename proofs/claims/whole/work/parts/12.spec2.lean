/-! the loop over the rows: the set of the formats of the greatest rank so far -/
def stI (fm rk : Int → Int) (P : Int → Prop) (row gr se : Int) : Prop := bits se (fun k => ∃ r : Int, (0 ≤ r ∧ r < row) ∧ P r ∧ fm r = k ∧ rk r = gr) ∧ (∀ r : Int, 0 ≤ r → r < row → P r → rk r ≤ gr) ∧ (gr = -1 ∨ ∃ r : Int, (0 ≤ r ∧ r < row) ∧ P r ∧ rk r = gr)
section
variable {fm rk : Int → Int} {P : Int → Prop} {row gr se : Int}
theorem st_0 : stI fm rk P 0 (-1) 0 := ⟨bits_0 (fun k ⟨r, h, _⟩ => by omega), fun r h0 h1 => by omega, Or.inl rfl⟩
theorem st_skip (h : stI fm rk P row gr se) (hr : 0 ≤ row) (hs : rk row < gr ∨ ¬ P row) : stI fm rk P (row + 1) gr se := by
  obtain ⟨h1, h2, h3⟩ := h
  refine ⟨bits_ext h1 (fun k => ⟨fun ⟨r, q0, q1, q2, q3⟩ => ⟨r, by omega, q1, q2, q3⟩, fun ⟨r, q0, q1, q2, q3⟩ => ?_⟩), fun r q0 q1 q2 => ?_, ?_⟩
  · by_cases e : r = row
    · subst e
      rcases hs with hs | hs
      · omega
      · exact absurd q1 hs
    · exact ⟨r, by omega, q1, q2, q3⟩
  · by_cases e : r = row
    · subst e
      rcases hs with hs | hs
      · omega
      · exact absurd q2 hs
    · exact h2 r q0 (by omega) q2
  · rcases h3 with h3 | ⟨r, q0, q1, q2⟩
    · exact Or.inl h3
    · exact Or.inr ⟨r, by omega, q1, q2⟩
theorem st_eq (h : stI fm rk P row gr se) (hr : 0 ≤ row) (hp : P row) (he : rk row = gr) (h0 : 0 ≤ fm row) (h9 : fm row < 30) : stI fm rk P (row + 1) gr (iI se ||| ((iI 1) <<< (iI (fm row) &&& 31))).toInt := by
  obtain ⟨h1, h2, h3⟩ := h
  refine ⟨bits_or h1 h0 h9 (fun k => ⟨fun ⟨r, q0, q1, q2, q3⟩ => ?_, fun q => ?_⟩), fun r q0 q1 q2 => ?_, Or.inr ⟨row, by omega, hp, he⟩⟩
  · by_cases e : r = row
    · subst e; exact Or.inr q2.symm
    · exact Or.inl ⟨r, by omega, q1, q2, q3⟩
  · rcases q with ⟨r, q0, q1, q2, q3⟩ | q
    · exact ⟨r, by omega, q1, q2, q3⟩
    · exact ⟨row, by omega, hp, q.symm, he⟩
  · by_cases e : r = row
    · subst e; omega
    · exact h2 r q0 (by omega) q2
theorem st_gt (h : stI fm rk P row gr se) (hr : 0 ≤ row) (hp : P row) (he : gr < rk row) (h0 : 0 ≤ fm row) (h9 : fm row < 30) : stI fm rk P (row + 1) (rk row) (iI 0 ||| ((iI 1) <<< (iI (fm row) &&& 31))).toInt := by
  obtain ⟨h1, h2, h3⟩ := h
  refine ⟨bits_or (S := fun _ => False) (bits_0 (fun _ q => q)) h0 h9 (fun k => ⟨fun ⟨r, q0, q1, q2, q3⟩ => ?_, fun q => ?_⟩), fun r q0 q1 q2 => ?_, Or.inr ⟨row, by omega, hp, rfl⟩⟩
  · by_cases e : r = row
    · subst e; exact Or.inr q2.symm
    · have := h2 r (by omega) (by omega) q1
      omega
  · rcases q with q | q
    · exact absurd q id
    · exact ⟨row, by omega, hp, q.symm, rfl⟩
  · by_cases e : r = row
    · subst e; omega
    · have := h2 r q0 (by omega) q2
      omega
theorem st_in (h : stI fm rk P row gr se) : -2147483648 ≤ se ∧ se < 2147483648 := h.1.1
theorem st_end {z : Prop} (h : stI fm rk P row gr se) (hk : ∀ r, 0 ≤ r → r < row → 0 ≤ rk r) (hz : ¬ z) : bits se (fset fm rk P z row) := by
  obtain ⟨h1, h2, h3⟩ := h
  refine bits_ext h1 (fun k => ⟨fun ⟨r, q0, q1, q2, q3⟩ => Or.inr ⟨hz, r, q0, q1, q2, fun r' a0 a1 a2 => by rw [q3]; exact h2 r' a0 a1 a2⟩, fun q => ?_⟩)
  rcases q with ⟨q, -⟩ | ⟨-, r, q0, q1, q2, q3⟩
  · exact absurd q hz
  · refine ⟨r, q0, q1, q2, ?_⟩
    have a1 := h2 r q0.1 q0.2 q1
    have a2 := hk r q0.1 q0.2
    rcases h3 with h3 | ⟨r', b0, b1, b2⟩
    · omega
    · have := q3 r' b0.1 b0.2 b1
      omega
end
theorem xset_in {I : Nat → Int} {F : Nat → Int → Int} (hv : xInv I F) {f n : Int} (hn : n ≤ I 8) : ∀ k, xset F f n k → 0 ≤ k ∧ k < 30 := by
  intro k h
  rcases h with ⟨-, h⟩ | ⟨-, r, q0, -, q2, -⟩
  · omega
  · have := (hv.rw r (by omega) (by omega)).1
    omega
theorem bits_fv {M : Int} {S : Int → Prop} (h : bits M S) {r : Int} (hr : ith (fun k => bt M k) 30 0 r) (hc : cnt (fun k => bt M k) 32 ≤ 1) : r = fv S := by
  have hS : ∀ k, S k → bt M k := fun k hk => (h.2.1 k (h.2.2 k hk).1 (by have := h.2.2 k hk; omega)).mpr hk
  have hun : ∀ i j, S i → S j → i = j := by
    intro i j hi hj
    have ai := h.2.2 i hi
    have aj := h.2.2 j hj
    have hlt : ∀ i j : Int, S i → S j → ¬ i < j := by
      intro i j hi hj q
      have ai := h.2.2 i hi
      have aj := h.2.2 j hj
      have c1 := cnt_lt (P := fun k => bt M k) ai.1 q (hS i hi)
      have c2 := cnt_zt (P := fun k => bt M k) aj.1 (hS j hj)
      have c3 := cnt_in (fun k => bt M k) i.toNat
      have c4 := cnt_mono (P := fun k => bt M k) (a := (j + 1).toNat) (b := 32) (by omega)
      omega
    have h1 := hlt i j hi hj
    have h2 := hlt j i hj hi
    omega
  rcases hr with ⟨a1, a2, a3, a4⟩ | ⟨a1, a2⟩
  · have hs : S r := (h.2.1 r a1 (by omega)).mp a3
    exact (fv_one hs (fun j hj => hun j r hj hs)).symm
  · rw [a1, fv_none]
    intro k hk
    obtain ⟨k0, hk0, hl⟩ := pk_least (fun n : Nat => S n) ⟨k.toNat, by have := h.2.2 k hk; rw [show ((k.toNat : Nat) : Int) = k by omega]; exact hk⟩
    have b := h.2.2 _ hk0
    refine a2 k0 b.1 b.2 (hS _ hk0) ?_
    have : ∀ n : Nat, n ≤ k0 → cnt (fun k => bt M k) n = 0 := by
      intro n
      induction n with
      | zero => intro _; rfl
      | succ n ih =>
        intro hn
        rw [cnt_f (fun q => hl n (by omega) ((h.2.1 n (by omega) (by omega)).mp q)), ih (by omega)]
    rw [show ((k0 : Nat) : Int).toNat = k0 by omega]
    exact this k0 (Nat.le_refl _)
theorem bits_two {M : Int} {S : Int → Prop} (h : bits M S) (hc : 1 < cnt (fun k => bt M k) 32) : fv S = -5 := by
  refine fv_two ?_
  have key : ∀ n : Nat, n ≤ 32 → (cnt (fun k => bt M k) n = 0) ∨ (∃ i : Int, (0 ≤ i ∧ i < n) ∧ bt M i ∧ (cnt (fun k => bt M k) n = 1 ∨ ∃ j : Int, (0 ≤ j ∧ j < n) ∧ bt M j ∧ i ≠ j)) := by
    intro n
    induction n with
    | zero => intro _; exact Or.inl rfl
    | succ n ih =>
      intro hn
      by_cases hb : bt M n
      · rcases ih (by omega) with q | ⟨i, q0, q1, q2⟩
        · exact Or.inr ⟨n, by omega, hb, Or.inl (by rw [cnt_t hb, q]; rfl)⟩
        · exact Or.inr ⟨i, by omega, q1, Or.inr ⟨n, by omega, hb, by omega⟩⟩
      · rw [cnt_f (P := fun k => bt M k) hb]
        rcases ih (by omega) with q | ⟨i, q0, q1, q2⟩
        · exact Or.inl q
        · refine Or.inr ⟨i, by omega, q1, ?_⟩
          rcases q2 with q2 | ⟨j, j0, j1, j2⟩
          · exact Or.inl q2
          · exact Or.inr ⟨j, by omega, j1, j2⟩
  rcases key 32 (Nat.le_refl _) with q | ⟨i, q0, q1, q2 | ⟨j, j0, j1, j2⟩⟩
  · omega
  · omega
  · exact ⟨i, j, j2, (h.2.1 i q0.1 (by omega)).mp q1, (h.2.1 j j0.1 (by omega)).mp j1⟩
theorem tg_in {cf cw ct : Int → Int} {fm : Int} {P : Int → Prop} {lo : Int} (hlo : lo ≤ 0) (h0 : lo ≤ fm ∧ fm < 30) : ∀ n : Nat, (∀ i : Int, 0 ≤ i → i < n → 0 ≤ ct i ∧ ct i < 30) → lo ≤ tg cf cw ct fm P n ∧ tg cf cw ct fm P n < 30
  | 0, _ => h0
  | n + 1, h => by
    by_cases q : cf n = fm ∧ P (cw n)
    · rw [tg_t q.1 q.2]
      have := h n (by omega) (by omega)
      omega
    · rw [tg_f q]
      exact tg_in hlo h0 n (fun i a b => h i a (by omega))
noncomputable def xfm (I : Nat → Int) (F : Nat → Int → Int) (f : Int) : Int := fv (xset F f (I 8))
noncomputable def xdv (I : Nat → Int) (F : Nat → Int → Int) : Nat → Int → Int := dv (xfm I F) (F 18) (I 9) (F 19) (F 20) (F 21) (I 10).toNat
theorem xfm_in {I : Nat → Int} {F : Nat → Int → Int} (hv : xInv I F) (f : Int) : -5 ≤ xfm I F f ∧ xfm I F f < 30 := fv_in (xset_in hv (Int.le_refl _))
theorem xdv_in {I : Nat → Int} {F : Nat → Int → Int} (hv : xInv I F) : ∀ (d : Nat) (f : Int), -5 ≤ xdv I F d f ∧ xdv I F d f < 30
  | 0, f => xfm_in hv f
  | d + 1, f => by
    show -5 ≤ (if 0 ≤ xfm I F f then _ else _) ∧ (if 0 ≤ xfm I F f then _ else _) < 30
    split
    · exact tg_in (by omega) (xfm_in hv f) _ (fun i h0 h1 => (hv.cn i h0 (by have := hv.n; omega)).2.2)
    · exact xfm_in hv f
theorem xdv_lo {I : Nat → Int} {F : Nat → Int → Int} {d : Nat} {f : Int} (h : ¬ 0 ≤ xfm I F f) : xdv I F d f = xfm I F f := by
  cases d with
  | zero => rfl
  | succ d => exact if_neg h
theorem xdv_hi {I : Nat → Int} {F : Nat → Int → Int} {d : Nat} {f : Int} (h : 0 ≤ xfm I F f) {M : Int} (hv : xInv I F) (hM : bits M (fun k => (0 ≤ k ∧ k < 30) ∧ ∃ o : Int, (0 ≤ o ∧ o < I 9) ∧ F 18 o = f ∧ xdv I F d o = k)) : tg (F 19) (F 20) (F 21) (xfm I F f) (fun w => bt M w) (I 10).toNat = xdv I F (d + 1) f := by
  have e : xdv I F (d + 1) f = tg (F 19) (F 20) (F 21) (xfm I F f) (fun w => ∃ o, (0 ≤ o ∧ o < I 9) ∧ F 18 o = f ∧ xdv I F d o = w) (I 10).toNat := if_pos h
  rw [e]
  have hn := hv.n
  refine tg_ext _ (fun i h0 h1 => ⟨rfl, rfl, ?_⟩)
  have hc := (hv.cn i h0 (by omega)).2.1
  exact (hM.2.1 _ hc.1 (by omega)).trans ⟨fun q => q.2, fun q => ⟨hc, q⟩⟩
