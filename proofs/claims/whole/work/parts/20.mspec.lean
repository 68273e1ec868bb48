/-! the reference: what holds of every state -/
def mfit (F : Nat → Int → Int) (r f : Int) : Prop := fitP (F 5 r) (F 4 r) (F 6 r) (fun j => F 7 (12 * r + j)) (F 8 f) (fun j => F 9 (60 * f + j))
def mset (F : Nat → Int → Int) (f n : Int) : Int → Prop := fset (F 2) (F 3) (fun r => mfit F r f) (F 8 f = 0) n
noncomputable def mfm (I : Nat → Int) (F : Nat → Int → Int) (f : Int) : Int := fv (mset F f (I 3))
noncomputable def mdv (I : Nat → Int) (F : Nat → Int → Int) : Nat → Int → Int := dv (mfm I F) (F 12) (I 4) (F 13) (F 14) (F 15) (I 5).toNat
def mInv (I : Nat → Int) (F : Nat → Int → Int) : Prop :=
  ((0 ≤ I 3 ∧ I 3 ≤ 60) ∧ (0 ≤ I 4 ∧ I 4 ≤ 40) ∧ (0 ≤ I 5 ∧ I 5 ≤ 20) ∧ (0 ≤ I 1 ∧ I 1 ≤ 60) ∧ (0 ≤ I 6 ∧ I 6 ≤ 30)) ∧
  (∀ q, 0 ≤ q → q < I 1 → 0 ≤ F 1 q ∧ F 1 q < 256) ∧
  (∀ r, 0 ≤ r → r < I 3 → (0 ≤ F 2 r ∧ F 2 r < 30) ∧ (0 ≤ F 3 r ∧ F 3 r < 10) ∧ (F 5 r = 0 ∨ F 5 r = 1) ∧ (0 ≤ F 4 r ∧ F 4 r < 1000) ∧ (1 ≤ F 6 r ∧ F 6 r ≤ 12)) ∧
  (∀ r j, 0 ≤ r → r < I 3 → 0 ≤ j → j < F 6 r → 0 ≤ F 7 (12 * r + j) ∧ F 7 (12 * r + j) ≤ 256) ∧
  (∀ f, 0 ≤ f → f < 40 → (0 ≤ F 8 f ∧ F 8 f ≤ 60) ∧ (0 ≤ F 10 f ∧ F 10 f ≤ 8)) ∧
  (∀ f j, 0 ≤ f → f < I 4 → 0 ≤ j → j < F 8 f → 0 ≤ F 9 (60 * f + j) ∧ F 9 (60 * f + j) < 256) ∧
  (∀ f, 0 ≤ f → f < 40 → -1 ≤ F 12 f ∧ F 12 f < I 4) ∧
  (∀ f o, 0 ≤ f → f < I 4 → ((∃ j, (0 ≤ j ∧ j < F 10 f) ∧ F 11 (8 * f + j) = o) ↔ ((0 ≤ o ∧ o < I 4) ∧ F 12 o = f))) ∧
  (∀ i, 0 ≤ i → i < I 5 → (0 ≤ F 13 i ∧ F 13 i < 30) ∧ (0 ≤ F 14 i ∧ F 14 i < 30) ∧ (0 ≤ F 15 i ∧ F 15 i < 30)) ∧
  (∀ i, 0 ≤ i → i < 30 → (F 16 i = 0 ∨ F 16 i = 1) ∧ (-1 ≤ F 17 i ∧ F 17 i < 30)) ∧
  (∀ f, 0 ≤ f → f < 40 → -5 ≤ F 19 f ∧ F 19 f < 30) ∧
  (∀ i, 0 ≤ i → i < I 6 → 0 ≤ F 18 i ∧ F 18 i < 30) ∧
  (∃ rho : Int → Nat, ∀ f, 0 ≤ f → f < I 4 → 0 ≤ F 12 f → rho (F 12 f) < rho f) ∧
  (∃ rho : Int → Nat, ∀ f, 0 ≤ f → f < 30 → 0 ≤ F 17 f → rho (F 17 f) < rho f)
section
variable {I : Nat → Int} {F : Nat → Int → Int}
theorem mInv.n (h : mInv I F) : (0 ≤ I 3 ∧ I 3 ≤ 60) ∧ (0 ≤ I 4 ∧ I 4 ≤ 40) ∧ (0 ≤ I 5 ∧ I 5 ≤ 20) ∧ (0 ≤ I 1 ∧ I 1 ≤ 60) ∧ (0 ≤ I 6 ∧ I 6 ≤ 30) := h.1
theorem mInv.sg (h : mInv I F) : ∀ q, 0 ≤ q → q < I 1 → 0 ≤ F 1 q ∧ F 1 q < 256 := h.2.1
theorem mInv.rw (h : mInv I F) : ∀ r, 0 ≤ r → r < I 3 → (0 ≤ F 2 r ∧ F 2 r < 30) ∧ (0 ≤ F 3 r ∧ F 3 r < 10) ∧ (F 5 r = 0 ∨ F 5 r = 1) ∧ (0 ≤ F 4 r ∧ F 4 r < 1000) ∧ (1 ≤ F 6 r ∧ F 6 r ≤ 12) := h.2.2.1
theorem mInv.pt (h : mInv I F) : ∀ r j, 0 ≤ r → r < I 3 → 0 ≤ j → j < F 6 r → 0 ≤ F 7 (12 * r + j) ∧ F 7 (12 * r + j) ≤ 256 := h.2.2.2.1
theorem mInv.fl (h : mInv I F) : ∀ f, 0 ≤ f → f < 40 → (0 ≤ F 8 f ∧ F 8 f ≤ 60) ∧ (0 ≤ F 10 f ∧ F 10 f ≤ 8) := h.2.2.2.2.1
theorem mInv.byt (h : mInv I F) : ∀ f j, 0 ≤ f → f < I 4 → 0 ≤ j → j < F 8 f → 0 ≤ F 9 (60 * f + j) ∧ F 9 (60 * f + j) < 256 := h.2.2.2.2.2.1
theorem mInv.pr (h : mInv I F) : ∀ f, 0 ≤ f → f < 40 → -1 ≤ F 12 f ∧ F 12 f < I 4 := h.2.2.2.2.2.2.1
theorem mInv.ml (h : mInv I F) : ∀ f o, 0 ≤ f → f < I 4 → ((∃ j, (0 ≤ j ∧ j < F 10 f) ∧ F 11 (8 * f + j) = o) ↔ ((0 ≤ o ∧ o < I 4) ∧ F 12 o = f)) := h.2.2.2.2.2.2.2.1
theorem mInv.cn (h : mInv I F) : ∀ i, 0 ≤ i → i < I 5 → (0 ≤ F 13 i ∧ F 13 i < 30) ∧ (0 ≤ F 14 i ∧ F 14 i < 30) ∧ (0 ≤ F 15 i ∧ F 15 i < 30) := h.2.2.2.2.2.2.2.2.1
theorem mInv.mg (h : mInv I F) : ∀ i, 0 ≤ i → i < 30 → (F 16 i = 0 ∨ F 16 i = 1) ∧ (-1 ≤ F 17 i ∧ F 17 i < 30) := h.2.2.2.2.2.2.2.2.2.1
theorem mInv.kp (h : mInv I F) : ∀ f, 0 ≤ f → f < 40 → -5 ≤ F 19 f ∧ F 19 f < 30 := h.2.2.2.2.2.2.2.2.2.2.1
theorem mInv.fd (h : mInv I F) : ∀ i, 0 ≤ i → i < I 6 → 0 ≤ F 18 i ∧ F 18 i < 30 := h.2.2.2.2.2.2.2.2.2.2.2.1
theorem mInv.r1 (h : mInv I F) : ∃ rho : Int → Nat, ∀ f, 0 ≤ f → f < I 4 → 0 ≤ F 12 f → rho (F 12 f) < rho f := h.2.2.2.2.2.2.2.2.2.2.2.2.1
theorem mInv.r2 (h : mInv I F) : ∃ rho : Int → Nat, ∀ f, 0 ≤ f → f < 30 → 0 ≤ F 17 f → rho (F 17 f) < rho f := h.2.2.2.2.2.2.2.2.2.2.2.2.2
/-- neither the scratch row of formats nor the mark of a throw is told by it -/
theorem mInv_mf (h : mInv I F) {g : Int → Int} : mInv I (uF F 20 g) := h
theorem mInv_th (h : mInv I F) {z : Int} : mInv (uI I 0 z) F := h
theorem mInv_thm (h : mInv I F) {z : Int} {g : Int → Int} : mInv (uI I 0 z) (uF F 20 g) := h
theorem mset_in (hv : mInv I F) {f n : Int} (hn : n ≤ I 3) : ∀ k, mset F f n k → 0 ≤ k ∧ k < 30 := by
  intro k h
  rcases h with ⟨-, h⟩ | ⟨-, r, q0, -, q2, -⟩
  · omega
  · have := (hv.rw r (by omega) (by omega)).1
    omega
theorem mfm_in (hv : mInv I F) (f : Int) : -5 ≤ mfm I F f ∧ mfm I F f < 30 := fv_in (mset_in hv (Int.le_refl _))
theorem mdv_in (hv : mInv I F) : ∀ (d : Nat) (f : Int), -5 ≤ mdv I F d f ∧ mdv I F d f < 30
  | 0, f => mfm_in hv f
  | d + 1, f => by
    show -5 ≤ (if 0 ≤ mfm I F f then _ else _) ∧ (if 0 ≤ mfm I F f then _ else _) < 30
    split
    · exact tg_in (by omega) (mfm_in hv f) _ (fun i h0 h1 => (hv.cn i h0 (by have := hv.n; omega)).2.2)
    · exact mfm_in hv f
theorem mfit_0 {F : Nat → Int → Int} {r f : Int} (h : mfit F r f) (hc : 1 ≤ F 6 r) : F 8 f ≠ 0 := by
  have h1 := h.1
  have h2 := h.2.1
  omega
end
/-- the greatest rank, so far -/
def bsI (rk : Int → Int) (P : Int → Prop) (row gr : Int) : Prop := (∀ r : Int, 0 ≤ r → r < row → P r → rk r ≤ gr) ∧ (gr = -1 ∨ ∃ r : Int, (0 ≤ r ∧ r < row) ∧ P r ∧ rk r = gr)
section
variable {rk fm : Int → Int} {P : Int → Prop} {row gr : Int}
theorem bs_0 : bsI rk P 0 (-1) := ⟨fun r h0 h1 => by omega, Or.inl rfl⟩
theorem bs_skip (h : bsI rk P row gr) (h0 : 0 ≤ row) (hs : rk row ≤ gr ∨ ¬ P row) : bsI rk P (row + 1) gr := by
  refine ⟨fun r q0 q1 q2 => ?_, ?_⟩
  · by_cases e : r = row
    · subst e
      rcases hs with hs | hs
      · exact hs
      · exact absurd q2 hs
    · exact h.1 r q0 (by omega) q2
  · rcases h.2 with h2 | ⟨r, q0, q1, q2⟩
    · exact Or.inl h2
    · exact Or.inr ⟨r, by omega, q1, q2⟩
theorem bs_new (h : bsI rk P row gr) (h0 : 0 ≤ row) (hp : P row) (hs : gr < rk row) : bsI rk P (row + 1) (rk row) := by
  refine ⟨fun r q0 q1 q2 => ?_, Or.inr ⟨row, by omega, hp, rfl⟩⟩
  by_cases e : r = row
  · subst e; omega
  · have := h.1 r q0 (by omega) q2
    omega
theorem bs_end {z : Prop} (h : bsI rk P row gr) (hk : ∀ r, 0 ≤ r → r < row → 0 ≤ rk r) (hz : ∀ r, 0 ≤ r → r < row → P r → ¬ z) (k : Int) : fset fm rk P z row k ↔ ((z ∧ k = 0) ∨ ∃ r : Int, (0 ≤ r ∧ r < row) ∧ P r ∧ rk r = gr ∧ fm r = k) := by
  constructor
  · intro q
    rcases q with q | ⟨-, r, q0, q1, q2, q3⟩
    · exact Or.inl q
    · refine Or.inr ⟨r, q0, q1, ?_, q2⟩
      have a1 := h.1 r q0.1 q0.2 q1
      have a2 := hk r q0.1 q0.2
      rcases h.2 with h3 | ⟨r', b0, b1, b2⟩
      · omega
      · have := q3 r' b0.1 b0.2 b1
        omega
  · intro q
    rcases q with q | ⟨r, q0, q1, q2, q3⟩
    · exact Or.inl q
    · exact Or.inr ⟨hz r q0.1 q0.2 q1, r, q0, q1, q3, fun r' a0 a1 a2 => by rw [q2]; exact h.1 r' a0 a1 a2⟩
end
/-- the last of a set so far, and how many -/
def lsI (S : Int → Prop) (k one n : Int) : Prop := n = cnt S k.toNat ∧ ((n = 0 ∧ one = -1) ∨ (1 ≤ n ∧ (0 ≤ one ∧ one < k) ∧ S one))
section
variable {S : Int → Prop} {k one n : Int}
theorem ls_0 : lsI S 0 (-1) 0 := ⟨rfl, Or.inl ⟨rfl, rfl⟩⟩
theorem ls_t (h : lsI S k one n) (h0 : 0 ≤ k) (hs : S k) : lsI S (k + 1) k (n + 1) := by
  refine ⟨by rw [cnt_zt h0 hs, h.1], Or.inr ⟨?_, by omega, hs⟩⟩
  have := cnt_in S k.toNat
  have := h.1
  omega
theorem ls_f (h : lsI S k one n) (h0 : 0 ≤ k) (hs : ¬ S k) : lsI S (k + 1) one (n + 0) := by
  refine ⟨by rw [cnt_zf h0 hs, h.1]; omega, ?_⟩
  rcases h.2 with ⟨a, b⟩ | ⟨a, b, c⟩
  · exact Or.inl ⟨by omega, b⟩
  · exact Or.inr ⟨by omega, by omega, c⟩
theorem ls_end (h : lsI S 30 one n) (hS : ∀ k, S k → 0 ≤ k ∧ k < 30) (hn : ¬ 1 < n) : one = fv S := by
  have hc : ∀ j, S j → 1 ≤ n := by
    intro j hj
    have b := hS j hj
    have c1 := cnt_zt (P := S) b.1 hj
    have c2 := cnt_mono (P := S) (a := (j + 1).toNat) (b := (30 : Int).toNat) (by omega)
    have c3 := cnt_in S j.toNat
    have := h.1
    omega
  rcases h.2 with ⟨a, b⟩ | ⟨a, b, c⟩
  · rw [b, fv_none]
    intro k hk
    have := hc k hk
    omega
  · refine (fv_one c (fun j hj => ?_)).symm
    have hj0 := hS j hj
    have key : ∀ i j : Int, S i → S j → ¬ i < j := by
      intro i j hi hj q
      have ai := hS i hi
      have aj := hS j hj
      have c1 := cnt_lt (P := S) ai.1 q hi
      have c2 := cnt_zt (P := S) aj.1 hj
      have c3 := cnt_in S i.toNat
      have c4 := cnt_mono (P := S) (a := (j + 1).toNat) (b := (30 : Int).toNat) (by omega)
      have := h.1
      omega
    have k1 := key j one hj c
    have k2 := key one j c hj
    omega
theorem ls_two (h : lsI S 30 one n) (hS : ∀ k, S k → 0 ≤ k ∧ k < 30) (hn : 1 < n) : fv S = -5 := by
  rcases h.2 with ⟨a, b⟩ | ⟨a, b, c⟩
  · omega
  · refine fv_two (Classical.byContradiction fun q => ?_)
    have hu : ∀ j, S j → j = one := fun j hj => Classical.byContradiction fun z => q ⟨j, one, z, hj, c⟩
    have key : ∀ m : Nat, cnt S m ≤ (if one < m then 1 else 0) := by
      intro m
      induction m with
      | zero => show (0 : Int) ≤ _; split <;> omega
      | succ m ih =>
        by_cases hm : S m
        · have e := hu m hm
          rw [cnt_t hm]
          rw [if_neg (by omega)] at ih
          rw [if_pos (by omega)]
          omega
        · rw [cnt_f hm]
          split at ih
          · rw [if_pos (by omega)]; exact ih
          · split <;> omega
    have k30 := key 30
    have := h.1
    rw [show (30 : Int).toNat = 30 from rfl] at this
    split at k30 <;> omega
end
def me (rho : Int → Nat) (k : Int) : Nat := if 0 ≤ k then rho k + 1 else 0
theorem me_lt {rho : Int → Nat} {k j : Int} (hk : 0 ≤ k) (h : 0 ≤ j → rho j < rho k) : me rho j < me rho k := by
  unfold me
  rw [if_pos hk]
  split
  · have := h (by assumption)
    omega
  · omega
/-- whether a chain comes to t, at any step -/
def rngP (g : Int → Int) (z t : Int) : Prop := ∃ n : Nat, up g z n = t
theorem rng_iff {g : Int → Int} {z t : Int} {nn : Nat} (h : up g z nn = -1) (ht : t ≠ -1) : rngP g z t ↔ ∃ n : Nat, n < nn ∧ up g z n = t := by
  constructor
  · rintro ⟨n, hn⟩
    by_cases h2 : n < nn
    · exact ⟨n, h2, hn⟩
    · have h7 := up_end (g := g) (z := z) (n := nn) h (n - nn)
      rw [show nn + (n - nn) = n by omega] at h7
      exact absurd (hn.symm.trans h7) ht
  · rintro ⟨n, -, hn⟩
    exact ⟨n, hn⟩
theorem mInv_kp {I : Nat → Int} {F : Nat → Int → Int} (h : mInv I F) {z : Int} {g kp : Int → Int} (hg : ∀ f, 0 ≤ f → f < 40 → -5 ≤ kp f ∧ kp f < 30) : mInv (uI I 0 z) (uF (uF F 20 g) 19 kp) := ⟨h.1, h.2.1, h.2.2.1, h.2.2.2.1, h.2.2.2.2.1, h.2.2.2.2.2.1, h.2.2.2.2.2.2.1, h.2.2.2.2.2.2.2.1, h.2.2.2.2.2.2.2.2.1, h.2.2.2.2.2.2.2.2.2.1, hg, h.2.2.2.2.2.2.2.2.2.2.2.1, h.2.2.2.2.2.2.2.2.2.2.2.2.1, h.2.2.2.2.2.2.2.2.2.2.2.2.2⟩
