theorem va_P0 {D : va_G} {cl : List vw_C} {H : Heap} : va_P D cl [] H := fun k q h => by simp at h
/-! a row and a file: whether the row meets it; the formats that are found; THE FORMAT -/
def fitP (fe off cnt : Int) (pat : Int → Int) (len : Int) (byt : Int → Int) : Prop :=
  0 ≤ (if fe = 1 then len - off else off) ∧ (if fe = 1 then len - off else off) + cnt ≤ len ∧ ∀ j : Int, 0 ≤ j → j < cnt → pat j = 256 ∨ pat j = byt ((if fe = 1 then len - off else off) + j)
def xfit (F : Nat → Int → Int) (r f : Int) : Prop := fitP (F 11 r) (F 12 r) (F 13 r) (fun j => F 14 (r * 12 + j)) (F 15 f) (fun j => F 16 (f * 60 + j))
def fset (fm rk : Int → Int) (P : Int → Prop) (z : Prop) (n k : Int) : Prop := (z ∧ k = 0) ∨ (¬ z ∧ ∃ r : Int, (0 ≤ r ∧ r < n) ∧ P r ∧ fm r = k ∧ ∀ r' : Int, 0 ≤ r' → r' < n → P r' → rk r' ≤ rk r)
def xset (F : Nat → Int → Int) (f n : Int) : Int → Prop := fset (F 9) (F 10) (fun r => xfit F r f) (F 15 f = 0) n
noncomputable def fv (S : Int → Prop) : Int := by
  classical
  exact if (∃ i j, i ≠ j ∧ S i ∧ S j) then -5 else if h : ∃ k, S k then h.choose else -1
theorem fv_two {S : Int → Prop} (h : ∃ i j, i ≠ j ∧ S i ∧ S j) : fv S = -5 := by
  unfold fv
  rw [if_pos h]
theorem fv_none {S : Int → Prop} (h : ∀ k, ¬ S k) : fv S = -1 := by
  unfold fv
  rw [if_neg (fun ⟨i, j, _, h1, _⟩ => h i h1), dif_neg (fun ⟨k, hk⟩ => h k hk)]
theorem fv_one {S : Int → Prop} {k : Int} (h : S k) (hu : ∀ j, S j → j = k) : fv S = k := by
  unfold fv
  have h2 : ∃ k, S k := ⟨k, h⟩
  rw [if_neg (fun ⟨i, j, h0, h1, h2⟩ => h0 ((hu i h1).trans (hu j h2).symm)), dif_pos h2]
  exact hu _ h2.choose_spec
theorem fv_cases (S : Int → Prop) : (fv S = -5 ∧ ∃ i j, i ≠ j ∧ S i ∧ S j) ∨ (fv S = -1 ∧ ∀ k, ¬ S k) ∨ (S (fv S) ∧ ∀ j, S j → j = fv S) := by
  by_cases h : ∃ i j, i ≠ j ∧ S i ∧ S j
  · exact Or.inl ⟨fv_two h, h⟩
  · by_cases h2 : ∃ k, S k
    · obtain ⟨k, hk⟩ := h2
      have hu : ∀ j, S j → j = k := fun j hj => Classical.byContradiction fun q => h ⟨j, k, q, hj, hk⟩
      have e := fv_one hk hu
      exact Or.inr (Or.inr ⟨by rw [e]; exact hk, fun j hj => by rw [e]; exact hu j hj⟩)
    · exact Or.inr (Or.inl ⟨fv_none (fun k hk => h2 ⟨k, hk⟩), fun k hk => h2 ⟨k, hk⟩⟩)
theorem fv_ext {S S' : Int → Prop} (h : ∀ k, S k ↔ S' k) : fv S = fv S' := by
  have e : S = S' := funext fun k => propext (h k)
  rw [e]
theorem fv_in {S : Int → Prop} (h : ∀ k, S k → 0 ≤ k ∧ k < 30) : -5 ≤ fv S ∧ fv S < 30 := by
  rcases fv_cases S with ⟨h1, -⟩ | ⟨h1, -⟩ | ⟨h1, -⟩
  · omega
  · omega
  · have := h _ h1
    omega
/-! how many below, and the i-th -/
noncomputable def cnt (P : Int → Prop) : Nat → Int
  | 0 => 0
  | n + 1 => cnt P n + (by classical exact if P n then 1 else 0)
theorem cnt_t {P : Int → Prop} {n : Nat} (h : P n) : cnt P (n + 1) = cnt P n + 1 := by
  show cnt P n + _ = _
  rw [if_pos h]
theorem cnt_f {P : Int → Prop} {n : Nat} (h : ¬ P n) : cnt P (n + 1) = cnt P n := by
  show cnt P n + _ = _
  rw [if_neg h]
  omega
theorem cnt_in (P : Int → Prop) : ∀ n : Nat, 0 ≤ cnt P n ∧ cnt P n ≤ n
  | 0 => ⟨Int.le_refl _, Int.le_refl _⟩
  | n + 1 => by
    have := cnt_in P n
    by_cases h : P n
    · rw [cnt_t h]; omega
    · rw [cnt_f h]; omega
theorem cnt_zt {P : Int → Prop} {z : Int} (h0 : 0 ≤ z) (h : P z) : cnt P (z + 1).toNat = cnt P z.toNat + 1 := by
  have e : (z + 1).toNat = z.toNat + 1 := by omega
  rw [e]
  exact cnt_t (by rw [show ((z.toNat : Nat) : Int) = z by omega]; exact h)
theorem cnt_zf {P : Int → Prop} {z : Int} (h0 : 0 ≤ z) (h : ¬ P z) : cnt P (z + 1).toNat = cnt P z.toNat := by
  have e : (z + 1).toNat = z.toNat + 1 := by omega
  rw [e]
  exact cnt_f (by rw [show ((z.toNat : Nat) : Int) = z by omega]; exact h)
theorem cnt_ext {P P' : Int → Prop} : ∀ n : Nat, (∀ j : Int, 0 ≤ j → j < n → (P j ↔ P' j)) → cnt P n = cnt P' n
  | 0, _ => rfl
  | n + 1, h => by
    have ih := cnt_ext n (fun j h0 h1 => h j h0 (by omega))
    by_cases hn : P n
    · rw [cnt_t hn, cnt_t ((h n (by omega) (by omega)).mp hn), ih]
    · rw [cnt_f hn, cnt_f (fun q => hn ((h n (by omega) (by omega)).mpr q)), ih]
def ith (P : Int → Prop) (n i r : Int) : Prop := (0 ≤ r ∧ r < n ∧ P r ∧ cnt P r.toNat = i) ∨ (r = -1 ∧ ∀ j, 0 ≤ j → j < n → P j → cnt P j.toNat ≠ i)
theorem cnt_mono {P : Int → Prop} {a b : Nat} (h : a ≤ b) : cnt P a ≤ cnt P b := by
  induction b with
  | zero => rw [show a = 0 by omega]; exact Int.le_refl _
  | succ b ih =>
    by_cases e : a = b + 1
    · rw [e]; exact Int.le_refl _
    · have := ih (by omega)
      by_cases hn : P b
      · rw [cnt_t hn]; omega
      · rw [cnt_f hn]; omega
theorem cnt_lt {P : Int → Prop} {i j : Int} (h0 : 0 ≤ i) (h : i < j) (hi : P i) : cnt P i.toNat < cnt P j.toNat := by
  have h1 := cnt_zt h0 hi
  have h2 := cnt_mono (P := P) (a := (i + 1).toNat) (b := j.toNat) (by omega)
  omega
theorem ith_un {P : Int → Prop} {n i r r' : Int} (h : ith P n i r) (h' : ith P n i r') : r = r' := by
  rcases h with ⟨a1, a2, a3, a4⟩ | ⟨a1, a2⟩ <;> rcases h' with ⟨b1, b2, b3, b4⟩ | ⟨b1, b2⟩
  · rcases Int.lt_trichotomy r r' with q | q | q
    · have := cnt_lt a1 q a3; omega
    · exact q
    · have := cnt_lt b1 q b3; omega
  · exact absurd a4 (b2 r a1 a2 a3)
  · exact absurd b4 (a2 r' b1 b2 b3)
  · omega
theorem ith_ext {P P' : Int → Prop} {n i r : Int} (hn : 0 ≤ n) (e : ∀ j, 0 ≤ j → j < n → (P j ↔ P' j)) (h : ith P n i r) : ith P' n i r := by
  have ec : ∀ j : Int, 0 ≤ j → j < n → cnt P j.toNat = cnt P' j.toNat := fun j h0 h1 => cnt_ext _ (fun q q0 q1 => e q q0 (by omega))
  rcases h with ⟨a1, a2, a3, a4⟩ | ⟨a1, a2⟩
  · exact Or.inl ⟨a1, a2, (e r a1 a2).mp a3, by rw [← ec r a1 a2]; exact a4⟩
  · exact Or.inr ⟨a1, fun j h0 h1 h2 => by rw [← ec j h0 h1]; exact a2 j h0 h1 ((e j h0 h1).mpr h2)⟩
/-! sets of formats as bits of an int -/
def bt (M k : Int) : Prop := ¬ (iI M &&& ((iI 1) <<< (iI k &&& 31))) = 0
theorem bt_sh : ∀ j : Fin 32, ((iI 1) <<< (iI (j.val : Int) &&& 31)).toBitVec = BitVec.twoPow 32 j.val := by decide +kernel
theorem bt_sh' {k : Int} (h0 : 0 ≤ k) (h1 : k < 32) : ((iI 1) <<< (iI k &&& 31)).toBitVec = BitVec.twoPow 32 k.toNat := by
  have := bt_sh ⟨k.toNat, by omega⟩
  rw [show (((⟨k.toNat, by omega⟩ : Fin 32).val : Nat) : Int) = k by simp; omega] at this
  exact this
theorem bt_iff {M k : Int} (h0 : 0 ≤ k) (h1 : k < 32) : bt M k ↔ (iI M).toBitVec.getLsbD k.toNat = true := by
  unfold bt
  have e : (iI M &&& ((iI 1) <<< (iI k &&& 31))) = 0 ↔ (iI M).toBitVec.getLsbD k.toNat = false := by
    rw [← Int32.toBitVec_inj, Int32.toBitVec_and, bt_sh' h0 h1, BitVec.and_twoPow]
    cases (iI M).toBitVec.getLsbD k.toNat with
    | false => simp
    | true =>
      simp
      intro hz
      have := congrArg (fun b : BitVec 32 => b.getLsbD k.toNat) hz
      simp [BitVec.getLsbD_twoPow] at this
      omega
  rw [e]
  cases (iI M).toBitVec.getLsbD k.toNat <;> simp
theorem bt_or {M z k : Int} (hz0 : 0 ≤ z) (hz1 : z < 32) (h0 : 0 ≤ k) (h1 : k < 32) : bt (iI M ||| ((iI 1) <<< (iI z &&& 31))).toInt k ↔ bt M k ∨ k = z := by
  rw [bt_iff h0 h1, bt_iff h0 h1, iI_self, Int32.toBitVec_or, bt_sh' hz0 hz1, BitVec.getLsbD_or, BitVec.getLsbD_twoPow]
  have e : (decide (k.toNat < 32) && decide (z.toNat = k.toNat)) = decide (k = z) := by
    by_cases h : k = z
    · subst h
      have : k.toNat < 32 := by omega
      simp [this]
    · have : z.toNat ≠ k.toNat := by omega
      simp [h, this]
  cases (iI M).toBitVec.getLsbD k.toNat with
  | true => simp
  | false =>
    simp only [Bool.false_or, Bool.false_eq_true, false_or]
    rw [show (decide (z.toNat = k.toNat)) = decide (k = z) by
      by_cases h : k = z
      · subst h; simp
      · have : z.toNat ≠ k.toNat := by omega
        simp [h, this]]
    simp
    omega
theorem bt_0 : ∀ k : Int, 0 ≤ k → k < 32 → ¬ bt 0 k := by
  intro k h0 h1
  rw [bt_iff h0 h1]
  rw [show (iI 0).toBitVec = 0#32 by decide +kernel]
  simp
theorem bt_1 : ∀ k : Int, 0 ≤ k → k < 32 → (bt 1 k ↔ k = 0) := by
  intro k h0 h1
  rw [bt_iff h0 h1]
  rw [show (iI 1).toBitVec = BitVec.twoPow 32 0 by decide +kernel, BitVec.getLsbD_twoPow]
  simp
  omega
def bits (M : Int) (S : Int → Prop) : Prop := (-2147483648 ≤ M ∧ M < 2147483648) ∧ (∀ k, 0 ≤ k → k < 32 → (bt M k ↔ S k)) ∧ ∀ k, S k → 0 ≤ k ∧ k < 30
theorem bits_0 {S : Int → Prop} (h : ∀ k, ¬ S k) : bits 0 S := ⟨by omega, fun k h0 h1 => ⟨fun q => absurd q (bt_0 k h0 h1), fun q => absurd q (h k)⟩, fun k q => absurd q (h k)⟩
theorem bits_1 {S : Int → Prop} (h : ∀ k, S k ↔ k = 0) : bits 1 S := ⟨by omega, fun k h0 h1 => (bt_1 k h0 h1).trans (h k).symm, fun k q => by have := (h k).mp q; omega⟩
theorem bits_or {M z : Int} {S S' : Int → Prop} (h : bits M S) (h0 : 0 ≤ z) (h1 : z < 30) (e : ∀ k, S' k ↔ S k ∨ k = z) : bits (iI M ||| ((iI 1) <<< (iI z &&& 31))).toInt S' :=
  ⟨⟨Int32.le_toInt _, Int32.toInt_lt _⟩, fun k k0 k1 => by rw [bt_or h0 (by omega) k0 k1, h.2.1 k k0 k1]; exact (e k).symm, fun k q => by
    rcases (e k).mp q with q | q
    · exact h.2.2 k q
    · omega⟩
theorem bits_ext {M : Int} {S S' : Int → Prop} (h : bits M S) (e : ∀ k, S k ↔ S' k) : bits M S' := ⟨h.1, fun k h0 h1 => (h.2.1 k h0 h1).trans (e k), fun k q => h.2.2 k ((e k).mpr q)⟩
/-! chains -/
def up (g : Int → Int) (z : Int) : Nat → Int
  | 0 => z
  | n + 1 => if up g z n = -1 then -1 else g (up g z n)
def bc (od nx : Int → Int) (z : Int) : Nat → Int
  | 0 => z
  | n + 1 => if od (bc od nx z n) = 1 ∧ nx (bc od nx z n) ≠ -1 then nx (bc od nx z n) else bc od nx z n
theorem bc_stay {od nx : Int → Int} {z : Int} {n : Nat} (h : ¬ (od (bc od nx z n) = 1 ∧ nx (bc od nx z n) ≠ -1)) : ∀ k : Nat, bc od nx z (n + k) = bc od nx z n
  | 0 => rfl
  | k + 1 => by
    show (if od (bc od nx z (n + k)) = 1 ∧ nx (bc od nx z (n + k)) ≠ -1 then nx (bc od nx z (n + k)) else bc od nx z (n + k)) = _
    rw [bc_stay h k, if_neg h]
theorem bc_go {od nx : Int → Int} {z : Int} {n : Nat} (h1 : od (bc od nx z n) = 1) (h2 : nx (bc od nx z n) ≠ -1) : bc od nx z (n + 1) = nx (bc od nx z n) := if_pos ⟨h1, h2⟩
theorem up_go {g : Int → Int} {z : Int} {n : Nat} (h : up g z n ≠ -1) : up g z (n + 1) = g (up g z n) := if_neg h
theorem up_end {g : Int → Int} {z : Int} {n : Nat} (h : up g z n = -1) : ∀ k : Nat, up g z (n + k) = -1
  | 0 => h
  | k + 1 => if_pos (up_end h k)
/-- the latest container row that holds -/
noncomputable def tg (cf cw ct : Int → Int) (fm : Int) (P : Int → Prop) : Nat → Int
  | 0 => fm
  | n + 1 => by classical exact if cf n = fm ∧ P (cw n) then ct n else tg cf cw ct fm P n
theorem tg_t {cf cw ct : Int → Int} {fm : Int} {P : Int → Prop} {n : Nat} (h1 : cf n = fm) (h2 : P (cw n)) : tg cf cw ct fm P (n + 1) = ct n := if_pos ⟨h1, h2⟩
theorem tg_f {cf cw ct : Int → Int} {fm : Int} {P : Int → Prop} {n : Nat} (h : ¬ (cf n = fm ∧ P (cw n))) : tg cf cw ct fm P (n + 1) = tg cf cw ct fm P n := if_neg h
theorem tg_ext {cf cw ct cf' cw' ct' : Int → Int} {fm : Int} {P P' : Int → Prop} : ∀ n : Nat, (∀ i : Int, 0 ≤ i → i < n → cf i = cf' i ∧ ct i = ct' i ∧ (P (cw i) ↔ P' (cw' i))) → tg cf cw ct fm P n = tg cf' cw' ct' fm P' n
  | 0, _ => rfl
  | n + 1, h => by
    have ih := tg_ext (fm := fm) n (fun i h0 h1 => h i h0 (by omega))
    obtain ⟨e1, e2, e3⟩ := h n (by omega) (by omega)
    by_cases q : cf n = fm ∧ P (cw n)
    · rw [tg_t q.1 q.2, tg_t (by rw [← e1]; exact q.1) (e3.mp q.2), e2]
    · rw [tg_f q, tg_f (fun z => q ⟨by rw [e1]; exact z.1, e3.mpr z.2⟩), ih]
/-- THE DEEP FORMAT, looked into so many times more -/
noncomputable def dv (fm pr : Int → Int) (nF : Int) (cf cw ct : Int → Int) (nC : Nat) : Nat → Int → Int
  | 0, f => fm f
  | d + 1, f => if 0 ≤ fm f then tg cf cw ct (fm f) (fun w => ∃ o, (0 ≤ o ∧ o < nF) ∧ pr o = f ∧ dv fm pr nF cf cw ct nC d o = w) nC else fm f
/-! what holds of every state of an object of the class -/
def xInv (I : Nat → Int) (F : Nat → Int → Int) : Prop :=
  ((0 ≤ I 8 ∧ I 8 ≤ 60) ∧ (0 ≤ I 9 ∧ I 9 ≤ 40) ∧ (0 ≤ I 10 ∧ I 10 ≤ 20) ∧ (0 ≤ I 1 ∧ I 1 ≤ 60)) ∧
  (∀ q, 0 ≤ q → q < I 1 → 0 ≤ F 7 q ∧ F 7 q < 256) ∧
  (∀ r, 0 ≤ r → r < I 8 → (0 ≤ F 9 r ∧ F 9 r < 30) ∧ (0 ≤ F 10 r ∧ F 10 r < 10) ∧ (F 11 r = 0 ∨ F 11 r = 1) ∧ (0 ≤ F 12 r ∧ F 12 r < 1000) ∧ (1 ≤ F 13 r ∧ F 13 r ≤ 12)) ∧
  (∀ r j, 0 ≤ r → r < I 8 → 0 ≤ j → j < F 13 r → 0 ≤ F 14 (r * 12 + j) ∧ F 14 (r * 12 + j) ≤ 256) ∧
  (∀ f, 0 ≤ f → f < 40 → (0 ≤ F 15 f ∧ F 15 f ≤ 60) ∧ (0 ≤ F 17 f ∧ F 17 f ≤ 8)) ∧
  (∀ f j, 0 ≤ f → f < I 9 → 0 ≤ j → j < F 15 f → 0 ≤ F 16 (f * 60 + j) ∧ F 16 (f * 60 + j) < 256) ∧
  (∀ f, 0 ≤ f → f < I 9 → -1 ≤ F 18 f ∧ F 18 f < I 9) ∧
  (∀ f, I 9 ≤ f → f < 40 → F 15 f = 0 ∧ F 17 f = 0) ∧
  (∀ i, 0 ≤ i → i < I 10 → (0 ≤ F 19 i ∧ F 19 i < 30) ∧ (0 ≤ F 20 i ∧ F 20 i < 30) ∧ (0 ≤ F 21 i ∧ F 21 i < 30)) ∧
  (∀ i, 0 ≤ i → i < 30 → (F 22 i = 0 ∨ F 22 i = 1) ∧ (-1 ≤ F 23 i ∧ F 23 i < 30)) ∧
  (∀ f, 0 ≤ f → f < 40 → -5 ≤ F 6 f ∧ F 6 f < 30)
section
variable {I : Nat → Int} {F : Nat → Int → Int}
theorem xInv.n (h : xInv I F) : (0 ≤ I 8 ∧ I 8 ≤ 60) ∧ (0 ≤ I 9 ∧ I 9 ≤ 40) ∧ (0 ≤ I 10 ∧ I 10 ≤ 20) ∧ (0 ≤ I 1 ∧ I 1 ≤ 60) := h.1
theorem xInv.sg (h : xInv I F) : ∀ q, 0 ≤ q → q < I 1 → 0 ≤ F 7 q ∧ F 7 q < 256 := h.2.1
theorem xInv.rw (h : xInv I F) : ∀ r, 0 ≤ r → r < I 8 → (0 ≤ F 9 r ∧ F 9 r < 30) ∧ (0 ≤ F 10 r ∧ F 10 r < 10) ∧ (F 11 r = 0 ∨ F 11 r = 1) ∧ (0 ≤ F 12 r ∧ F 12 r < 1000) ∧ (1 ≤ F 13 r ∧ F 13 r ≤ 12) := h.2.2.1
theorem xInv.pt (h : xInv I F) : ∀ r j, 0 ≤ r → r < I 8 → 0 ≤ j → j < F 13 r → 0 ≤ F 14 (r * 12 + j) ∧ F 14 (r * 12 + j) ≤ 256 := h.2.2.2.1
theorem xInv.fl (h : xInv I F) : ∀ f, 0 ≤ f → f < 40 → (0 ≤ F 15 f ∧ F 15 f ≤ 60) ∧ (0 ≤ F 17 f ∧ F 17 f ≤ 8) := h.2.2.2.2.1
theorem xInv.byt (h : xInv I F) : ∀ f j, 0 ≤ f → f < I 9 → 0 ≤ j → j < F 15 f → 0 ≤ F 16 (f * 60 + j) ∧ F 16 (f * 60 + j) < 256 := h.2.2.2.2.2.1
theorem xInv.pr (h : xInv I F) : ∀ f, 0 ≤ f → f < I 9 → -1 ≤ F 18 f ∧ F 18 f < I 9 := h.2.2.2.2.2.2.1
theorem xInv.nw (h : xInv I F) : ∀ f, I 9 ≤ f → f < 40 → F 15 f = 0 ∧ F 17 f = 0 := h.2.2.2.2.2.2.2.1
theorem xInv.cn (h : xInv I F) : ∀ i, 0 ≤ i → i < I 10 → (0 ≤ F 19 i ∧ F 19 i < 30) ∧ (0 ≤ F 20 i ∧ F 20 i < 30) ∧ (0 ≤ F 21 i ∧ F 21 i < 30) := h.2.2.2.2.2.2.2.2.1
theorem xInv.mg (h : xInv I F) : ∀ i, 0 ≤ i → i < 30 → (F 22 i = 0 ∨ F 22 i = 1) ∧ (-1 ≤ F 23 i ∧ F 23 i < 30) := h.2.2.2.2.2.2.2.2.2.1
theorem xInv.kp (h : xInv I F) : ∀ f, 0 ≤ f → f < 40 → -5 ≤ F 6 f ∧ F 6 f < 30 := h.2.2.2.2.2.2.2.2.2.2
end
section
variable {p : Program} {l : Launch} {e : Env} {R : Room} {s : State} {m : MethodId} {args : Array Value} {below : List Frame} {meth : Method} {c : Code} {H : Heap} {locs : List Loc} {cells slots : Nat} {Q : State → Prop}
variable {cc : ByteArray} {pc : Nat} {ls : Array Slot} {rest : List Value}
theorem xr_mand (hexec : p.tables.exec = Jvm.exec) (hb : c.code = cc) {M z : Int} (hdg : decode cc pc = .ok (.iand, 1)) (kk : ∀ v : Int, (-2147483648 ≤ v ∧ v < 2147483648) → (v = 0 ↔ ¬ bt M z) → W p l e R s m args below meth c H locs cells slots Q (F0 m (pc + 1) ls (.int (iI v) :: rest))) : W p l e R s m args below meth c H locs cells slots Q (F0 m pc ls (.int ((iI 1) <<< (iI z &&& 31)) :: .int (iI M) :: rest)) := by
  refine lv_iand hexec hb hdg ?_
  have k := kk (iI M &&& ((iI 1) <<< (iI z &&& 31))).toInt ⟨Int32.le_toInt _, Int32.toInt_lt _⟩ (by
    unfold bt
    rw [Classical.not_not, ← Int32.toInt_inj]
    rfl)
  rw [iI_self] at k
  exact k
theorem xr_mor (hexec : p.tables.exec = Jvm.exec) (hb : c.code = cc) {M z : Int} (hdg : decode cc pc = .ok (.ior, 1)) (kk : W p l e R s m args below meth c H locs cells slots Q (F0 m (pc + 1) ls (.int (iI (iI M ||| ((iI 1) <<< (iI z &&& 31))).toInt) :: rest))) : W p l e R s m args below meth c H locs cells slots Q (F0 m pc ls (.int ((iI 1) <<< (iI z &&& 31)) :: .int (iI M) :: rest)) := by
  refine lv_ior hexec hb hdg ?_
  rw [iI_self] at kk
  exact kk
end
