/-! the reading of a row's text T of n signs -/
def lk (T : Int → Int) (n i : Int) : Int := if 0 ≤ i ∧ i < n then T i else -1
def txt (T : Int → Int) (n : Int) : Prop := (0 ≤ n ∧ n ≤ 60) ∧ ∀ q, 0 ≤ q → q < n → 0 ≤ T q ∧ T q < 256
theorem lk_in {T : Int → Int} {n : Int} (h : txt T n) (i : Int) : -1 ≤ lk T n i ∧ lk T n i < 256 := by
  unfold lk
  split
  · have := h.2 i (by omega) (by omega)
    omega
  · omega
theorem lk_lt {T : Int → Int} {n i : Int} (h : lk T n i ≠ -1) : 0 ≤ i ∧ i < n := by
  unfold lk at h
  split at h
  · assumption
  · exact absurd rfl h
theorem lk_of {T : Int → Int} {n i r : Int} (h : (0 ≤ i ∧ i < n ∧ r = T i) ∨ (¬ (0 ≤ i ∧ i < n) ∧ r = -1)) : r = lk T n i := by
  unfold lk
  rcases h with ⟨h0, h1, h2⟩ | ⟨h0, h2⟩
  · rw [if_pos ⟨h0, h1⟩, h2]
  · rw [if_neg h0, h2]
def dg (c : Int) : Prop := 48 ≤ c ∧ c ≤ 57
/-- how many digits stand from i on -/
def rlf (T : Int → Int) (n : Int) : Nat → Int → Int
  | 0, _ => 0
  | f + 1, i => if 48 ≤ lk T n i ∧ lk T n i ≤ 57 then 1 + rlf T n f (i + 1) else 0
def rl (T : Int → Int) (n i : Int) : Int := rlf T n (n - i).toNat i
theorem rlf_run {T : Int → Int} {n : Int} : ∀ (f : Nat) (i k : Int), (n - i).toNat ≤ f → 0 ≤ k → (∀ j, 0 ≤ j → j < k → dg (lk T n (i + j))) → ¬ dg (lk T n (i + k)) → rlf T n f i = k
  | 0, i, k, hf, h0, h1, h2 => by
    by_cases e : k = 0
    · rw [e]; rfl
    · have := h1 0 (by omega) (by omega)
      rw [show i + 0 = i by omega] at this
      have h3 := lk_lt (T := T) (n := n) (i := i) (by unfold dg at this; omega)
      omega
  | f + 1, i, k, hf, h0, h1, h2 => by
    unfold rlf
    by_cases e : k = 0
    · rw [e, show i + 0 = i by omega] at h2
      rw [if_neg (show ¬ (48 ≤ lk T n i ∧ lk T n i ≤ 57) from h2), e]
    · have h3 := h1 0 (by omega) (by omega)
      rw [show i + 0 = i by omega] at h3
      rw [if_pos (show 48 ≤ lk T n i ∧ lk T n i ≤ 57 from h3), rlf_run f (i + 1) (k - 1) (by omega) (by omega) (fun j j0 j1 => by
        have := h1 (j + 1) (by omega) (by omega)
        rw [show i + (j + 1) = i + 1 + j by omega] at this
        exact this) (by rw [show i + 1 + (k - 1) = i + k by omega]; exact h2)]
      omega
theorem rl_run {T : Int → Int} {n i k : Int} (h0 : 0 ≤ k) (h1 : ∀ j, 0 ≤ j → j < k → dg (lk T n (i + j))) (h2 : ¬ dg (lk T n (i + k))) : rl T n i = k := rlf_run _ i k (Nat.le_refl _) h0 h1 h2
theorem rlf_in {T : Int → Int} {n : Int} : ∀ (f : Nat) (i : Int), 0 ≤ i → i ≤ n → 0 ≤ rlf T n f i ∧ i + rlf T n f i ≤ n
  | 0, i, h0, h1 => ⟨Int.le_refl _, by unfold rlf; omega⟩
  | f + 1, i, h0, h1 => by
    unfold rlf
    split
    · have h3 := lk_lt (T := T) (n := n) (i := i) (by omega)
      have := rlf_in (T := T) (n := n) f (i + 1) (by omega) (by omega)
      omega
    · omega
theorem rl_in {T : Int → Int} {n i : Int} (h0 : 0 ≤ i) (h1 : i ≤ n) : 0 ≤ rl T n i ∧ i + rl T n i ≤ n := rlf_in _ i h0 h1
/-- the number that the digits from i on are -/
def nv (T : Int → Int) (i : Int) : Nat → Int
  | 0 => 0
  | k + 1 => nv T i k * 10 + T (i + k) - 48
theorem nv_in {T : Int → Int} {i : Int} : ∀ k : Nat, (∀ j : Int, 0 ≤ j → j < k → 48 ≤ T (i + j) ∧ T (i + j) ≤ 57) → 0 ≤ nv T i k ∧ nv T i k < (10 ^ k : Nat)
  | 0, _ => ⟨Int.le_refl _, by show (0 : Int) < 1; decide⟩
  | k + 1, h => by
    have ih := nv_in k (fun j h0 h1 => h j h0 (by omega))
    have h1 := h k (by omega) (by omega)
    have e : ((10 ^ (k + 1) : Nat) : Int) = 10 * ((10 ^ k : Nat) : Int) := by
      rw [Nat.pow_succ]
      omega
    rw [e]
    unfold nv
    omega
theorem dg_T {T : Int → Int} {n i : Int} (h : dg (lk T n i)) : 48 ≤ T i ∧ T i ≤ 57 := by
  have h2 := lk_lt (T := T) (n := n) (i := i) (by unfold dg at h; omega)
  unfold dg lk at h
  rw [if_pos h2] at h
  exact h
theorem nv_3 {T : Int → Int} {i : Int} {k : Nat} (hk : k ≤ 3) (h : ∀ j : Int, 0 ≤ j → j < k → 48 ≤ T (i + j) ∧ T (i + j) ≤ 57) : 0 ≤ nv T i k ∧ nv T i k < 1000 := by
  have h1 := nv_in k h
  have h2 : (10 ^ k : Nat) ≤ 10 ^ 3 := Nat.pow_le_pow_right (by omega) hk
  omega
def nOk (T : Int → Int) (n i mx lim : Int) : Prop := 1 ≤ rl T n i ∧ rl T n i ≤ mx ∧ nv T i (rl T n i).toNat < lim
theorem rlf_dg {T : Int → Int} {n : Int} : ∀ (f : Nat) (i j : Int), 0 ≤ j → j < rlf T n f i → dg (lk T n (i + j))
  | 0, i, j, h0, h1 => by unfold rlf at h1; omega
  | f + 1, i, j, h0, h1 => by
    unfold rlf at h1
    split at h1
    · by_cases e : j = 0
      · rw [e, show i + 0 = i by omega]; assumption
      · have := rlf_dg (T := T) (n := n) f (i + 1) (j - 1) (by omega) (by omega)
        rw [show i + 1 + (j - 1) = i + j by omega] at this
        exact this
    · omega
theorem nOk_in {T : Int → Int} {n i mx lim : Int} (h : nOk T n i mx lim) (hm : mx ≤ 3) : 0 ≤ nv T i (rl T n i).toNat ∧ nv T i (rl T n i).toNat < lim := by
  refine ⟨(nv_3 (k := (rl T n i).toNat) (by have := h.2.1; omega) (fun j j0 j1 => dg_T (rlf_dg _ i j j0 (by unfold nOk at h; show j < rl T n i; omega)))).1, h.2.2⟩
/-- two signs that are a place -/
def hxv (c : Int) : Int := if 48 ≤ c ∧ c ≤ 57 then c - 48 else if 97 ≤ c ∧ c ≤ 102 then c - 87 else -1
theorem hx_of {c r : Int} (h : (48 ≤ c ∧ c ≤ 57 ∧ r = c - 48) ∨ (97 ≤ c ∧ c ≤ 102 ∧ r = c - 87) ∨ (¬ (48 ≤ c ∧ c ≤ 57) ∧ ¬ (97 ≤ c ∧ c ≤ 102) ∧ r = -1)) : r = hxv c := by
  unfold hxv
  rcases h with ⟨h0, h1, h2⟩ | ⟨h0, h1, h2⟩ | ⟨h0, h1, h2⟩
  · rw [if_pos ⟨h0, h1⟩, h2]
  · rw [if_neg (by omega), if_pos ⟨h0, h1⟩, h2]
  · rw [if_neg h0, if_neg h1, h2]
theorem hx_in (c : Int) : -1 ≤ hxv c ∧ hxv c < 16 := by
  unfold hxv
  split
  · omega
  · split <;> omega
theorem hx_63 : hxv 63 = -1 := by decide
theorem hx_m1 : hxv (-1) = -1 := by decide
def pOk (T : Int → Int) (n i : Int) : Prop := (lk T n i = 63 ∧ lk T n (i + 1) = 63) ∨ (hxv (lk T n i) ≠ -1 ∧ hxv (lk T n (i + 1)) ≠ -1)
def pF (T : Int → Int) (n i : Int) : Int := if lk T n i = 63 ∨ hxv (lk T n i) ≠ -1 then i + 1 else i
def pV (T : Int → Int) (n i : Int) : Int := if lk T n i = 63 then 256 else hxv (lk T n i) * 16 + hxv (lk T n (i + 1))
theorem pV_in {T : Int → Int} {n i : Int} (h : pOk T n i) : 0 ≤ pV T n i ∧ pV T n i ≤ 256 := by
  have h1 := hx_in (lk T n i)
  have h2 := hx_in (lk T n (i + 1))
  unfold pV
  split
  · omega
  · rcases h with h | h
    · omega
    · omega
theorem pOk_lt {T : Int → Int} {n i : Int} (h : pOk T n i) : 0 ≤ i ∧ i + 1 < n := by
  rcases h with ⟨h1, h2⟩ | ⟨h1, h2⟩
  · have a := lk_lt (T := T) (n := n) (i := i) (by omega)
    have b := lk_lt (T := T) (n := n) (i := i + 1) (by omega)
    omega
  · have a := lk_lt (T := T) (n := n) (i := i) (fun q => h1 (by rw [q]; rfl))
    have b := lk_lt (T := T) (n := n) (i := i + 1) (fun q => h2 (by rw [q]; rfl))
    omega
/-- the places, from i on, j of them read: whether all is right, where the reading ends, how many -/
noncomputable def plA (T : Int → Int) (n : Int) : Nat → Int → Int → Int × Int × Int
  | 0, i, j => (0, i, j)
  | f + 1, i, j => by classical exact if pOk T n i then (if j + 1 < 12 ∧ i + 2 < n then plA T n f (i + 2) (j + 1) else (if i + 2 = n then 1 else 0, i + 2, j + 1)) else (0, pF T n i, j)
theorem plA_no {T : Int → Int} {n : Int} {f : Nat} {i j : Int} (h : ¬ pOk T n i) : plA T n (f + 1) i j = (0, pF T n i, j) := if_neg h
theorem plA_go {T : Int → Int} {n : Int} {f : Nat} {i j : Int} (h : pOk T n i) (h2 : j + 1 < 12 ∧ i + 2 < n) : plA T n (f + 1) i j = plA T n f (i + 2) (j + 1) := by
  exact (if_pos h).trans (if_pos h2)
theorem plA_end {T : Int → Int} {n : Int} {f : Nat} {i j : Int} (h : pOk T n i) (h2 : ¬ (j + 1 < 12 ∧ i + 2 < n)) : plA T n (f + 1) i j = (if i + 2 = n then 1 else 0, i + 2, j + 1) := by
  exact (if_pos h).trans (if_neg h2)
/-- the head of a row: where it is wrong, or where its pattern begins -/
def hq1 (T : Int → Int) (n : Int) : Int := rl T n 0
def hq2 (T : Int → Int) (n : Int) : Int := hq1 T n + 1 + rl T n (hq1 T n + 1)
def hq3 (T : Int → Int) (n : Int) : Int := hq2 T n + 2 + rl T n (hq2 T n + 2)
noncomputable def hdA (T : Int → Int) (n : Int) : Int × Int := by
  classical
  exact if ¬ nOk T n 0 2 30 then (0, 0) else if lk T n (hq1 T n) ≠ 32 then (0, hq1 T n) else if ¬ nOk T n (hq1 T n + 1) 1 10 then (0, hq1 T n + 1) else if lk T n (hq2 T n) ≠ 32 then (0, hq2 T n)
    else if lk T n (hq2 T n + 1) ≠ 64 ∧ lk T n (hq2 T n + 1) ≠ 45 then (0, hq2 T n + 1) else if ¬ nOk T n (hq2 T n + 2) 3 1000 then (0, hq2 T n + 2) else if lk T n (hq3 T n) ≠ 32 then (0, hq3 T n) else (1, hq3 T n + 1)
/-- the whole reading: right or wrong, the place, how many places -/
noncomputable def rdA (T : Int → Int) (n : Int) : Int × Int × Int := if (hdA T n).1 = 1 then plA T n 12 (hdA T n).2 0 else (0, (hdA T n).2, 0)
section
variable {T : Int → Int} {n : Int}
theorem hd_1 (a : ¬ nOk T n 0 2 30) : hdA T n = (0, 0) := by unfold hdA; rw [if_pos a]
theorem hd_2 (a : nOk T n 0 2 30) (b : lk T n (hq1 T n) ≠ 32) : hdA T n = (0, hq1 T n) := by unfold hdA; rw [if_neg (not_not_intro a), if_pos b]
theorem hd_3 (a : nOk T n 0 2 30) (b : lk T n (hq1 T n) = 32) (c : ¬ nOk T n (hq1 T n + 1) 1 10) : hdA T n = (0, hq1 T n + 1) := by unfold hdA; rw [if_neg (not_not_intro a), if_neg (not_not_intro b), if_pos c]
theorem hd_4 (a : nOk T n 0 2 30) (b : lk T n (hq1 T n) = 32) (c : nOk T n (hq1 T n + 1) 1 10) (d : lk T n (hq2 T n) ≠ 32) : hdA T n = (0, hq2 T n) := by unfold hdA; rw [if_neg (not_not_intro a), if_neg (not_not_intro b), if_neg (not_not_intro c), if_pos d]
theorem hd_5 (a : nOk T n 0 2 30) (b : lk T n (hq1 T n) = 32) (c : nOk T n (hq1 T n + 1) 1 10) (d : lk T n (hq2 T n) = 32) (e : lk T n (hq2 T n + 1) ≠ 64 ∧ lk T n (hq2 T n + 1) ≠ 45) : hdA T n = (0, hq2 T n + 1) := by unfold hdA; rw [if_neg (not_not_intro a), if_neg (not_not_intro b), if_neg (not_not_intro c), if_neg (not_not_intro d), if_pos e]
theorem hd_6 (a : nOk T n 0 2 30) (b : lk T n (hq1 T n) = 32) (c : nOk T n (hq1 T n + 1) 1 10) (d : lk T n (hq2 T n) = 32) (e : ¬ (lk T n (hq2 T n + 1) ≠ 64 ∧ lk T n (hq2 T n + 1) ≠ 45)) (f : ¬ nOk T n (hq2 T n + 2) 3 1000) : hdA T n = (0, hq2 T n + 2) := by unfold hdA; rw [if_neg (not_not_intro a), if_neg (not_not_intro b), if_neg (not_not_intro c), if_neg (not_not_intro d), if_neg e, if_pos f]
theorem hd_7 (a : nOk T n 0 2 30) (b : lk T n (hq1 T n) = 32) (c : nOk T n (hq1 T n + 1) 1 10) (d : lk T n (hq2 T n) = 32) (e : ¬ (lk T n (hq2 T n + 1) ≠ 64 ∧ lk T n (hq2 T n + 1) ≠ 45)) (f : nOk T n (hq2 T n + 2) 3 1000) (g : lk T n (hq3 T n) ≠ 32) : hdA T n = (0, hq3 T n) := by unfold hdA; rw [if_neg (not_not_intro a), if_neg (not_not_intro b), if_neg (not_not_intro c), if_neg (not_not_intro d), if_neg e, if_neg (not_not_intro f), if_pos g]
theorem hd_8 (a : nOk T n 0 2 30) (b : lk T n (hq1 T n) = 32) (c : nOk T n (hq1 T n + 1) 1 10) (d : lk T n (hq2 T n) = 32) (e : ¬ (lk T n (hq2 T n + 1) ≠ 64 ∧ lk T n (hq2 T n + 1) ≠ 45)) (f : nOk T n (hq2 T n + 2) 3 1000) (g : lk T n (hq3 T n) = 32) : hdA T n = (1, hq3 T n + 1) := by unfold hdA; rw [if_neg (not_not_intro a), if_neg (not_not_intro b), if_neg (not_not_intro c), if_neg (not_not_intro d), if_neg e, if_neg (not_not_intro f), if_neg (not_not_intro g)]
theorem rd_no {i : Int} (h : hdA T n = (0, i)) : rdA T n = (0, i, 0) := by
  unfold rdA
  rw [h]
  rfl
theorem rd_go {i : Int} (h : hdA T n = (1, i)) : rdA T n = plA T n 12 i 0 := by
  unfold rdA
  rw [h]
  rfl
end
