/-! chains: how long they can be -/
theorem cnt_ins {P : Int → Prop} {v : Int} (hv : ¬ P v) : ∀ n : Nat, cnt (fun k => P k ∨ k = v) n = cnt P n + (if 0 ≤ v ∧ v < n then 1 else 0)
  | 0 => by
    rw [if_neg (by omega)]
    rfl
  | n + 1 => by
    have ih := cnt_ins hv n
    by_cases e : (n : Int) = v
    · rw [cnt_t (P := fun k => P k ∨ k = v) (Or.inr e), cnt_f (P := P) (by rw [e]; exact hv), ih, if_neg (by omega), if_pos (by omega)]
      omega
    · by_cases h : P n
      · rw [cnt_t (P := fun k => P k ∨ k = v) (Or.inl h), cnt_t h, ih]
        by_cases q : 0 ≤ v ∧ v < n
        · rw [if_pos q, if_pos (show 0 ≤ v ∧ v < ((n + 1 : Nat) : Int) by omega)]
        · rw [if_neg q, if_neg (show ¬ (0 ≤ v ∧ v < ((n + 1 : Nat) : Int)) by omega)]; omega
      · rw [cnt_f (P := fun k => P k ∨ k = v) (fun q => q.elim h e), cnt_f h, ih]
        by_cases q : 0 ≤ v ∧ v < n
        · rw [if_pos q, if_pos (by omega)]
        · rw [if_neg q, if_neg (by omega)]
/-- a row of numbers, all in a range -/
def cl (g : Int → Int) (N : Int) : Prop := ∀ f, 0 ≤ f → f < N → -1 ≤ g f ∧ g f < N
def ac (g : Int → Int) (N : Int) : Prop := ∃ rho : Int → Nat, ∀ f, 0 ≤ f → f < N → 0 ≤ g f → rho (g f) < rho f
theorem up_in {g : Int → Int} {N z : Int} (hc : cl g N) (h0 : 0 ≤ z) (h1 : z < N) : ∀ n : Nat, -1 ≤ up g z n ∧ up g z n < N
  | 0 => ⟨by show -1 ≤ z; omega, h1⟩
  | n + 1 => by
    have ih := up_in hc h0 h1 n
    by_cases e : up g z n = -1
    · have : up g z (n + 1) = -1 := up_end e 1
      omega
    · rw [up_go e]
      exact hc _ (by omega) (by omega)
theorem up_ne {g : Int → Int} {z : Int} {n k : Nat} (h : up g z (n + k) ≠ -1) : up g z n ≠ -1 := fun e => h (up_end e k)
theorem up_rho {g : Int → Int} {N z : Int} (hc : cl g N) (h0 : 0 ≤ z) (h1 : z < N) {rho : Int → Nat} (hr : ∀ f, 0 ≤ f → f < N → 0 ≤ g f → rho (g f) < rho f) : ∀ (k n : Nat), up g z (n + k + 1) ≠ -1 → rho (up g z (n + k + 1)) < rho (up g z n)
  | 0, n, h => by
    have h2 : up g z n ≠ -1 := up_ne (k := 1) h
    have e : up g z (n + 0 + 1) = g (up g z n) := up_go h2
    rw [e] at h ⊢
    have a1 := up_in hc h0 h1 n
    have a2 := hc _ (show 0 ≤ up g z n by omega) a1.2
    exact hr _ (by omega) a1.2 (by omega)
  | k + 1, n, h => by
    have h2 : up g z (n + k + 1) ≠ -1 := up_ne (k := 1) h
    have ih := up_rho hc h0 h1 hr k n h2
    have e : up g z (n + (k + 1) + 1) = g (up g z (n + k + 1)) := up_go h2
    rw [e] at h ⊢
    have a1 := up_in hc h0 h1 (n + k + 1)
    have a2 := hc _ (show 0 ≤ up g z (n + k + 1) by omega) a1.2
    exact Nat.lt_trans (hr _ (by omega) a1.2 (by omega)) ih
theorem up_cnt {g : Int → Int} {N : Nat} {z : Int} (hc : cl g N) (h0 : 0 ≤ z) (h1 : z < N) (ha : ac g N) : ∀ n : Nat, (∀ i : Nat, i < n → up g z i ≠ -1) → cnt (fun k => ∃ i : Nat, i < n ∧ up g z i = k) N = n
  | 0, _ => by
    have e : ∀ m : Nat, cnt (fun k => ∃ i : Nat, i < 0 ∧ up g z i = k) m = 0 := by
      intro m
      induction m with
      | zero => rfl
      | succ m ih => rw [cnt_f (fun ⟨i, h, _⟩ => absurd h (Nat.not_lt_zero _)), ih]
    exact e N
  | n + 1, h => by
    obtain ⟨rho, hr⟩ := ha
    have ih := up_cnt hc h0 h1 ⟨rho, hr⟩ n (fun i hi => h i (by omega))
    have hn := h n (Nat.lt_succ_self n)
    have hnew : ¬ (∃ i : Nat, i < n ∧ up g z i = up g z n) := by
      rintro ⟨i, hi, e⟩
      have e2 : n = i + (n - i - 1) + 1 := by omega
      have := up_rho hc h0 h1 hr (n - i - 1) i (by rw [← e2]; exact hn)
      rw [← e2, e] at this
      omega
    have hin := up_in hc h0 h1 n
    have e3 := cnt_ins (P := fun k => ∃ i : Nat, i < n ∧ up g z i = k) (v := up g z n) hnew N
    rw [if_pos (by omega), ih] at e3
    rw [← Int.natCast_succ] at e3
    rw [show ((n + 1 : Nat) : Int) = (n.succ : Int) from rfl, ← e3]
    refine cnt_ext N (fun j _ _ => ⟨?_, ?_⟩)
    · rintro ⟨i, hi, e⟩
      by_cases q : i = n
      · exact Or.inr (by rw [← e, q])
      · exact Or.inl ⟨i, by omega, e⟩
    · rintro (⟨i, hi, e⟩ | e)
      · exact ⟨i, by omega, e⟩
      · exact ⟨n, by omega, e.symm⟩
theorem up_stop {g : Int → Int} {N : Nat} {z : Int} (hc : cl g N) (h0 : 0 ≤ z) (h1 : z < N) (ha : ac g N) : up g z N = -1 := by
  refine Classical.byContradiction fun q => ?_
  have h := up_cnt hc h0 h1 ha (N + 1) (fun i hi => up_ne (k := N - i) (by rw [show i + (N - i) = N by omega]; exact q))
  have := cnt_in (fun k => ∃ i : Nat, i < N + 1 ∧ up g z i = k) N
  omega
theorem up_stop2 {g : Int → Int} {N M : Nat} {z : Int} (hc : cl g N) (h0 : 0 ≤ z) (h1 : z < N) (ha : ac g N) (hM : N ≤ M) : up g z M = -1 := by
  have := up_end (up_stop hc h0 h1 ha) (M - N)
  rw [show N + (M - N) = M by omega] at this
  exact this
theorem up_m1 {g : Int → Int} : ∀ n : Nat, up g (-1) n = -1
  | 0 => rfl
  | n + 1 => if_pos (up_m1 n)
theorem up_cons {g : Int → Int} {z : Int} (hz : z ≠ -1) : ∀ n : Nat, up g z (n + 1) = up g (g z) n
  | 0 => if_neg hz
  | n + 1 => by
    have ih := up_cons (g := g) hz n
    show (if up g z (n + 1) = -1 then -1 else g (up g z (n + 1))) = (if up g (g z) n = -1 then -1 else g (up g (g z) n))
    rw [ih]
theorem up_ext {g g' : Int → Int} {N z : Int} (hc : cl g N) (h0 : 0 ≤ z) (h1 : z < N) (e : ∀ f, 0 ≤ f → f < N → g f = g' f) : ∀ n : Nat, up g z n = up g' z n
  | 0 => rfl
  | n + 1 => by
    have ih := up_ext hc h0 h1 e n
    have hin := up_in hc h0 h1 n
    by_cases q : up g z n = -1
    · rw [show up g z (n + 1) = -1 from up_end q 1, show up g' z (n + 1) = -1 from up_end (ih ▸ q) 1]
    · rw [up_go q, up_go (by rw [← ih]; exact q), ← ih]
      exact e _ (by omega) hin.2
/-- no ring comes in where the new link's end doesn't come to its start -/
theorem ac_up {g : Int → Int} {N p q : Int} (ha : ac g N) (hp : 0 ≤ p) (hn : q = -1 ∨ ¬ rngP g q p) : ac (uA g p q) N := by
  classical
  obtain ⟨rho, hr⟩ := ha
  refine ⟨fun f => rho f + (if rngP g f p then rho q + 1 else 0), fun f h0 h1 h2 => ?_⟩
  by_cases e : f = p
  · subst e
    rw [uA_s] at h2 ⊢
    rcases hn with hn | hn
    · omega
    · show rho q + (if rngP g q f then rho q + 1 else 0) < rho f + (if rngP g f f then rho q + 1 else 0)
      rw [if_neg hn, if_pos (show rngP g f f from ⟨0, rfl⟩)]
      omega
  · rw [uA_n e] at h2 ⊢
    have h3 := hr f h0 h1 h2
    show rho (g f) + (if rngP g (g f) p then rho q + 1 else 0) < rho f + (if rngP g f p then rho q + 1 else 0)
    by_cases r : rngP g (g f) p
    · have r2 : rngP g f p := by
        obtain ⟨n, hn⟩ := r
        exact ⟨n + 1, by rw [up_cons (by omega)]; exact hn⟩
      rw [if_pos r, if_pos r2]
      omega
    · rw [if_neg r]
      omega
theorem bc_stop {od nx : Int → Int} {N : Nat} {z : Int} (hc : cl nx N) (h0 : 0 ≤ z) (h1 : z < N) (ha : ac nx N) {n : Nat} (hn : ¬ (od (bc od nx z n) = 1 ∧ nx (bc od nx z n) ≠ -1)) : bc od nx z N = bc od nx z n := by
  have key : ∀ i : Nat, (∀ j : Nat, j < i → (od (bc od nx z j) = 1 ∧ nx (bc od nx z j) ≠ -1)) → bc od nx z i = up nx z i ∧ bc od nx z i ≠ -1 := by
    intro i
    induction i with
    | zero => exact fun _ => ⟨rfl, show z ≠ -1 by omega⟩
    | succ i ih =>
      intro h
      obtain ⟨a, b⟩ := ih (fun j hj => h j (by omega))
      obtain ⟨c, d⟩ := h i (Nat.lt_succ_self i)
      rw [bc_go c d]
      refine ⟨?_, d⟩
      rw [up_go (by rw [← a]; exact b), a]
  have least : ∃ n0 : Nat, n0 ≤ n ∧ ¬ (od (bc od nx z n0) = 1 ∧ nx (bc od nx z n0) ≠ -1) ∧ ∀ j : Nat, j < n0 → (od (bc od nx z j) = 1 ∧ nx (bc od nx z j) ≠ -1) := by
    clear key
    induction n using Nat.strongRecOn with
    | ind n ih =>
      by_cases q : ∀ j : Nat, j < n → (od (bc od nx z j) = 1 ∧ nx (bc od nx z j) ≠ -1)
      · exact ⟨n, Nat.le_refl n, hn, q⟩
      · obtain ⟨j, hj⟩ := Classical.not_forall.mp q
        obtain ⟨hj1, hj2⟩ := Classical.not_imp.mp hj
        obtain ⟨n0, a, b, c⟩ := ih j hj1 hj2
        exact ⟨n0, by omega, b, c⟩
  obtain ⟨n0, a, b, c⟩ := least
  have hlt : n0 ≤ N := by
    refine Classical.byContradiction fun q => ?_
    obtain ⟨k1, k2⟩ := key N (fun j hj => c j (by omega))
    rw [up_stop hc h0 h1 ha] at k1
    exact k2 k1
  have e1 := bc_stay b (N - n0)
  have e2 := bc_stay b (n - n0)
  rw [show n0 + (N - n0) = N by omega] at e1
  rw [show n0 + (n - n0) = n by omega] at e2
  rw [e1, e2]
theorem bc_ext {od nx od' nx' : Int → Int} {z : Int} (N : Int) (hc : cl nx N) (h0 : 0 ≤ z) (h1 : z < N) (e : ∀ f, 0 ≤ f → f < N → od f = od' f ∧ nx f = nx' f) : ∀ n : Nat, bc od nx z n = bc od' nx' z n ∧ (0 ≤ bc od nx z n ∧ bc od nx z n < N)
  | 0 => ⟨rfl, h0, h1⟩
  | n + 1 => by
    obtain ⟨a, b⟩ := bc_ext N hc h0 h1 e n
    obtain ⟨e1, e2⟩ := e _ b.1 b.2
    by_cases q : od (bc od nx z n) = 1 ∧ nx (bc od nx z n) ≠ -1
    · rw [bc_go q.1 q.2, bc_go (od := od') (nx := nx') (by rw [← a, ← e1]; exact q.1) (by rw [← a, ← e2]; exact q.2), ← a, ← e2]
      have := hc _ b.1 b.2
      exact ⟨rfl, by omega, this.2⟩
    · have q' : ¬ (od' (bc od' nx' z n) = 1 ∧ nx' (bc od' nx' z n) ≠ -1) := by rw [← a, ← e1, ← e2]; exact q
      rw [bc_stay q 1, bc_stay q' 1]
      exact ⟨a, b⟩
/-- every number below the count is the place of one -/
theorem cnt_at {P : Int → Prop} {i : Int} (h0 : 0 ≤ i) : ∀ n : Nat, i < cnt P n → ∃ j : Int, (0 ≤ j ∧ j < n) ∧ P j ∧ cnt P j.toNat = i
  | 0, h => by
    have : cnt P 0 = 0 := rfl
    omega
  | n + 1, h => by
    by_cases q : P n
    · rw [cnt_t q] at h
      by_cases e : i = cnt P n
      · exact ⟨n, by omega, q, by rw [e]; rfl⟩
      · obtain ⟨j, a, b, c⟩ := cnt_at (P := P) h0 n (by omega)
        exact ⟨j, by omega, b, c⟩
    · rw [cnt_f q] at h
      obtain ⟨j, a, b, c⟩ := cnt_at h0 n h
      exact ⟨j, by omega, b, c⟩
theorem ith_ex (P : Int → Prop) (n i : Int) : ∃ r, ith P n i r := by
  by_cases h : ∃ j, 0 ≤ j ∧ j < n ∧ P j ∧ cnt P j.toNat = i
  · obtain ⟨j, h⟩ := h
    exact ⟨j, Or.inl h⟩
  · exact ⟨-1, Or.inr ⟨rfl, fun j h0 h1 h2 h3 => h ⟨j, h0, h1, h2, h3⟩⟩⟩
