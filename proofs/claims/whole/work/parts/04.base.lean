/-! numbers: every int of the walk is iI of a whole number -/
def iI (z : Int) : Int32 := Int32.ofInt z
theorem iI_toInt {z : Int} (h : -2147483648 ≤ z ∧ z < 2147483648) : (iI z).toInt = z := by
  exact Int32.toInt_ofInt_of_le (by omega) (by omega)
theorem iI_self (x : Int32) : iI x.toInt = x := Int32.ofInt_toInt x
theorem iI_of (x : Int32) : ∃ z : Int, (-2147483648 ≤ z ∧ z < 2147483648) ∧ x = iI z := ⟨x.toInt, ⟨Int32.le_toInt x, Int32.toInt_lt x⟩, (iI_self x).symm⟩
theorem iI_add (a b : Int) : iI a + iI b = iI (a + b) := (Int32.ofInt_add a b).symm
theorem iI_sub (a b : Int) : iI a - iI b = iI (a - b) := (Int32.ofInt_sub a b).symm
theorem iI_mul (a b : Int) : iI a * iI b = iI (a * b) := (Int32.ofInt_mul a b).symm
theorem iI_lt {a b : Int} (ha : -2147483648 ≤ a ∧ a < 2147483648) (hb : -2147483648 ≤ b ∧ b < 2147483648) : iI a < iI b ↔ a < b := by
  rw [Int32.lt_iff_toInt_lt, iI_toInt ha, iI_toInt hb]
theorem iI_le {a b : Int} (ha : -2147483648 ≤ a ∧ a < 2147483648) (hb : -2147483648 ≤ b ∧ b < 2147483648) : iI a ≤ iI b ↔ a ≤ b := by
  rw [Int32.le_iff_toInt_le, iI_toInt ha, iI_toInt hb]
theorem iI_eq {a b : Int} (ha : -2147483648 ≤ a ∧ a < 2147483648) (hb : -2147483648 ≤ b ∧ b < 2147483648) : iI a = iI b ↔ a = b := by
  rw [← Int32.toInt_inj, iI_toInt ha, iI_toInt hb]
theorem iI_0 : (0 : Int32) = iI 0 := by decide +kernel
theorem iI_cl {z : Int} (h0 : 0 ≤ z) (h1 : z < 2147483648) : (iI z).toNatClampNeg = z.toNat := by
  rw [Int32.toNatClampNeg, iI_toInt ⟨by omega, h1⟩]
theorem iI_in {z : Int} {n : Nat} (h0 : 0 ≤ z) (h1 : z < n) (hn : n < 2147483648) : vp_in (iI z) n := vp_in_iff.mpr (by
  rw [iI_toInt ⟨by omega, by omega⟩]
  exact ⟨h0, h1⟩)
theorem iI_n (n : Nat) : nI n = iI n := by
  unfold nI iI
  exact (Int32.ofInt_eq_ofNat (n := n)).symm
/-- one place of a function over the whole numbers, of a list of numbers, of a list of rows -/
def uA (g : Int → Int) (z v : Int) : Int → Int := fun q => if q = z then v else g q
def uI (I : Nat → Int) (n : Nat) (v : Int) : Nat → Int := fun j => cond (Nat.beq j n) v (I j)
def uF (F : Nat → Int → Int) (n : Nat) (g : Int → Int) : Nat → Int → Int := fun j => cond (Nat.beq j n) g (F j)
theorem uA_s {g : Int → Int} {z v : Int} : uA g z v z = v := if_pos rfl
theorem uA_n {g : Int → Int} {z v q : Int} (h : q ≠ z) : uA g z v q = g q := if_neg h
theorem uA_up {g : Int → Int} {z v : Int} (h0 : 0 ≤ z) (h1 : z < 2147483648) : upd (fun q : Nat => iI (g q)) (iI z).toNatClampNeg (iI v) = fun q : Nat => iI (uA g z v q) := by
  funext q
  rw [iI_cl h0 h1]
  unfold upd uA
  by_cases h : q = z.toNat
  · rw [if_pos h, if_pos (by omega)]
  · rw [if_neg h, if_neg (by omega)]
/-- a truth value as an int -/
def bz (P : Prop) (r : Int) : Prop := (r = 1 ∧ P) ∨ (r = 0 ∧ ¬ P)
theorem bz_t {P : Prop} (h : P) : bz P 1 := Or.inl ⟨rfl, h⟩
theorem bz_f {P : Prop} (h : ¬ P) : bz P 0 := Or.inr ⟨rfl, h⟩
theorem bz_in {P : Prop} {r : Int} (h : bz P r) : -2147483648 ≤ r ∧ r < 2147483648 := by
  rcases h with ⟨h, -⟩ | ⟨h, -⟩ <;> omega
theorem bz_01 {P : Prop} {r : Int} (h : bz P r) : r = 0 ∨ r = 1 := by
  rcases h with ⟨h, -⟩ | ⟨h, -⟩
  · exact Or.inr h
  · exact Or.inl h
theorem bz_iff {P P' : Prop} {r : Int} (h : bz P r) (e : P ↔ P') : bz P' r := by
  rcases h with ⟨h, k⟩ | ⟨h, k⟩
  · exact Or.inl ⟨h, e.mp k⟩
  · exact Or.inr ⟨h, fun q => k (e.mpr q)⟩
theorem bz_eq {P : Prop} {r r' : Int} (h : bz P r) (h' : bz P r') : r = r' := by
  rcases h with ⟨h, k⟩ | ⟨h, k⟩ <;> rcases h' with ⟨h', k'⟩ | ⟨h', k'⟩
  · omega
  · exact absurd k k'
  · exact absurd k' k
  · omega
theorem bz_nar {r : Int} (h : r = 0 ∨ r = 1) : narrow .boolean (.int (iI r)) = .int (iI r) := by
  rcases h with rfl | rfl <;> decide +kernel
theorem bz_vp {r : Int} (h : r = 0 ∨ r = 1) : vp_nar .boolean (iI r) = iI r := by
  rcases h with rfl | rfl <;> decide +kernel
theorem bz_fit {r : Int} (h : r = 0 ∨ r = 1) : fits .boolean (.int (iI r)) = true := by
  rcases h with rfl | rfl <;> decide +kernel
section XR
variable {p : Program} {l : Launch} {e : Env} {R : Room} {s : State} {m : MethodId} {args : Array Value} {below : List Frame} {meth : Method} {c : Code} {H : Heap} {locs : List Loc} {cells slots : Nat} {Q : State → Prop}
variable {cc : ByteArray} {pc : Nat} {ls : Array Slot} {rest : List Value}
theorem xr_iconst (hexec : p.tables.exec = Jvm.exec) (hb : c.code = cc) {n : Int} (hdg : decode cc pc = .ok (.iconst n, 1)) (k : W p l e R s m args below meth c H locs cells slots Q (F0 m (pc + 1) ls (.int (iI n) :: rest))) : W p l e R s m args below meth c H locs cells slots Q (F0 m pc ls rest) := lv_iconst hexec hb hdg rfl k
theorem xr_bipush (hexec : p.tables.exec = Jvm.exec) (hb : c.code = cc) {n : Int} (hdg : decode cc pc = .ok (.bipush n, 2)) (hv : (Int8.ofInt n).toInt32 = iI n) (k : W p l e R s m args below meth c H locs cells slots Q (F0 m (pc + 2) ls (.int (iI n) :: rest))) : W p l e R s m args below meth c H locs cells slots Q (F0 m pc ls rest) := lv_bipush hexec hb hdg hv k
theorem xr_sipush (hexec : p.tables.exec = Jvm.exec) (hb : c.code = cc) {n : Int} (hdg : decode cc pc = .ok (.sipush n, 3)) (hv : (Int16.ofInt n).toInt32 = iI n) (k : W p l e R s m args below meth c H locs cells slots Q (F0 m (pc + 3) ls (.int (iI n) :: rest))) : W p l e R s m args below meth c H locs cells slots Q (F0 m pc ls rest) := lv_sipush hexec hb hdg hv k
theorem xr_iadd (hexec : p.tables.exec = Jvm.exec) (hb : c.code = cc) {a b : Int} (hdg : decode cc pc = .ok (.iadd, 1)) (k : W p l e R s m args below meth c H locs cells slots Q (F0 m (pc + 1) ls (.int (iI (a + b)) :: rest))) : W p l e R s m args below meth c H locs cells slots Q (F0 m pc ls (.int (iI b) :: .int (iI a) :: rest)) := lv_iadd hexec hb hdg (by rw [iI_add]; exact k)
theorem xr_isub (hexec : p.tables.exec = Jvm.exec) (hb : c.code = cc) {a b : Int} (hdg : decode cc pc = .ok (.isub, 1)) (k : W p l e R s m args below meth c H locs cells slots Q (F0 m (pc + 1) ls (.int (iI (a - b)) :: rest))) : W p l e R s m args below meth c H locs cells slots Q (F0 m pc ls (.int (iI b) :: .int (iI a) :: rest)) := lv_isub hexec hb hdg (by rw [iI_sub]; exact k)
theorem xr_imul (hexec : p.tables.exec = Jvm.exec) (hb : c.code = cc) {a b : Int} (hdg : decode cc pc = .ok (.imul, 1)) (k : W p l e R s m args below meth c H locs cells slots Q (F0 m (pc + 1) ls (.int (iI (a * b)) :: rest))) : W p l e R s m args below meth c H locs cells slots Q (F0 m pc ls (.int (iI b) :: .int (iI a) :: rest)) := lv_imul hexec hb hdg (by rw [iI_mul]; exact k)
theorem xr_iinc (hexec : p.tables.exec = Jvm.exec) (hb : c.code = cc) {i nL k : Nat} {n z : Int} {lv lv' : List (Nat × Value)} (hdg : decode cc pc = .ok (.iinc i n, 3)) (h : lv_has ls nL lv) (hk : lv[k]? = some (i, .int (iI z))) (hn : i < nL) (hl : (i, Value.int (iI (z + n))) :: lv.filter (fun q => !(q.1 == i) && !(q.1 + 1 == i && q.2.category == 2)) = lv')
    (kk : ∀ ls' : Array Slot, lv_has ls' nL lv' → W p l e R s m args below meth c H locs cells slots Q (F0 m (pc + 3) ls' rest)) : W p l e R s m args below meth c H locs cells slots Q (F0 m pc ls rest) := lv_iinc hexec hb hdg h hk (iI_add z n) hn hl kk
theorem xr_icmp_eq (hexec : p.tables.exec = Jvm.exec) (hb : c.code = cc) {a b : Int} {off : Int} {tgt : Nat} (hdg : decode cc pc = .ok (.if_icmp .eq off, 3)) (ht : (pc : Int) + off = (tgt : Int)) (kt : a = b → W p l e R s m args below meth c H locs cells slots Q (F0 m tgt ls rest)) (kf : ¬ a = b → W p l e R s m args below meth c H locs cells slots Q (F0 m (pc + 3) ls rest)) (ha : -2147483648 ≤ a ∧ a < 2147483648) (hb2 : -2147483648 ≤ b ∧ b < 2147483648) : W p l e R s m args below meth c H locs cells slots Q (F0 m pc ls (.int (iI b) :: .int (iI a) :: rest)) := lv_icmp_eq hexec hb hdg ht (fun h => kt ((iI_eq ha hb2).mp h)) (fun h => kf (fun q => h ((iI_eq ha hb2).mpr q)))
theorem xr_if_eq (hexec : p.tables.exec = Jvm.exec) (hb : c.code = cc) {a : Int} {off : Int} {tgt : Nat} (hdg : decode cc pc = .ok (.ifCond .eq off, 3)) (ht : (pc : Int) + off = (tgt : Int)) (kt : a = 0 → W p l e R s m args below meth c H locs cells slots Q (F0 m tgt ls rest)) (kf : ¬ a = 0 → W p l e R s m args below meth c H locs cells slots Q (F0 m (pc + 3) ls rest)) (ha : -2147483648 ≤ a ∧ a < 2147483648) : W p l e R s m args below meth c H locs cells slots Q (F0 m pc ls (.int (iI a) :: rest)) := lv_if_eq hexec hb hdg ht (fun h => kt ((iI_eq ha ⟨by omega, by omega⟩).mp h)) (fun h => kf (fun q => h ((iI_eq ha ⟨by omega, by omega⟩).mpr q)))
theorem xr_icmp_ne (hexec : p.tables.exec = Jvm.exec) (hb : c.code = cc) {a b : Int} {off : Int} {tgt : Nat} (hdg : decode cc pc = .ok (.if_icmp .ne off, 3)) (ht : (pc : Int) + off = (tgt : Int)) (kt : ¬ a = b → W p l e R s m args below meth c H locs cells slots Q (F0 m tgt ls rest)) (kf : a = b → W p l e R s m args below meth c H locs cells slots Q (F0 m (pc + 3) ls rest)) (ha : -2147483648 ≤ a ∧ a < 2147483648) (hb2 : -2147483648 ≤ b ∧ b < 2147483648) : W p l e R s m args below meth c H locs cells slots Q (F0 m pc ls (.int (iI b) :: .int (iI a) :: rest)) := lv_icmp_ne hexec hb hdg ht (fun h => kt (fun q => h ((iI_eq ha hb2).mpr q))) (fun h => kf ((iI_eq ha hb2).mp h))
theorem xr_if_ne (hexec : p.tables.exec = Jvm.exec) (hb : c.code = cc) {a : Int} {off : Int} {tgt : Nat} (hdg : decode cc pc = .ok (.ifCond .ne off, 3)) (ht : (pc : Int) + off = (tgt : Int)) (kt : ¬ a = 0 → W p l e R s m args below meth c H locs cells slots Q (F0 m tgt ls rest)) (kf : a = 0 → W p l e R s m args below meth c H locs cells slots Q (F0 m (pc + 3) ls rest)) (ha : -2147483648 ≤ a ∧ a < 2147483648) : W p l e R s m args below meth c H locs cells slots Q (F0 m pc ls (.int (iI a) :: rest)) := lv_if_ne hexec hb hdg ht (fun h => kt (fun q => h ((iI_eq ha ⟨by omega, by omega⟩).mpr q))) (fun h => kf ((iI_eq ha ⟨by omega, by omega⟩).mp h))
theorem xr_icmp_lt (hexec : p.tables.exec = Jvm.exec) (hb : c.code = cc) {a b : Int} {off : Int} {tgt : Nat} (hdg : decode cc pc = .ok (.if_icmp .lt off, 3)) (ht : (pc : Int) + off = (tgt : Int)) (kt : a < b → W p l e R s m args below meth c H locs cells slots Q (F0 m tgt ls rest)) (kf : ¬ a < b → W p l e R s m args below meth c H locs cells slots Q (F0 m (pc + 3) ls rest)) (ha : -2147483648 ≤ a ∧ a < 2147483648) (hb2 : -2147483648 ≤ b ∧ b < 2147483648) : W p l e R s m args below meth c H locs cells slots Q (F0 m pc ls (.int (iI b) :: .int (iI a) :: rest)) := lv_icmp_lt hexec hb hdg ht (fun h => kt ((iI_lt ha hb2).mp h)) (fun h => kf (fun q => h ((iI_lt ha hb2).mpr q)))
theorem xr_if_lt (hexec : p.tables.exec = Jvm.exec) (hb : c.code = cc) {a : Int} {off : Int} {tgt : Nat} (hdg : decode cc pc = .ok (.ifCond .lt off, 3)) (ht : (pc : Int) + off = (tgt : Int)) (kt : a < 0 → W p l e R s m args below meth c H locs cells slots Q (F0 m tgt ls rest)) (kf : ¬ a < 0 → W p l e R s m args below meth c H locs cells slots Q (F0 m (pc + 3) ls rest)) (ha : -2147483648 ≤ a ∧ a < 2147483648) : W p l e R s m args below meth c H locs cells slots Q (F0 m pc ls (.int (iI a) :: rest)) := lv_if_lt hexec hb hdg ht (fun h => kt ((iI_lt ha ⟨by omega, by omega⟩).mp h)) (fun h => kf (fun q => h ((iI_lt ha ⟨by omega, by omega⟩).mpr q)))
theorem xr_icmp_ge (hexec : p.tables.exec = Jvm.exec) (hb : c.code = cc) {a b : Int} {off : Int} {tgt : Nat} (hdg : decode cc pc = .ok (.if_icmp .ge off, 3)) (ht : (pc : Int) + off = (tgt : Int)) (kt : b ≤ a → W p l e R s m args below meth c H locs cells slots Q (F0 m tgt ls rest)) (kf : ¬ b ≤ a → W p l e R s m args below meth c H locs cells slots Q (F0 m (pc + 3) ls rest)) (ha : -2147483648 ≤ a ∧ a < 2147483648) (hb2 : -2147483648 ≤ b ∧ b < 2147483648) : W p l e R s m args below meth c H locs cells slots Q (F0 m pc ls (.int (iI b) :: .int (iI a) :: rest)) := lv_icmp_ge hexec hb hdg ht (fun h => kt ((iI_le hb2 ha).mp h)) (fun h => kf (fun q => h ((iI_le hb2 ha).mpr q)))
theorem xr_if_ge (hexec : p.tables.exec = Jvm.exec) (hb : c.code = cc) {a : Int} {off : Int} {tgt : Nat} (hdg : decode cc pc = .ok (.ifCond .ge off, 3)) (ht : (pc : Int) + off = (tgt : Int)) (kt : 0 ≤ a → W p l e R s m args below meth c H locs cells slots Q (F0 m tgt ls rest)) (kf : ¬ 0 ≤ a → W p l e R s m args below meth c H locs cells slots Q (F0 m (pc + 3) ls rest)) (ha : -2147483648 ≤ a ∧ a < 2147483648) : W p l e R s m args below meth c H locs cells slots Q (F0 m pc ls (.int (iI a) :: rest)) := lv_if_ge hexec hb hdg ht (fun h => kt ((iI_le ⟨by omega, by omega⟩ ha).mp h)) (fun h => kf (fun q => h ((iI_le ⟨by omega, by omega⟩ ha).mpr q)))
theorem xr_icmp_gt (hexec : p.tables.exec = Jvm.exec) (hb : c.code = cc) {a b : Int} {off : Int} {tgt : Nat} (hdg : decode cc pc = .ok (.if_icmp .gt off, 3)) (ht : (pc : Int) + off = (tgt : Int)) (kt : b < a → W p l e R s m args below meth c H locs cells slots Q (F0 m tgt ls rest)) (kf : ¬ b < a → W p l e R s m args below meth c H locs cells slots Q (F0 m (pc + 3) ls rest)) (ha : -2147483648 ≤ a ∧ a < 2147483648) (hb2 : -2147483648 ≤ b ∧ b < 2147483648) : W p l e R s m args below meth c H locs cells slots Q (F0 m pc ls (.int (iI b) :: .int (iI a) :: rest)) := lv_icmp_gt hexec hb hdg ht (fun h => kt ((iI_lt hb2 ha).mp h)) (fun h => kf (fun q => h ((iI_lt hb2 ha).mpr q)))
theorem xr_if_gt (hexec : p.tables.exec = Jvm.exec) (hb : c.code = cc) {a : Int} {off : Int} {tgt : Nat} (hdg : decode cc pc = .ok (.ifCond .gt off, 3)) (ht : (pc : Int) + off = (tgt : Int)) (kt : 0 < a → W p l e R s m args below meth c H locs cells slots Q (F0 m tgt ls rest)) (kf : ¬ 0 < a → W p l e R s m args below meth c H locs cells slots Q (F0 m (pc + 3) ls rest)) (ha : -2147483648 ≤ a ∧ a < 2147483648) : W p l e R s m args below meth c H locs cells slots Q (F0 m pc ls (.int (iI a) :: rest)) := lv_if_gt hexec hb hdg ht (fun h => kt ((iI_lt ⟨by omega, by omega⟩ ha).mp h)) (fun h => kf (fun q => h ((iI_lt ⟨by omega, by omega⟩ ha).mpr q)))
theorem xr_icmp_le (hexec : p.tables.exec = Jvm.exec) (hb : c.code = cc) {a b : Int} {off : Int} {tgt : Nat} (hdg : decode cc pc = .ok (.if_icmp .le off, 3)) (ht : (pc : Int) + off = (tgt : Int)) (kt : a ≤ b → W p l e R s m args below meth c H locs cells slots Q (F0 m tgt ls rest)) (kf : ¬ a ≤ b → W p l e R s m args below meth c H locs cells slots Q (F0 m (pc + 3) ls rest)) (ha : -2147483648 ≤ a ∧ a < 2147483648) (hb2 : -2147483648 ≤ b ∧ b < 2147483648) : W p l e R s m args below meth c H locs cells slots Q (F0 m pc ls (.int (iI b) :: .int (iI a) :: rest)) := lv_icmp_le hexec hb hdg ht (fun h => kt ((iI_le ha hb2).mp h)) (fun h => kf (fun q => h ((iI_le ha hb2).mpr q)))
theorem xr_if_le (hexec : p.tables.exec = Jvm.exec) (hb : c.code = cc) {a : Int} {off : Int} {tgt : Nat} (hdg : decode cc pc = .ok (.ifCond .le off, 3)) (ht : (pc : Int) + off = (tgt : Int)) (kt : a ≤ 0 → W p l e R s m args below meth c H locs cells slots Q (F0 m tgt ls rest)) (kf : ¬ a ≤ 0 → W p l e R s m args below meth c H locs cells slots Q (F0 m (pc + 3) ls rest)) (ha : -2147483648 ≤ a ∧ a < 2147483648) : W p l e R s m args below meth c H locs cells slots Q (F0 m pc ls (.int (iI a) :: rest)) := lv_if_le hexec hb hdg ht (fun h => kt ((iI_le ha ⟨by omega, by omega⟩).mp h)) (fun h => kf (fun q => h ((iI_le ha ⟨by omega, by omega⟩).mpr q)))
theorem xr_if_eqZ (hexec : p.tables.exec = Jvm.exec) (hb : c.code = cc) {a : Int} {off : Int} {tgt : Nat} {P : Prop} (hz : bz P a) (hdg : decode cc pc = .ok (.ifCond .eq off, 3)) (ht : (pc : Int) + off = (tgt : Int)) (kt : ¬ P → W p l e R s m args below meth c H locs cells slots Q (F0 m tgt ls rest)) (kf : P → W p l e R s m args below meth c H locs cells slots Q (F0 m (pc + 3) ls rest)) : W p l e R s m args below meth c H locs cells slots Q (F0 m pc ls (.int (iI a) :: rest)) := xr_if_eq hexec hb hdg ht (fun h => kt (by rcases hz with ⟨h1, -⟩ | ⟨-, h2⟩; exact absurd (h1.symm.trans h) (by decide); exact h2)) (fun h => kf (by rcases hz with ⟨-, h2⟩ | ⟨h1, -⟩; exact h2; exact absurd h1 h)) (bz_in hz)
theorem xr_if_neZ (hexec : p.tables.exec = Jvm.exec) (hb : c.code = cc) {a : Int} {off : Int} {tgt : Nat} {P : Prop} (hz : bz P a) (hdg : decode cc pc = .ok (.ifCond .ne off, 3)) (ht : (pc : Int) + off = (tgt : Int)) (kt : P → W p l e R s m args below meth c H locs cells slots Q (F0 m tgt ls rest)) (kf : ¬ P → W p l e R s m args below meth c H locs cells slots Q (F0 m (pc + 3) ls rest)) : W p l e R s m args below meth c H locs cells slots Q (F0 m pc ls (.int (iI a) :: rest)) := xr_if_ne hexec hb hdg ht (fun h => kt (by rcases hz with ⟨-, h2⟩ | ⟨h1, -⟩; exact h2; exact absurd h1 h)) (fun h => kf (by rcases hz with ⟨h1, -⟩ | ⟨-, h2⟩; exact absurd (h1.symm.trans h) (by decide); exact h2)) (bz_in hz)
variable {D : va_G} {cl : List vw_C} {A : Nat → Prop} {a : Nat} {tys : List (ClassId × FieldType)} {ws : va_W} {H0 : Heap}
theorem xr_iald (hexec : p.tables.exec = Jvm.exec) (hb : c.code = cc) (hK : va_K D cl tys s) (hP : va_P D cl ws H) (q0 t0 : Nat) {cA : ClassId} {n : Nat} {f : Int → Int} (ha : ws[q0]? = some (a, .inl (cA, n, .inl (fun q : Nat => iI (f q))))) (ht : tys[t0]? = some (cA, .int)) {z : Int} (h0 : 0 ≤ z) (h1 : z < n) (hn : n < 2147483648) (hdg : decode cc pc = .ok (.iaload, 1))
    (kk : W p l e R s m args below meth c H locs cells slots Q (F0 m (pc + 1) ls (.int (iI (f z)) :: rest))) : W p l e R s m args below meth c H locs cells slots Q (F0 m pc ls (.int (iI z) :: .ref a :: rest)) := by
  refine va_iald hexec hb hK hP q0 t0 ha ht (iI_in h0 h1 hn) hdg ?_
  rw [iI_cl h0 (by omega), show ((z.toNat : Nat) : Int) = z by omega]
  exact kk
theorem xr_zald (hexec : p.tables.exec = Jvm.exec) (hb : c.code = cc) (hK : va_K D cl tys s) (hP : va_P D cl ws H) (q0 t0 : Nat) {cA : ClassId} {n : Nat} {f : Int → Int} (ha : ws[q0]? = some (a, .inl (cA, n, .inl (fun q : Nat => iI (f q))))) (ht : tys[t0]? = some (cA, .boolean)) {z : Int} (h0 : 0 ≤ z) (h1 : z < n) (hn : n < 2147483648) (hdg : decode cc pc = .ok (.baload, 1))
    (kk : W p l e R s m args below meth c H locs cells slots Q (F0 m (pc + 1) ls (.int (iI (f z)) :: rest))) : W p l e R s m args below meth c H locs cells slots Q (F0 m pc ls (.int (iI z) :: .ref a :: rest)) := by
  refine va_zald hexec hb hK hP q0 t0 ha ht (iI_in h0 h1 hn) hdg ?_
  rw [iI_cl h0 (by omega), show ((z.toNat : Nat) : Int) = z by omega]
  exact kk
theorem xr_iast (hexec : p.tables.exec = Jvm.exec) (hb : c.code = cc) (hK : va_K D cl tys s) (hP : va_P D cl ws H) (hD : va_D A ws) (hS : va_S A H0 H locs) (q0 t0 : Nat) {cA : ClassId} {n : Nat} {f : Int → Int} (ha : ws[q0]? = some (a, .inl (cA, n, .inl (fun q : Nat => iI (f q))))) (ht : tys[t0]? = some (cA, .int)) {z v : Int} (h0 : 0 ≤ z) (h1 : z < n) (hn : n < 2147483648) (hdg : decode cc pc = .ok (.iastore, 1))
    (kk : ∀ (H1 : Heap) (locs1 : List Loc), va_P D cl (ws.set q0 (a, .inl (cA, n, .inl (fun q : Nat => iI (uA f z v q))))) H1 → va_S A H0 H1 locs1 → W p l e R s m args below meth c H1 locs1 cells slots Q (F0 m (pc + 1) ls rest)) : W p l e R s m args below meth c H locs cells slots Q (F0 m pc ls (.int (iI v) :: .int (iI z) :: .ref a :: rest)) := by
  refine va_iast hexec hb hK hP hD hS q0 t0 ha ht (iI_in h0 h1 hn) hdg (fun H1 locs1 q1 _ q3 => ?_)
  rw [uA_up h0 (by omega)] at q1
  exact kk H1 locs1 q1 q3
theorem xr_zast (hexec : p.tables.exec = Jvm.exec) (hb : c.code = cc) (hK : va_K D cl tys s) (hP : va_P D cl ws H) (hD : va_D A ws) (hS : va_S A H0 H locs) (q0 t0 : Nat) {cA : ClassId} {n : Nat} {f : Int → Int} (ha : ws[q0]? = some (a, .inl (cA, n, .inl (fun q : Nat => iI (f q))))) (ht : tys[t0]? = some (cA, .boolean)) {z v : Int} (h0 : 0 ≤ z) (h1 : z < n) (hn : n < 2147483648) (hv : v = 0 ∨ v = 1) (hdg : decode cc pc = .ok (.bastore, 1))
    (kk : ∀ (H1 : Heap) (locs1 : List Loc), va_P D cl (ws.set q0 (a, .inl (cA, n, .inl (fun q : Nat => iI (uA f z v q))))) H1 → va_S A H0 H1 locs1 → W p l e R s m args below meth c H1 locs1 cells slots Q (F0 m (pc + 1) ls rest)) : W p l e R s m args below meth c H locs cells slots Q (F0 m pc ls (.int (iI v) :: .int (iI z) :: .ref a :: rest)) := by
  refine va_zast hexec hb hK hP hD hS q0 t0 ha ht (iI_in h0 h1 hn) hdg (fun H1 locs1 q1 _ q3 => ?_)
  rw [bz_vp hv, uA_up h0 (by omega)] at q1
  exact kk H1 locs1 q1 q3
end XR
/-! the words of the tables that every state keeps, and the room by levels -/
def g_ok : Cond → Bool
  | .fieldLinkNest .. => true
  | .methodLinkNest .. => true
  | w => goodWord w
def g_tbl : List Cond := lw_tbl.filter g_ok
theorem g_inT {w : Cond} (i : Nat) (h : tables_1[i]? = some w) (hg : g_ok w = true) : w ∈ g_tbl := List.mem_filter.mpr ⟨List.mem_append_right _ (List.mem_of_getElem? h), hg⟩
theorem g_inS {w : Cond} (i : Nat) (h : (k2_sels lw_privs)[i]? = some w) (hg : g_ok w = true) : w ∈ g_tbl := List.mem_filter.mpr ⟨List.mem_append_left _ (List.mem_of_getElem? h), hg⟩
def gG (U : State) : Prop := ∀ w ∈ g_tbl, w.before #[] U = true
theorem g_at {w : Cond} (hg : g_ok w = true) {A A' : Array Value} {s U : State} (hW : s.WarmedH U.vm) (h : w.before A s = true) : w.before A' U = true := by
  cases w with
  | fieldLinkNest a i b n d x => exact va_Nw.use rfl (va_Nw.warmF hW (va_Nw.of rfl h))
  | methodLinkNest a i x y => exact va_Nw.use rfl (va_Nw.warmM hW (va_Nw.of rfl h))
  | _ => exact word_at hW (good_of_word hg) h
theorem gG.warm {s U : State} (hG : gG s) (hW : s.WarmedH U.vm) : gG U := fun w hw => g_at (List.mem_filter.mp hw).2 hW (hG w hw)
theorem gG.use {s : State} (hG : gG s) {args : Array Value} : ∀ w ∈ g_tbl, w.before args s = true := fun w hw => g_at (List.mem_filter.mp hw).2 (State.WarmedH.refl s) (hG w hw)
theorem gG.of {s : State} {args : Array Value} (h : ∀ w ∈ lw_tbl, w.before args s = true) : gG s := fun w hw => g_at (List.mem_filter.mp hw).2 (State.WarmedH.refl s) (h w (List.mem_filter.mp hw).1)
def rmd (d : Nat) : Room := { frames := d, cells := 0, slots := 0, locals := 40 * d }
/-- a contract's start: the arguments, the tables' words, the classes, the cells -/
def pB (D : va_G) (tys : List (ClassId × FieldType)) (ws : va_W) (av : List Value) : Array Value → State → Prop := va_Pc av (fun U => gG U ∧ va_K D vwC tys U ∧ va_P D vwC ws U.heap)
theorem pB_blind {D : va_G} {tys : List (ClassId × FieldType)} {ws : va_W} {av : List Value} : FrameBlind (pB D tys ws av) := fun a U g mk q => by
  obtain ⟨q0, q1, q2, q3⟩ := q
  exact ⟨q0, q1.warm (U := U.calling g mk a) (State.WarmedH.refl U), va_K.moved (u := U) (U := U.calling g mk a) (Vm.Alike.refl U.vm) q2, q3⟩
theorem pB_of {D : va_G} {tys : List (ClassId × FieldType)} {ws : va_W} {av : List Value} {s : State} {H : Heap} (hG : gG s) (hK : va_K D vwC tys s) (hP : va_P D vwC ws H) : ∀ U : State, U.heap = H → s.WarmedH U.vm → pB D tys ws av av.toArray U := fun U hU hW => ⟨rfl, hG.warm hW, va_K.moved hW.alike hK, by rw [hU]; exact hP⟩
/-- the answer is an int of which 'post' holds; the heap is as it was -/
def ro_Q (post : Int → Prop) : Array Value → State → Outcome → State → Prop := fun _ st o t => ∃ r : Int, o = .returned (some (.int (iI r))) ∧ post r ∧ t.heap = st.heap
/-- the answer is an int, the cells hold a new state: 'post' holds of both; what isn't in A stays -/
def mu_Q {S : Type} (wf : S → va_W) (D : va_G) (post : Int → S → Prop) (A : Nat → Prop) : Array Value → State → Outcome → State → Prop := fun _ st o t => ∃ (r : Int) (u : S), o = .returned (some (.int (iI r))) ∧ post r u ∧ va_P D vwC (wf u) t.heap ∧ va_F A st t
def mv_Q {S : Type} (wf : S → va_W) (D : va_G) (post : S → Prop) (A : Nat → Prop) : Array Value → State → Outcome → State → Prop := fun _ st o t => ∃ u : S, o = .returned none ∧ post u ∧ va_P D vwC (wf u) t.heap ∧ va_F A st t
abbrev ro_M (l : Launch) (y : MethodName) (cy : ByteArray) (nL : Nat) (ret : Option FieldType) (d : Nat) (av : List Value) (D : va_G) (tys : List (ClassId × FieldType)) (ws : va_W) (post : Int → Prop) : Prop := Met l y [.code y cy nL ret] (rmd d) (pB D tys ws av) (ro_Q post) 0 0 (fun _ => False)
abbrev mu_M {S : Type} (l : Launch) (y : MethodName) (cy : ByteArray) (nL : Nat) (ret : Option FieldType) (d : Nat) (av : List Value) (D : va_G) (tys : List (ClassId × FieldType)) (ws : va_W) (wf : S → va_W) (post : Int → S → Prop) (A : Nat → Prop) : Prop := Met l y [.code y cy nL ret] (rmd d) (pB D tys ws av) (mu_Q wf D post A) 0 0 A
abbrev mv_M {S : Type} (l : Launch) (y : MethodName) (cy : ByteArray) (nL : Nat) (ret : Option FieldType) (d : Nat) (av : List Value) (D : va_G) (tys : List (ClassId × FieldType)) (ws : va_W) (wf : S → va_W) (post : S → Prop) (A : Nat → Prop) : Prop := Met l y [.code y cy nL ret] (rmd d) (pB D tys ws av) (mv_Q wf D post A) 0 0 A
/-- what the tables say of a method that is called: an instance's, a static one -/
def mV (y : MethodName) (cy : ByteArray) (nL : Nat) (ret : Option FieldType) (n : Nat) : Prop := Cond.code y cy nL ret ∈ g_tbl ∧ Cond.initialized y.cls ∈ g_tbl ∧ Cond.instanceMethod y ∈ g_tbl ∧ Cond.selects y.cls y y ∈ g_tbl ∧ (y.cls ≠ "java/lang/invoke/MethodHandle" ∧ y.cls ≠ "java/lang/invoke/VarHandle") ∧ (parseMethodDescriptor y.desc).map (fun d => d.parameters.length) = some n
def mS (y : MethodName) (cy : ByteArray) (nL : Nat) (ret : Option FieldType) (n : Nat) : Prop := Cond.code y cy nL ret ∈ g_tbl ∧ Cond.initialized y.cls ∈ g_tbl ∧ Cond.static y ∈ g_tbl ∧ (y.cls ≠ "java/lang/invoke/MethodHandle" ∧ y.cls ≠ "java/lang/invoke/VarHandle") ∧ (parseMethodDescriptor y.desc).map (fun d => d.parameters.length) = some n
theorem g_len {o : Option MethodDescriptor} {n : Nat} (h : o.map (fun d => d.parameters.length) = some n) : ∀ sig, o = some sig → n = sig.parameters.length := fun sig e => by
  rw [e] at h
  exact (Option.some.inj h).symm
section XC
variable {p : Program} {l : Launch} {e : Env} {R : Room} {s : State} {m : MethodId} {args : Array Value} {below : List Frame} {meth : Method} {c : Code} {H : Heap} {locs : List Loc} {cells slots : Nat} {Q : State → Prop}
variable {cc : ByteArray} {pc nL : Nat} {ls : Array Slot} {rest st0 As : List Value} {own : String} {index n b d : Nat} {y : MethodName} {cy : ByteArray} {nY : Nat} {ret : Option FieldType} {Qc : Array Value → State → Outcome → State → Prop} {free : Addr → Prop}
variable {D : va_G} {tys : List (ClassId × FieldType)} {ws : va_W}
theorem g_cb (hG : gG s) (h1 : Cond.code y cy nY ret ∈ g_tbl) (h2 : Cond.initialized y.cls ∈ g_tbl) (h3 : y.cls ≠ "java/lang/invoke/MethodHandle" ∧ y.cls ≠ "java/lang/invoke/VarHandle") (h4 : (parseMethodDescriptor y.desc).map (fun d => d.parameters.length) = some n) (hl : Cond.methodLink own index y ∈ g_tbl) (hR : d + 1 ≤ R.frames ∧ 8 + (nY + 11) + 40 * d ≤ R.locals) :
    CallB R s args own index y cy nY ret [.code y cy nY ret] (rmd d) 0 0 n :=
  ⟨rfl, rfl, hR.1, hR.2, fun w hw a' U hW => by rw [List.mem_singleton.mp hw]; exact (hG.warm hW).use _ h1, List.mem_cons_self, hG.use _ h1, hG.use _ h2, h3, g_len h4, hG.use _ hl⟩
theorem g_cn {host : String} (hG : gG s) (h1 : Cond.code y cy nY ret ∈ g_tbl) (h2 : Cond.initialized y.cls ∈ g_tbl) (h3 : y.cls ≠ "java/lang/invoke/MethodHandle" ∧ y.cls ≠ "java/lang/invoke/VarHandle") (h4 : (parseMethodDescriptor y.desc).map (fun d => d.parameters.length) = some n) (hl : Cond.methodLinkNest own index y host ∈ g_tbl) (hR : d + 1 ≤ R.frames ∧ 8 + (nY + 11) + 40 * d ≤ R.locals) :
    va_CN R s args own index y host cy nY ret [.code y cy nY ret] (rmd d) 0 0 n :=
  ⟨⟨rfl, rfl, hR.1, hR.2, fun w hw a' U hW => by rw [List.mem_singleton.mp hw]; exact (hG.warm hW).use _ h1, List.mem_cons_self⟩, hG.use _ h1, hG.use _ h2, h3, g_len h4, hG.use _ hl⟩
/-- a call of an instance's method -/
theorem g_runV (hx : p.tables.exec = Jvm.exec) (hb : c.code = cc) (hml : c.maxLocals = nL) (hown : s.vm.findClass own = some m.cls) (hG : gG s) (hK : va_K D vwC tys s) (hP : va_P D vwC ws H) (hV : mV y cy nY ret n) (hM : Met l y [.code y cy nY ret] (rmd d) (pB D tys ws (.ref b :: As)) Qc 0 0 free) (hl : Cond.methodLink own index y ∈ g_tbl)
    (hrc : ∃ cell : Cell, H[b]? = some cell ∧ cell.vm.isStatics = false ∧ s.vm.findClass y.cls = some cell.cls) (hn : As.length = n) (hsz : ls.size = nL) (hst : st0 = As.reverse ++ .ref b :: rest) (hW : (rest.map fun v => v.category).sum ≤ 8) (hR : d + 1 ≤ R.frames ∧ 8 + (nY + 11) + 40 * d ≤ R.locals) (hf : cells ≤ R.cells ∧ slots ≤ R.slots) (hdg : decode cc pc = .ok (.invokevirtual index, 3)) :
    va_Run p l e R s m args below meth c H locs cells slots 0 0 (F0 m pc ls st0) rest (Qc (Value.ref b :: As).toArray) free := by
  obtain ⟨h1, h2, h3, h4, h5, h6⟩ := hV
  exact va_runV (Ts := g_tbl) (C := y.cls) ⟨hx, hb, hml, hown, hG.use⟩ hM ⟨g_cb hG h1 h2 h5 h6 hl hR, hG.use _ h3, hG.use _ h4⟩ ⟨pB_blind, hrc, pB_of hG hK hP⟩ rfl hn hsz hst (lv_room hW) hdg ⟨hf.1, hf.2⟩
theorem g_runS (hx : p.tables.exec = Jvm.exec) (hb : c.code = cc) (hml : c.maxLocals = nL) (hown : s.vm.findClass own = some m.cls) (hG : gG s) (hK : va_K D vwC tys s) (hP : va_P D vwC ws H) (hV : mS y cy nY ret n) (hM : Met l y [.code y cy nY ret] (rmd d) (pB D tys ws As) Qc 0 0 free) (hl : Cond.methodLink own index y ∈ g_tbl)
    (hn : As.length = n) (hsz : ls.size = nL) (hst : st0 = As.reverse ++ rest) (hW : (rest.map fun v => v.category).sum ≤ 8) (hR : d + 1 ≤ R.frames ∧ 8 + (nY + 11) + 40 * d ≤ R.locals) (hf : cells ≤ R.cells ∧ slots ≤ R.slots) (hdg : decode cc pc = .ok (.invokestatic index, 3)) :
    va_Run p l e R s m args below meth c H locs cells slots 0 0 (F0 m pc ls st0) rest (Qc As.toArray) free := by
  obtain ⟨h1, h2, h3, h5, h6⟩ := hV
  exact va_runS (Ts := g_tbl) ⟨hx, hb, hml, hown, hG.use⟩ hM ⟨g_cb hG h1 h2 h5 h6 hl hR, hG.use _ h3⟩ ⟨pB_blind, pB_of hG hK hP⟩ rfl hn hsz hst (lv_room hW) hdg ⟨hf.1, hf.2⟩
/-- behind a call that reads alone -/
theorem ro_call {post : Int → Prop} {av : Array Value} (hr : va_Run p l e R s m args below meth c H locs cells slots 0 0 (F0 m pc ls st0) rest (ro_Q post av) (fun _ => False)) (kk : ∀ r : Int, post r → W p l e R s m args below meth c H locs cells slots Q (F0 m (pc + 3) ls (.int (iI r) :: rest))) : W p l e R s m args below meth c H locs cells slots Q (F0 m pc ls st0) := by
  intro T hT X
  obtain ⟨v, st₀, t, T', L, h0, X', hL, e1, e2, ⟨r, hv, hp, hh⟩, st⟩ := hr T hT X
  cases hv
  have hL' : L = [] := by
    cases L with
    | nil => rfl
    | cons q L => exact absurd (hL q List.mem_cons_self) id
  subst hL'
  rw [List.append_nil] at X'
  obtain ⟨t2, a1, b1⟩ := kk r hp T' (by rw [e1, hh, h0]) X'
  exact ⟨t2, st t2 a1, b1⟩
theorem g_nS {A0 A1 : Nat → Prop} {H0 H1 : Heap} {L : List Loc} (hS : va_S A0 H0 H locs) (hA : ∀ q, A1 q → A0 q) (hz : H.size ≤ H1.size) (hk : ∀ q : Nat, q < H.size → ¬ A1 q → H1[q]? = H[q]?) (hL : ∀ q ∈ L, A1 q.base) : va_S A0 H0 H1 (locs ++ L) :=
  ⟨Nat.le_trans hS.1 hz, fun q h1 h2 => by rw [hk q (Nat.lt_of_lt_of_le h1 hS.1) (fun z => h2 (hA q z))]; exact hS.2.1 q h1 h2, fun q hq => by
    rcases List.mem_append.mp hq with h | h
    · exact hS.2.2 q h
    · exact hA _ (hL q h)⟩
theorem mu_call {S : Type} {wf : S → va_W} {post : Int → S → Prop} {A0 A1 : Nat → Prop} {H0 : Heap} {av : Array Value} (hr : va_Run p l e R s m args below meth c H locs cells slots 0 0 (F0 m pc ls st0) rest (mu_Q wf D post A1 av) A1) (hS : va_S A0 H0 H locs) (hA : ∀ q, A1 q → A0 q)
    (kk : ∀ (r : Int) (u : S) (H1 : Heap) (locs1 : List Loc), post r u → va_P D vwC (wf u) H1 → H.size ≤ H1.size → (∀ q : Nat, q < H.size → ¬ A1 q → H1[q]? = H[q]?) → va_S A0 H0 H1 locs1 → W p l e R s m args below meth c H1 locs1 cells slots Q (F0 m (pc + 3) ls (.int (iI r) :: rest))) : W p l e R s m args below meth c H locs cells slots Q (F0 m pc ls st0) := by
  intro T hT X
  obtain ⟨v, st₀, t, T', L, h0, X', hL, e1, e2, ⟨r, u, hv, hp, hb, hz, hk⟩, st⟩ := hr T hT X
  cases hv
  rw [h0] at hz hk
  rw [← e1] at hz hk hb
  obtain ⟨t2, a1, b1⟩ := kk r u T'.heap (locs ++ L) hp hb hz hk (g_nS hS hA hz hk hL) T' rfl X'
  exact ⟨t2, st t2 a1, b1⟩
theorem mv_call {S : Type} {wf : S → va_W} {post : S → Prop} {A0 A1 : Nat → Prop} {H0 : Heap} {av : Array Value} (hr : va_Run p l e R s m args below meth c H locs cells slots 0 0 (F0 m pc ls st0) rest (mv_Q wf D post A1 av) A1) (hS : va_S A0 H0 H locs) (hA : ∀ q, A1 q → A0 q)
    (kk : ∀ (u : S) (H1 : Heap) (locs1 : List Loc), post u → va_P D vwC (wf u) H1 → H.size ≤ H1.size → (∀ q : Nat, q < H.size → ¬ A1 q → H1[q]? = H[q]?) → va_S A0 H0 H1 locs1 → W p l e R s m args below meth c H1 locs1 cells slots Q (F0 m (pc + 3) ls rest)) : W p l e R s m args below meth c H locs cells slots Q (F0 m pc ls st0) := by
  intro T hT X
  obtain ⟨v, st₀, t, T', L, h0, X', hL, e1, e2, ⟨u, hv, hp, hb, hz, hk⟩, st⟩ := hr T hT X
  cases hv
  rw [h0] at hz hk
  rw [← e1] at hz hk hb
  obtain ⟨t2, a1, b1⟩ := kk u T'.heap (locs ++ L) hp hb hz hk (g_nS hS hA hz hk hL) T' rfl X'
  exact ⟨t2, st t2 a1, b1⟩
end XC
/-- a method's walk, from its entry -/
theorem me_start {l : Launch} {y : MethodName} {cy : ByteArray} {nL d : Nat} {ret : Option FieldType} {av : List Value} {D : va_G} {tys : List (ClassId × FieldType)} {ws : va_W} {Qc : Array Value → State → Outcome → State → Prop} {free : Addr → Prop} {lv : List (Nat × Value)}
    (hy : plainName y.cls = true) (hn : (lg_sl av).length ≤ nL) (hlv : lv_args 0 av = lv)
    (body : ∀ (p : Program) (e : Env) (s : State) (m : MethodId) (below : List Frame) (meth : Method) (c : Code), p.tables.exec = Jvm.exec → c.code = cy → c.maxLocals = nL → meth.sig.returnType = ret → s.vm.findClass y.cls = some m.cls → meth.locks = false → (meth.name = y.name) → gG s → va_K D vwC tys s → va_P D vwC ws s.heap → ∀ ls : Array Slot, lv_has ls nL lv →
      W p l e (rmd d) s m av.toArray below meth c s.heap [] 0 0 (MQ below Qc av.toArray s 0 0 free) (F0 m 0 ls [])) :
    Met l y [.code y cy nL ret] (rmd d) (pB D tys ws av) Qc 0 0 free := by
  refine Met.ofW (cc := cy) (maxL := nL) (ret := ret) hy rfl ?_
  intro p e s m args below meth c s₁ B hml hv
  obtain ⟨rfl, hG, hK, hP⟩ := hv
  have hl := lv_entry av (n := nL) hn
  rw [lg_entry_eq]
  generalize (lg_sl av ++ List.replicate (nL - (lg_sl av).length) Slot.unset).toArray = ls at hl ⊢
  subst hlv
  exact body p e s m below meth c B.exec B.bytes hml B.returns (findClass_of_methodNamed B.named) B.notSynchronized (name_of_methodNamed B.named B.method).1 hG hK hP ls hl
