/-! how many bits an int has -/
def nt (x : Int32) : Nat := x.toBitVec.toNat
theorem nt_lt (x : Int32) : nt x < 4294967296 := x.toBitVec.isLt
theorem nt_and (x y : Int32) : nt (x &&& y) = nt x &&& nt y := by
  show (x &&& y).toBitVec.toNat = _
  rw [Int32.toBitVec_and, BitVec.toNat_and]
  rfl
theorem nt_add (x y : Int32) : nt (x + y) = (nt x + nt y) % 4294967296 := by
  show (x + y).toBitVec.toNat = _
  rw [Int32.toBitVec_add, BitVec.toNat_add]
  rfl
theorem nt_sub (x y : Int32) : nt (x - y) = (4294967296 - nt y + nt x) % 4294967296 := by
  show (x - y).toBitVec.toNat = _
  rw [Int32.toBitVec_sub, BitVec.toNat_sub]
  rfl
theorem nt_ushr (x y : Int32) (k : Nat) (hk : ((y.toUInt32 &&& Int32.toUInt32 31) % 32).toBitVec.toNat = k) : nt (x.toUInt32 >>> (y.toUInt32 &&& Int32.toUInt32 31)).toInt32 = nt x >>> k := by
  subst hk
  show (x.toBitVec >>> ((y.toUInt32 &&& Int32.toUInt32 31) % 32).toBitVec).toNat = _
  rw [BitVec.ushiftRight_eq', BitVec.toNat_ushiftRight]
  rfl
theorem nt_iI {x : Int32} {n : Nat} (h : nt x = n) (hn : n < 2147483648) : x = iI n := by
  apply Int32.toBitVec_inj.mp
  apply BitVec.eq_of_toNat_eq
  show nt x = (BitVec.ofInt 32 (n : Int)).toNat
  rw [h, BitVec.ofInt_natCast, BitVec.toNat_ofNat]
  omega
def nb (n : Nat) : Nat → Nat
  | 0 => 0
  | k + 1 => nb n k + (n.testBit k).toNat
theorem nb_cnt {p : Int} : ∀ k : Nat, k ≤ 32 → cnt (fun k => bt p k) k = nb (nt (iI p)) k
  | 0, _ => rfl
  | k + 1, h => by
    have ih := nb_cnt (p := p) k (by omega)
    have e := bt_iff (M := p) (k := (k : Int)) (by omega) (by omega)
    rw [show ((k : Int)).toNat = k by omega] at e
    have e2 : (iI p).toBitVec.getLsbD k = (nt (iI p)).testBit k := rfl
    rw [e2] at e
    show cnt (fun k => bt p k) (k + 1) = ((nb (nt (iI p)) k + ((nt (iI p)).testBit k).toNat : Nat) : Int)
    cases q : (nt (iI p)).testBit k with
    | true =>
      rw [cnt_t (P := fun k => bt p k) (e.mpr q), ih]
      simp
    | false =>
      rw [cnt_f (P := fun k => bt p k) (fun z => by rw [e.mp z] at q; cases q), ih]
      simp
theorem tb8 (h l j : Nat) (hl : l < 256) : (256 * h + l).testBit j = if j < 8 then l.testBit j else h.testBit (j - 8) := Nat.testBit_two_pow_mul_add h (i := 8) hl j
theorem nb_8 {h l : Nat} (hl : l < 256) : ∀ k : Nat, nb (256 * h + l) (8 + k) = nb l 8 + nb h k
  | 0 => by
    have e : ∀ j : Nat, j ≤ 8 → nb (256 * h + l) j = nb l j := by
      intro j
      induction j with
      | zero => exact fun _ => rfl
      | succ j ih =>
        intro hj
        show nb (256 * h + l) j + ((256 * h + l).testBit j).toNat = nb l j + (l.testBit j).toNat
        rw [ih (by omega), tb8 h l j hl, if_pos (by omega)]
    exact e 8 (Nat.le_refl _)
  | k + 1 => by
    have ih := nb_8 (h := h) hl k
    show nb (256 * h + l) (8 + k) + ((256 * h + l).testBit (8 + k)).toNat = nb l 8 + (nb h k + (h.testBit k).toNat)
    rw [ih, tb8 h l _ hl, if_neg (by omega), show 8 + k - 8 = k by omega]
    omega
theorem land_sh {h l M m s : Nat} (hl : l < 256) (hm : m < 256) (hs : ∀ i : Nat, i < 8 → m.testBit i = true → i + s < 8) : ((256 * h + l) >>> s) &&& (256 * M + m) = 256 * ((h >>> s) &&& M) + ((l >>> s) &&& m) := by
  have hlow : (l >>> s) &&& m < 256 := Nat.lt_of_le_of_lt Nat.and_le_right hm
  apply Nat.eq_of_testBit_eq
  intro i
  rw [Nat.testBit_and, Nat.testBit_shiftRight, tb8 h l _ hl, tb8 M m _ hm, tb8 _ _ _ hlow, Nat.testBit_and, Nat.testBit_and, Nat.testBit_shiftRight, Nat.testBit_shiftRight]
  by_cases hi : i < 8
  · rw [if_pos hi, if_pos hi]
    cases q : m.testBit i with
    | false => simp
    | true =>
      have := hs i hi q
      rw [if_pos (show s + i < 8 by omega)]
  · rw [if_neg hi, if_neg hi, if_neg (show ¬ s + i < 8 by omega), show s + i - 8 = s + (i - 8) by omega]
theorem b4_land {a b c d m s : Nat} (ha : a < 256) (hb : b < 256) (hc : c < 256) (hm : m < 256) (hs : ∀ i : Nat, i < 8 → m.testBit i = true → i + s < 8) : ((256 * (256 * (256 * d + c) + b) + a) >>> s) &&& (256 * (256 * (256 * m + m) + m) + m) = 256 * (256 * (256 * ((d >>> s) &&& m) + ((c >>> s) &&& m)) + ((b >>> s) &&& m)) + ((a >>> s) &&& m) := by
  rw [land_sh ha hm hs, land_sh hb hm hs, land_sh hc hm hs]
def f1 (l : Nat) : Nat := l - ((l >>> 1) &&& 85)
def f2 (l : Nat) : Nat := ((l >>> 0) &&& 51) + ((l >>> 2) &&& 51)
theorem sh_le (l s m : Nat) : (l >>> s) &&& m ≤ l := Nat.le_trans Nat.and_le_left (by rw [Nat.shiftRight_eq_div_pow]; exact Nat.div_le_self _ _)
theorem f1_le (l : Nat) : f1 l ≤ l := Nat.sub_le _ _
theorem f2_le (l : Nat) : f2 l ≤ 102 := by
  have h1 : (l >>> 0) &&& 51 ≤ 51 := Nat.and_le_right
  have h2 : (l >>> 2) &&& 51 ≤ 51 := Nat.and_le_right
  unfold f2
  omega
theorem f_key : ∀ a : Fin 256, f2 (f1 a.val) % 16 ≤ 4 ∧ f2 (f1 a.val) / 16 ≤ 4 ∧ f2 (f1 a.val) % 16 + f2 (f1 a.val) / 16 = nb a.val 8 := by decide +kernel
theorem b_hs1 : ∀ i : Nat, i < 8 → (85 : Nat).testBit i = true → i + 1 < 8 := by decide
theorem b_hs2 : ∀ i : Nat, i < 8 → (51 : Nat).testBit i = true → i + 2 < 8 := by decide
theorem b_hs0 {m : Nat} : ∀ i : Nat, i < 8 → m.testBit i = true → i + 0 < 8 := fun i h _ => h
/-- the whole sum, over whole numbers -/
def b4 (a b c d : Nat) : Nat := 256 * (256 * (256 * d + c) + b) + a
theorem pop1 {x x1 a b c d : Nat} (ha : a < 256) (hb : b < 256) (hc : c < 256) (hd : d < 256) (hx : x = b4 a b c d) (e1 : x1 = (4294967296 - ((x >>> 1) &&& 1431655765) + x) % 4294967296) : x1 = b4 (f1 a) (f1 b) (f1 c) (f1 d) := by
  have g := b4_land (d := d) (m := 85) ha hb hc (by decide) b_hs1
  have g : (b4 a b c d >>> 1) &&& 1431655765 = _ := g
  rw [← hx] at g
  have la := sh_le a 1 85
  have lb := sh_le b 1 85
  have lc := sh_le c 1 85
  have ld := sh_le d 1 85
  rw [e1, g, hx]
  unfold f1 b4
  generalize (a >>> 1) &&& 85 = a1 at *
  generalize (b >>> 1) &&& 85 = b1 at *
  generalize (c >>> 1) &&& 85 = c1 at *
  generalize (d >>> 1) &&& 85 = d1 at *
  clear g e1 hx
  omega
theorem pop2 {x1 x2 a b c d : Nat} (ha : a < 256) (hb : b < 256) (hc : c < 256) (hx : x1 = b4 a b c d) (e2 : x2 = ((x1 &&& 858993459) + ((x1 >>> 2) &&& 858993459)) % 4294967296) : x2 = b4 (f2 a) (f2 b) (f2 c) (f2 d) := by
  have g0 := b4_land (a := a) (b := b) (c := c) (d := d) (m := 51) (s := 0) ha hb hc (by decide) b_hs0
  have g2 := b4_land (a := a) (b := b) (c := c) (d := d) (m := 51) (s := 2) ha hb hc (by decide) b_hs2
  have g0 : b4 a b c d &&& 858993459 = _ := g0
  have g2 : (b4 a b c d >>> 2) &&& 858993459 = _ := g2
  rw [← hx] at g0 g2
  have u1 : (a >>> 0) &&& 51 ≤ 51 := Nat.and_le_right
  have u2 : (b >>> 0) &&& 51 ≤ 51 := Nat.and_le_right
  have u3 : (c >>> 0) &&& 51 ≤ 51 := Nat.and_le_right
  have u4 : (d >>> 0) &&& 51 ≤ 51 := Nat.and_le_right
  have v1 : (a >>> 2) &&& 51 ≤ 51 := Nat.and_le_right
  have v2 : (b >>> 2) &&& 51 ≤ 51 := Nat.and_le_right
  have v3 : (c >>> 2) &&& 51 ≤ 51 := Nat.and_le_right
  have v4 : (d >>> 2) &&& 51 ≤ 51 := Nat.and_le_right
  rw [e2, g0, g2]
  unfold f2 b4
  generalize (a >>> 0) &&& 51 = a1 at *
  generalize (b >>> 0) &&& 51 = b1 at *
  generalize (c >>> 0) &&& 51 = c1 at *
  generalize (d >>> 0) &&& 51 = d1 at *
  generalize (a >>> 2) &&& 51 = a2 at *
  generalize (b >>> 2) &&& 51 = b2 at *
  generalize (c >>> 2) &&& 51 = c2 at *
  generalize (d >>> 2) &&& 51 = d2 at *
  clear g0 g2 e2 hx
  omega
theorem by3 {p k : Nat} (h1 : p % 16 ≤ 4) (h2 : p / 16 ≤ 4) : (p + p / 16 + 16 * k) % 16 = p % 16 + p / 16 := by omega
theorem pop3 {x2 x3 p q r s : Nat} (hx : x2 = b4 p q r s) (p1 : p % 16 ≤ 4) (p2 : p / 16 ≤ 4) (q1 : q % 16 ≤ 4) (q2 : q / 16 ≤ 4) (r1 : r % 16 ≤ 4) (r2 : r / 16 ≤ 4) (s1 : s % 16 ≤ 4) (s2 : s / 16 ≤ 4) (e3 : x3 = ((x2 + x2 >>> 4) % 4294967296) &&& 252645135) : x3 = b4 (p % 16 + p / 16) (q % 16 + q / 16) (r % 16 + r / 16) (s % 16 + s / 16) := by
  have ey : (x2 + x2 >>> 4) % 4294967296 = b4 (p + p / 16 + 16 * (q % 16)) (q + q / 16 + 16 * (r % 16)) (r + r / 16 + 16 * (s % 16)) (s + s / 16 + 16 * 0) := by
    rw [Nat.shiftRight_eq_div_pow, hx]
    clear e3 hx
    unfold b4
    omega
  have g := b4_land (a := p + p / 16 + 16 * (q % 16)) (b := q + q / 16 + 16 * (r % 16)) (c := r + r / 16 + 16 * (s % 16)) (d := s + s / 16 + 16 * 0) (m := 15) (s := 0) (by omega) (by omega) (by omega) (by decide) b_hs0
  have e15 : ∀ n : Nat, (n >>> 0) &&& 15 = n % 16 := fun n => Nat.and_two_pow_sub_one_eq_mod n 4
  rw [e15, e15, e15, e15, by3 p1 p2, by3 q1 q2, by3 r1 r2, by3 s1 s2] at g
  rw [e3, ey]
  exact g
theorem pop4 {x3 x4 x5 w v u t : Nat} (hx : x3 = b4 w v u t) (h1 : w ≤ 8) (h2 : v ≤ 8) (h3 : u ≤ 8) (h4 : t ≤ 8) (e4 : x4 = (x3 + x3 >>> 8) % 4294967296) (e5 : x5 = (x4 + x4 >>> 16) % 4294967296) : x5 &&& 63 = w + (v + (u + t)) := by
  have e63 : x5 &&& 63 = x5 % 64 := Nat.and_two_pow_sub_one_eq_mod x5 6
  rw [Nat.shiftRight_eq_div_pow] at e4 e5
  have h5 : x4 = b4 (w + v) (v + u) (u + t) t := by
    rw [e4, hx]
    clear e4 e5 hx e63
    unfold b4
    omega
  have h6 : x5 = b4 (w + v + (u + t)) (v + u + t) (u + t) t := by
    have hq : b4 (w + v) (v + u) (u + t) t / 2 ^ 16 = 256 * t + (u + t) := by
      clear e4 e5 hx h5 e63
      unfold b4
      omega
    rw [e5, h5, hq]
    clear e4 e5 hx h5 e63 hq
    unfold b4
    omega
  rw [e63, h6]
  clear e4 e5 hx h5 h6 e63
  unfold b4
  omega
theorem popC {x x1 x2 x3 x4 x5 : Nat} (hx : x < 4294967296) (e1 : x1 = (4294967296 - ((x >>> 1) &&& 1431655765) + x) % 4294967296) (e2 : x2 = ((x1 &&& 858993459) + ((x1 >>> 2) &&& 858993459)) % 4294967296) (e3 : x3 = ((x2 + x2 >>> 4) % 4294967296) &&& 252645135) (e4 : x4 = (x3 + x3 >>> 8) % 4294967296) (e5 : x5 = (x4 + x4 >>> 16) % 4294967296) : x5 &&& 63 = nb x 32 ∧ nb x 32 ≤ 32 := by
  obtain ⟨a, b, c, d, ha, hb, hc, hd, hxx⟩ : ∃ a b c d : Nat, a < 256 ∧ b < 256 ∧ c < 256 ∧ d < 256 ∧ x = b4 a b c d := ⟨x % 256, x / 256 % 256, x / 65536 % 256, x / 16777216, by omega, by omega, by omega, by omega, by unfold b4; omega⟩
  have hn : nb x 32 = nb a 8 + (nb b 8 + (nb c 8 + nb d 8)) := by
    rw [hxx, show (32 : Nat) = 8 + (8 + (8 + 8)) from rfl]
    unfold b4
    rw [nb_8 ha, nb_8 hb, nb_8 hc]
  have ka : f2 (f1 a) % 16 ≤ 4 ∧ f2 (f1 a) / 16 ≤ 4 ∧ f2 (f1 a) % 16 + f2 (f1 a) / 16 = nb a 8 := f_key ⟨a, ha⟩
  have kb : f2 (f1 b) % 16 ≤ 4 ∧ f2 (f1 b) / 16 ≤ 4 ∧ f2 (f1 b) % 16 + f2 (f1 b) / 16 = nb b 8 := f_key ⟨b, hb⟩
  have kc : f2 (f1 c) % 16 ≤ 4 ∧ f2 (f1 c) / 16 ≤ 4 ∧ f2 (f1 c) % 16 + f2 (f1 c) / 16 = nb c 8 := f_key ⟨c, hc⟩
  have kd : f2 (f1 d) % 16 ≤ 4 ∧ f2 (f1 d) / 16 ≤ 4 ∧ f2 (f1 d) % 16 + f2 (f1 d) / 16 = nb d 8 := f_key ⟨d, hd⟩
  have h1 := pop1 ha hb hc hd hxx e1
  have h2 := pop2 (Nat.lt_of_le_of_lt (f1_le a) ha) (Nat.lt_of_le_of_lt (f1_le b) hb) (Nat.lt_of_le_of_lt (f1_le c) hc) h1 e2
  have h3 := pop3 h2 ka.1 ka.2.1 kb.1 kb.2.1 kc.1 kc.2.1 kd.1 kd.2.1 e3
  rw [ka.2.2, kb.2.2, kc.2.2, kd.2.2] at h3
  have la : nb a 8 ≤ 8 := by rw [← ka.2.2]; exact Nat.add_le_add ka.1 ka.2.1
  have lb : nb b 8 ≤ 8 := by rw [← kb.2.2]; exact Nat.add_le_add kb.1 kb.2.1
  have lc : nb c 8 ≤ 8 := by rw [← kc.2.2]; exact Nat.add_le_add kc.1 kc.2.1
  have ld : nb d 8 ≤ 8 := by rw [← kd.2.2]; exact Nat.add_le_add kd.1 kd.2.1
  have h4 := pop4 h3 la lb lc ld e4 e5
  rw [h4, hn]
  exact ⟨rfl, by clear h4 h3 h2 h1 ka kb kc kd e1 e2 e3 e4 e5 hn hxx; omega⟩
set_option maxHeartbeats 1000000 in
set_option maxRecDepth 100000 in
theorem c_J6_bitCount (l : Launch) (D : va_G) (p0 : Int) (_h0 : -2147483648 ≤ p0 ∧ p0 < 2147483648) : ro_M l yJ6_bitCount_0f7a4 cJ6_bitCount_0f7a4 1 (some .int) 0 [.int (iI p0)] D [] [] (fun r => r = cnt (fun k => bt p0 k) 32) := by
  refine me_start (by decide) (Nat.le_of_ble_eq_true rfl) rfl ?_
  intro p e s m below meth c hx hb hml hr hown hlocks hnm hG hK hP ls hl
  have hown : s.vm.findClass RJ6 = some m.cls := hown
  have hl : lv_has ls 1 [(0, .int (iI p0))] := hl
  obtain ⟨x, ex⟩ : ∃ x, x = iI p0 := ⟨_, rfl⟩
  rw [← ex] at hl
  refine lv_iload_n hx hb dJ6_bitCount_0f7a4_0 rfl (lv_at hl 0 rfl) ?_
  refine lv_iload_n hx hb dJ6_bitCount_0f7a4_1 rfl (lv_at hl 0 rfl) ?_
  refine xr_iconst hx hb dJ6_bitCount_0f7a4_2 ?_
  refine lv_iushr hx hb (v := (x.toUInt32 >>> ((iI 1).toUInt32 &&& Int32.toUInt32 31)).toInt32) dJ6_bitCount_0f7a4_3 rfl ?_
  refine lv_ldcw hx hb hown (hG.use _ ct_J6_265) dJ6_bitCount_0f7a4_4 ?_
  refine lv_iand hx hb dJ6_bitCount_0f7a4_7 ?_
  refine lv_isub hx hb dJ6_bitCount_0f7a4_8 ?_
  refine lv_istore_n (lv' := [(0, .int (x - ((x.toUInt32 >>> ((iI 1).toUInt32 &&& Int32.toUInt32 31)).toInt32 &&& 1431655765)))]) hx hb dJ6_bitCount_0f7a4_9 rfl hl (by decide) rfl (fun ls hl => ?_)
  generalize y1e : (x - ((x.toUInt32 >>> ((iI 1).toUInt32 &&& Int32.toUInt32 31)).toInt32 &&& 1431655765)) = y1 at hl
  refine lv_iload_n hx hb dJ6_bitCount_0f7a4_10 rfl (lv_at hl 0 rfl) ?_
  refine lv_ldcw hx hb hown (hG.use _ ct_J6_266) dJ6_bitCount_0f7a4_11 ?_
  refine lv_iand hx hb dJ6_bitCount_0f7a4_14 ?_
  refine lv_iload_n hx hb dJ6_bitCount_0f7a4_15 rfl (lv_at hl 0 rfl) ?_
  refine xr_iconst hx hb dJ6_bitCount_0f7a4_16 ?_
  refine lv_iushr hx hb (v := (y1.toUInt32 >>> ((iI 2).toUInt32 &&& Int32.toUInt32 31)).toInt32) dJ6_bitCount_0f7a4_17 rfl ?_
  refine lv_ldcw hx hb hown (hG.use _ ct_J6_266) dJ6_bitCount_0f7a4_18 ?_
  refine lv_iand hx hb dJ6_bitCount_0f7a4_21 ?_
  refine lv_iadd hx hb dJ6_bitCount_0f7a4_22 ?_
  refine lv_istore_n (lv' := [(0, .int ((y1 &&& 858993459) + ((y1.toUInt32 >>> ((iI 2).toUInt32 &&& Int32.toUInt32 31)).toInt32 &&& 858993459)))]) hx hb dJ6_bitCount_0f7a4_23 rfl hl (by decide) rfl (fun ls hl => ?_)
  generalize y2e : ((y1 &&& 858993459) + ((y1.toUInt32 >>> ((iI 2).toUInt32 &&& Int32.toUInt32 31)).toInt32 &&& 858993459)) = y2 at hl
  refine lv_iload_n hx hb dJ6_bitCount_0f7a4_24 rfl (lv_at hl 0 rfl) ?_
  refine lv_iload_n hx hb dJ6_bitCount_0f7a4_25 rfl (lv_at hl 0 rfl) ?_
  refine xr_iconst hx hb dJ6_bitCount_0f7a4_26 ?_
  refine lv_iushr hx hb (v := (y2.toUInt32 >>> ((iI 4).toUInt32 &&& Int32.toUInt32 31)).toInt32) dJ6_bitCount_0f7a4_27 rfl ?_
  refine lv_iadd hx hb dJ6_bitCount_0f7a4_28 ?_
  refine lv_ldcw hx hb hown (hG.use _ ct_J6_267) dJ6_bitCount_0f7a4_29 ?_
  refine lv_iand hx hb dJ6_bitCount_0f7a4_32 ?_
  refine lv_istore_n (lv' := [(0, .int ((y2 + (y2.toUInt32 >>> ((iI 4).toUInt32 &&& Int32.toUInt32 31)).toInt32) &&& 252645135))]) hx hb dJ6_bitCount_0f7a4_33 rfl hl (by decide) rfl (fun ls hl => ?_)
  generalize y3e : ((y2 + (y2.toUInt32 >>> ((iI 4).toUInt32 &&& Int32.toUInt32 31)).toInt32) &&& 252645135) = y3 at hl
  refine lv_iload_n hx hb dJ6_bitCount_0f7a4_34 rfl (lv_at hl 0 rfl) ?_
  refine lv_iload_n hx hb dJ6_bitCount_0f7a4_35 rfl (lv_at hl 0 rfl) ?_
  refine xr_bipush hx hb dJ6_bitCount_0f7a4_36 (by decide +kernel) ?_
  refine lv_iushr hx hb (v := (y3.toUInt32 >>> ((iI 8).toUInt32 &&& Int32.toUInt32 31)).toInt32) dJ6_bitCount_0f7a4_38 rfl ?_
  refine lv_iadd hx hb dJ6_bitCount_0f7a4_39 ?_
  refine lv_istore_n (lv' := [(0, .int (y3 + (y3.toUInt32 >>> ((iI 8).toUInt32 &&& Int32.toUInt32 31)).toInt32))]) hx hb dJ6_bitCount_0f7a4_40 rfl hl (by decide) rfl (fun ls hl => ?_)
  generalize y4e : (y3 + (y3.toUInt32 >>> ((iI 8).toUInt32 &&& Int32.toUInt32 31)).toInt32) = y4 at hl
  refine lv_iload_n hx hb dJ6_bitCount_0f7a4_41 rfl (lv_at hl 0 rfl) ?_
  refine lv_iload_n hx hb dJ6_bitCount_0f7a4_42 rfl (lv_at hl 0 rfl) ?_
  refine xr_bipush hx hb dJ6_bitCount_0f7a4_43 (by decide +kernel) ?_
  refine lv_iushr hx hb (v := (y4.toUInt32 >>> ((iI 16).toUInt32 &&& Int32.toUInt32 31)).toInt32) dJ6_bitCount_0f7a4_45 rfl ?_
  refine lv_iadd hx hb dJ6_bitCount_0f7a4_46 ?_
  refine lv_istore_n (lv' := [(0, .int (y4 + (y4.toUInt32 >>> ((iI 16).toUInt32 &&& Int32.toUInt32 31)).toInt32))]) hx hb dJ6_bitCount_0f7a4_47 rfl hl (by decide) rfl (fun ls hl => ?_)
  generalize y5e : (y4 + (y4.toUInt32 >>> ((iI 16).toUInt32 &&& Int32.toUInt32 31)).toInt32) = y5 at hl
  refine lv_iload_n hx hb dJ6_bitCount_0f7a4_48 rfl (lv_at hl 0 rfl) ?_
  refine xr_bipush hx hb dJ6_bitCount_0f7a4_49 (by decide +kernel) ?_
  refine lv_iand hx hb dJ6_bitCount_0f7a4_51 ?_
  have k1 := nt_sub x (((x.toUInt32 >>> ((iI 1).toUInt32 &&& Int32.toUInt32 31)).toInt32) &&& 1431655765)
  rw [y1e, nt_and, nt_ushr x (iI 1) 1 (by decide +kernel)] at k1
  have k2 := nt_add (y1 &&& 858993459) (((y1.toUInt32 >>> ((iI 2).toUInt32 &&& Int32.toUInt32 31)).toInt32) &&& 858993459)
  rw [y2e, nt_and, nt_and, nt_ushr y1 (iI 2) 2 (by decide +kernel)] at k2
  have k3 := nt_and (y2 + (y2.toUInt32 >>> ((iI 4).toUInt32 &&& Int32.toUInt32 31)).toInt32) 252645135
  rw [y3e, nt_add, nt_ushr y2 (iI 4) 4 (by decide +kernel)] at k3
  have k4 := nt_add y3 (y3.toUInt32 >>> ((iI 8).toUInt32 &&& Int32.toUInt32 31)).toInt32
  rw [y4e, nt_ushr y3 (iI 8) 8 (by decide +kernel)] at k4
  have k5 := nt_add y4 (y4.toUInt32 >>> ((iI 16).toUInt32 &&& Int32.toUInt32 31)).toInt32
  rw [y5e, nt_ushr y4 (iI 16) 16 (by decide +kernel)] at k5
  have k6 := nt_and y5 (iI 63)
  have c1 : nt 1431655765 = 1431655765 := by decide +kernel
  have c2 : nt 858993459 = 858993459 := by decide +kernel
  have c3 : nt 252645135 = 252645135 := by decide +kernel
  have c6 : nt (iI 63) = 63 := by decide +kernel
  rw [c1] at k1
  rw [c2] at k2
  rw [c3] at k3
  rw [c6] at k6
  obtain ⟨z1, z2⟩ := popC (nt_lt x) k1 k2 k3 k4 k5
  rw [z1] at k6
  have hv := nt_iI k6 (by omega)
  have hc := nb_cnt (p := p0) 32 (Nat.le_refl _)
  rw [← ex] at hc
  rw [hv, ← hc]
  exact W.iret (v := iI (cnt (fun k => bt p0 k) 32)) hx hb hr (fun t ht9 hW => ⟨_, rfl, rfl, ht9⟩) t_nil dJ6_bitCount_0f7a4_52
