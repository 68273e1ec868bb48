theorem i_Jx00060 : ∀ w ∈ u_ws RJx00060 TJx00060 6, w ∈ g_tbl := by decide +kernel
theorem st_tA {args : Array Value} {s : State} (hts : ∀ w ∈ lw_tbl, w.before args s = true) (hgv : (Jvm.Cond.and given_1 narrow_1).before args s = true) : ∀ w ∈ exA, w.before #[] s = true := by
  intro w hw
  have hs := flat_of_before _ hgv
  refine tk_at w (tk_all w hw) (State.WarmedH.refl s) (fun _ _ => rfl) (A := args) ?_
  rcases tk_in w hw with h | rfl | rfl
  · exact hts w (List.mem_append_right _ h)
  · exact hs _ (by decide +kernel)
  · exact hs _ (by decide +kernel)
theorem st_str {args : Array Value} {s : State} {n : Nat} {tx : String} (h1 : (Cond.stringRef "FormatRows" n tx).before args s = true) (h2 : (Cond.exactly (Term.string "FormatRows" n) "java/lang/String").before args s = true) : ∃ q, vk_R "FormatRows" n tx q s := by
  obtain ⟨q, -, -, -, hv, -⟩ := Cond.exactly_spec (args := args) h2
  exact ⟨q, vk_R.of h1 hv⟩
theorem st_gG {args : Array Value} {s : State} (hts : ∀ w ∈ lw_tbl, w.before args s = true) : gG s := fun w hw => by
  have h := List.mem_filter.mp hw
  exact g_at h.2 (State.WarmedH.refl s) (hts w h.1)
theorem st_K {s : State} (hG : gG s) : ∃ D : va_G, va_K D vwC [] s := by
  obtain ⟨c0, i0, k0⟩ := u_known (args := #[]) hG.use i_Jx00060 (hG.use _ in_Jx00060)
  obtain ⟨c1, i1, k1⟩ := u_known (args := #[]) hG.use i_X0 (hG.use _ in_X0)
  obtain ⟨c2, i2, k2⟩ := u_known (args := #[]) hG.use i_X1 (hG.use _ in_X1)
  obtain ⟨c3, i3, k3⟩ := u_known (args := #[]) hG.use i_X2 (hG.use _ in_X2)
  obtain ⟨c4, i4, k4⟩ := u_known (args := #[]) hG.use i_X3 (hG.use _ in_X3)
  obtain ⟨c5, i5, k5⟩ := u_known (args := #[]) hG.use i_X4 (hG.use _ in_X4)
  obtain ⟨c6, i6, k6⟩ := u_known (args := #[]) hG.use i_X5 (hG.use _ in_X5)
  obtain ⟨c7, i7, k7⟩ := u_known (args := #[]) hG.use i_X6 (hG.use _ in_X6)
  refine ⟨(fun c => [c0, c1, c2, c3, c4, c5, c6, c7].getD c 0, fun c => [i0, i1, i2, i3, i4, i5, i6, i7].getD c i0), fun c q hq => ?_, fun k q hk => by cases hk⟩
  match c, hq with
  | 0, hq => cases hq; exact k0
  | 1, hq => cases hq; exact k1
  | 2, hq => cases hq; exact k2
  | 3, hq => cases hq; exact k3
  | 4, hq => cases hq; exact k4
  | 5, hq => cases hq; exact k5
  | 6, hq => cases hq; exact k6
  | 7, hq => cases hq; exact k7
  | n + 8, hq => cases hq
theorem df_X5 : ∀ j, j < 7 → defaultValue (tyX5 j) = vp_V [.null, .null, .null, .null, .null, .null, .int (iI 0)] j := by
  intro j hj
  match j, hj with
  | 0, _ => rfl
  | 1, _ => rfl
  | 2, _ => rfl
  | 3, _ => rfl
  | 4, _ => rfl
  | 5, _ => rfl
  | 6, _ => rfl
  | n + 7, h => exact absurd h (by omega)
theorem df_X6 : ∀ j, j < 27 → defaultValue (tyX6 j) = vp_V [.int (iI 0), .int (iI 0), .null, .int (iI 0), .int (iI 0), .null, .null, .null, .null, .null, .null, .int (iI 0), .null, .null, .null, .null, .null, .int (iI 0), .null, .null, .null, .null, .null, .int (iI 0), .null, .null, .null] j := by
  intro j hj
  match j, hj with
  | 0, _ => rfl
  | 1, _ => rfl
  | 2, _ => rfl
  | 3, _ => rfl
  | 4, _ => rfl
  | 5, _ => rfl
  | 6, _ => rfl
  | 7, _ => rfl
  | 8, _ => rfl
  | 9, _ => rfl
  | 10, _ => rfl
  | 11, _ => rfl
  | 12, _ => rfl
  | 13, _ => rfl
  | 14, _ => rfl
  | 15, _ => rfl
  | 16, _ => rfl
  | 17, _ => rfl
  | 18, _ => rfl
  | 19, _ => rfl
  | 20, _ => rfl
  | 21, _ => rfl
  | 22, _ => rfl
  | 23, _ => rfl
  | 24, _ => rfl
  | 25, _ => rfl
  | 26, _ => rfl
  | n + 27, h => exact absurd h (by omega)
theorem za_long (cA : ClassId) : vp_cell cA (1, .inr (.inl (fun _ => 0))) = arrV cA 1 (fun _ => defaultValue .long) := rfl
theorem apart_last {A : Nat → Prop} {ws : va_W} {o : Nat} {E : va_E} (hD : va_D A (ws ++ [(o, E)])) : ∀ (k : Nat) (q : Nat × va_E), ws[k]? = some q → q.1 ≠ o := fun k q hq h => by
  have h1 : k < ws.length := (List.getElem?_eq_some_iff.mp hq).1
  have := hD.1 k ws.length q (o, E) (by rw [List.getElem?_append_left h1]; exact hq) (by simp) h
  omega
theorem va_D0 {A : Nat → Prop} : va_D A ([] : va_W) := ⟨fun i j x y hx => (by cases hx), fun k q hq => (by cases hq)⟩
set_option maxHeartbeats 4000000 in
set_option maxRecDepth 100000 in
theorem lw_begin {l : Launch} {p : Program} {e : Env} {s : State} {m : MethodId} {below : List Frame} {meth : Method} {c : Code} {b L : Nat} {xs : Nat → Int32} {D : va_G} (hfl : l.flags = flags0) (hL : L ≤ 2048) (hx : p.tables.exec = Jvm.exec) (hb : c.code = cL_law) (hr : meth.sig.returnType = ret) (hml : c.maxLocals = 7) (hown : s.vm.findClass RL = some m.cls) (hG : gG s) (hTA : tA s) (hX : va_X b L xs s s.heap) (hbl : b < s.heap.size) (hlk : meth.locks = false) (hK0 : va_K D vwC [] s) (ls : Array Slot) (hl : lv_has ls 7 [(0, .ref b)]) :
    W p l e room_1 s m #[Value.ref b] below meth c s.heap [] 0 0 (lw_Z below #[Value.ref b] s) (F0 m 0 ls []) := by
  have hS : va_S (fun q => s.heap.size ≤ q) s.heap s.heap [] := va_S.rf
  have hA : ∀ q, s.heap.size ≤ q → (fun q => s.heap.size ≤ q) q := fun _ h => h
  refine va_new (ci := 6) (C := RX5) (T := TX5) (N := 7) hx hb hG.use i_X5 tyX5 tyX5_ok hown (hG.use _ lc_L_8) (hG.use _ in_X5) (hG.use _ ini_X5) hK0 va_P0 va_D0 hS hA rfl df_X5 (Nat.le_of_ble_eq_true rfl) (Nat.le_of_ble_eq_true rfl) dL_law_0 (fun q0 H hP hD hS => ?_)
  have hPc : va_P D vwC [(q0, .inr (6, [.null, .null, .null, .null, .null, .null, .int (iI 0)]))] H := hP
  have hDc : va_D (fun q => s.heap.size ≤ q) [(q0, .inr (6, [.null, .null, .null, .null, .null, .null, .int (iI 0)]))] := hD
  refine lv_dup hx hb dL_law_3 rfl ?_
  refine va_callv (rest := [.ref q0]) (ci_run (rest := [.ref q0]) hx hb hml hown hG hK0 hPc (hDc.weaken (fun _ _ _ _ => trivial)) mc_X5_init ini_X5 mi_X5_init (by decide) (by decide +kernel) rfl (c_X5_init l D q0 H.size) lk_L_19 hl.1 rfl (Nat.le_of_ble_eq_true rfl) ⟨(Nat.le_of_ble_eq_true rfl), (Nat.le_of_ble_eq_true rfl)⟩ ⟨(Nat.le_of_ble_eq_true rfl), (Nat.le_of_ble_eq_true rfl)⟩ dL_law_4) hS (fun q _ h => va_free hDc hS hA [0] (wc := [(q0, .inr (6, [.null, .null, .null, .null, .null, .null, .int (iI 0)]))]) rfl q h) (fun q h => va_free hDc hS hA [0] (wc := [(q0, .inr (6, [.null, .null, .null, .null, .null, .null, .int (iI 0)]))]) rfl q h) (fun u t9 H1 locs ht9 hvm9 hu hB _ hk1 hS1 => ?_)
  obtain ⟨a, k, F⟩ := u
  obtain ⟨hP1, hK1, hD1⟩ := hB
  rw [ht9] at hP1
  have hPx : va_P D vwC (xW a k (fun _ => 0) F) H1 := hP1
  have hKx : va_K D vwC (xT k) s := va_K.moved hvm9.symm hK1
  have hda : dis 24 a := x5_dis hD1
  have hax : ∀ q, adr 24 a q → s.heap.size ≤ q := fun q h => by
    obtain ⟨i, h1, h2⟩ := h
    rw [h2]
    exact va_free hDc hS hA [0] (wc := [(q0, .inr (6, [.null, .null, .null, .null, .null, .null, .int (iI 0)]))]) rfl _ (x5_in hD1 i h1)
  have hu : x0 q0 a F := hu
  have ea : a 0 = q0 := hu.1
  have hS := hS1
  clear hD1 hK1 hP1 hk1 hPc hDc hP hD hS1
  subst ea
  refine lv_astore_n (lv' := [(1, .ref (a 0)), (0, .ref b)]) hx hb dL_law_7 rfl hl (by decide) rfl (fun ls hl => ?_)
  refine va_new (ci := 7) (C := RX6) (T := TX6) (N := 27) hx hb hG.use i_X6 tyX6 tyX6_ok hown (hG.use _ lc_L_20) (hG.use _ in_X6) (hG.use _ ini_X6) hK0 hPx ((xD hda).weaken (fun _ _ _ h => hax _ h)) hS hA rfl df_X6 (Nat.le_of_ble_eq_true rfl) (Nat.le_of_ble_eq_true rfl) dL_law_8 (fun q1 H2 hP hD hS => ?_)
  have hPx := hP.sub (ws' := xW a k (fun _ => 0) F) [0, 1, 2, 3, 4, 5, 6, 7, 8, 9, 10, 11, 12, 13, 14, 15, 16, 17, 18, 19, 20, 21, 22, 23] rfl
  have hPc := hP.sub (ws' := [(q1, .inr (7, [.int (iI 0), .int (iI 0), .null, .int (iI 0), .int (iI 0), .null, .null, .null, .null, .null, .null, .int (iI 0), .null, .null, .null, .null, .null, .int (iI 0), .null, .null, .null, .null, .null, .int (iI 0), .null, .null, .null]))]) [24] rfl
  have hDc := hD.sub (ws' := [(q1, .inr (7, [.int (iI 0), .int (iI 0), .null, .int (iI 0), .int (iI 0), .null, .null, .null, .null, .null, .null, .int (iI 0), .null, .null, .null, .null, .null, .int (iI 0), .null, .null, .null, .null, .null, .int (iI 0), .null, .null, .null]))]) [24] (by decide) rfl
  have hlt : ∀ q, adr 24 a q → q < H2.size := fun q h => by
    obtain ⟨i, h1, h2⟩ := h
    obtain ⟨E, hE⟩ := x5_key (k := k) (I := fun _ => 0) (F := F) (a := a) i h1
    rw [h2]
    exact (hPx i _ hE).lt
  have hq1 : ∀ q, adr 24 a q → q ≠ q1 := fun q h => by
    obtain ⟨i, h1, h2⟩ := h
    obtain ⟨E, hE⟩ := x5_key (k := k) (I := fun _ => 0) (F := F) (a := a) i h1
    rw [h2]
    exact apart_last hD i _ hE
  refine lv_dup hx hb dL_law_11 rfl ?_
  refine va_callv (rest := [.ref q1]) (ci_run (rest := [.ref q1]) hx hb hml hown hG hK0 hPc (hDc.weaken (fun _ _ _ _ => trivial)) mc_X6_init ini_X6 mi_X6_init (by decide) (by decide +kernel) rfl (c_X6_init l D q1 H2.size) lk_L_22 hl.1 rfl (Nat.le_of_ble_eq_true rfl) ⟨(Nat.le_of_ble_eq_true rfl), (Nat.le_of_ble_eq_true rfl)⟩ ⟨(Nat.le_of_ble_eq_true rfl), (Nat.le_of_ble_eq_true rfl)⟩ dL_law_12) hS (fun q _ h => va_free hDc hS hA [0] (wc := [(q1, .inr (7, [.int (iI 0), .int (iI 0), .null, .int (iI 0), .int (iI 0), .null, .null, .null, .null, .null, .null, .int (iI 0), .null, .null, .null, .null, .null, .int (iI 0), .null, .null, .null, .null, .null, .int (iI 0), .null, .null, .null]))]) rfl q h) (fun q h => va_free hDc hS hA [0] (wc := [(q1, .inr (7, [.int (iI 0), .int (iI 0), .null, .int (iI 0), .int (iI 0), .null, .null, .null, .null, .null, .null, .int (iI 0), .null, .null, .null, .null, .null, .int (iI 0), .null, .null, .null, .null, .null, .int (iI 0), .null, .null, .null]))]) rfl q h) (fun u t9 H3 locs ht9 hvm9 hv hB _ hk2 hS3 => ?_)
  obtain ⟨a', k', G⟩ := u
  obtain ⟨hP1, hK1, hD1⟩ := hB
  rw [ht9] at hP1
  have hPm : va_P D vwC (mW a' k' (fun _ => 0) G) H3 := hP1
  have hKm : va_K D vwC (mT k') s := va_K.moved hvm9.symm hK1
  have hdm : dis 21 a' := m6_dis hD1
  have ham0 : ∀ q, adr 21 a' q → va_A [(q1, .inr (7, [.int (iI 0), .int (iI 0), .null, .int (iI 0), .int (iI 0), .null, .null, .null, .null, .null, .null, .int (iI 0), .null, .null, .null, .null, .null, .int (iI 0), .null, .null, .null, .null, .null, .int (iI 0), .null, .null, .null]))] H2.size q := fun q h => by
    obtain ⟨i, h1, h2⟩ := h
    rw [h2]
    exact m6_in hD1 i h1
  have ham : ∀ q, adr 21 a' q → s.heap.size ≤ q := fun q h => va_free hDc hS hA [0] (wc := [(q1, .inr (7, [.int (iI 0), .int (iI 0), .null, .int (iI 0), .int (iI 0), .null, .null, .null, .null, .null, .null, .int (iI 0), .null, .null, .null, .null, .null, .int (iI 0), .null, .null, .null, .null, .null, .int (iI 0), .null, .null, .null]))]) rfl _ (ham0 q h)
  have hno : ∀ q, adr 24 a q → ¬ va_A [(q1, .inr (7, [.int (iI 0), .int (iI 0), .null, .int (iI 0), .int (iI 0), .null, .null, .null, .null, .null, .null, .int (iI 0), .null, .null, .null, .null, .null, .int (iI 0), .null, .null, .null, .null, .null, .int (iI 0), .null, .null, .null]))] H2.size q := fun q h z => by
    rcases z with ⟨j, E, z⟩ | z
    · exact hq1 q h (one_in j _ z)
    · exact absurd (hlt q h) (by omega)
  have hap : ∀ q, adr 24 a q → ¬ adr 21 a' q := fun q h z => hno q h (ham0 q z)
  have hPx := kpP hPx (xD hda).2 (fun q h _ => hno q h) hk2
  have hv : m0 q1 a' G := hv
  have ea : a' 0 = q1 := hv.1
  have hS := hS3
  clear hD1 hK1 hP1 hk2 hPc hDc hP hD hS3 ham0 hno hq1 hlt
  subst ea
  refine lv_astore_n (lv' := [(2, .ref (a' 0)), (1, .ref (a 0)), (0, .ref b)]) hx hb dL_law_15 rfl hl (by decide) rfl (fun ls hl => ?_)
  refine xr_iconst hx hb dL_law_16 ?_
  have hDxm : va_D (fun q => s.heap.size ≤ q) (xW a k (fun _ => 0) F ++ mW a' k' (fun _ => 0) G) := va_D.app ((xD hda).weaken (fun _ _ _ h => hax _ h)) ((mD hdm).weaken (fun _ _ _ h => ham _ h)) (fun i j x y h1 h2 h3 => hap _ ((xD hda).2 i x h1) (by rw [h3]; exact (mD hdm).2 j y h2))
  refine va_newa (atype := .long) (ty := .long) (N' := 1) (a0 := (1, .inr (.inl (fun _ => 0)))) hx hb (hG.use _ ac_long) rfl hK0 (va_P.app hPx hPm) hDxm hS hA za_long (by decide +kernel) (by decide +kernel) (by decide) (Nat.le_of_ble_eq_true rfl) (Nat.le_of_ble_eq_true rfl) dL_law_17 (fun o ko H4 hKo hP hD hS => ?_)
  have hKo : va_K D vwC [(ko, .long)] s := hKo
  have hPx : va_P D vwC (xW a k (fun _ => 0) F) H4 := hP.sub [0, 1, 2, 3, 4, 5, 6, 7, 8, 9, 10, 11, 12, 13, 14, 15, 16, 17, 18, 19, 20, 21, 22, 23] rfl
  have hPm : va_P D vwC (mW a' k' (fun _ => 0) G) H4 := hP.sub [24, 25, 26, 27, 28, 29, 30, 31, 32, 33, 34, 35, 36, 37, 38, 39, 40, 41, 42, 43, 44] rfl
  have hPo : va_P D vwC [(o, .inl (ko, 1, .inr (.inl (fun _ => 0))))] H4 := hP.sub [45] rfl
  have hao : s.heap.size ≤ o := hD.2 45 (o, .inl (ko, 1, .inr (.inl (fun _ => 0)))) rfl
  have hox : ¬ adr 24 a o := fun h => by
    obtain ⟨i, h1, h2⟩ := h
    obtain ⟨E, hE⟩ := x5_key (k := k) (I := fun _ => 0) (F := F) (a := a) i h1
    exact apart_last hD i (a i, E) (by rw [List.getElem?_append_left (show i < (xW a k (fun _ => 0) F).length from h1)]; exact hE) h2.symm
  have hom : ¬ adr 21 a' o := fun h => by
    obtain ⟨i, h1, h2⟩ := h
    obtain ⟨E, hE⟩ := m6_key (k := k') (I := fun _ => 0) (F := G) (a := a') i h1
    exact apart_last hD (24 + i) (a' i, E) (by rw [List.getElem?_append_right (show (xW a k (fun _ => 0) F).length ≤ 24 + i from Nat.le_add_right 24 i), show 24 + i - (xW a k (fun _ => 0) F).length = i from Nat.add_sub_cancel_left 24 i]; exact hE) h2.symm
  refine lv_astore_n (lv' := [(3, .ref o), (2, .ref (a' 0)), (1, .ref (a 0)), (0, .ref b)]) hx hb dL_law_19 rfl hl (by decide) rfl (fun ls hl => ?_)
  refine xr_iconst hx hb dL_law_20 ?_
  refine lv_istore (lv' := [(4, .int (iI 0)), (3, .ref o), (2, .ref (a' 0)), (1, .ref (a 0)), (0, .ref b)]) hx hb dL_law_21 hl (by decide) rfl (fun ls hl => ?_)
  refine W.widen (k := 46 + 0) (n := 7991 + 6 * 0) (Nat.le_of_ble_eq_true rfl) (Nat.le_of_ble_eq_true rfl) ?_
  exact lw_loop ⟨hfl, hx, hb, hml, hown, hG, hTA, hX, hbl, hL, hKx, hKm, hKo, hda, hdm, hap, hox, hom, hax, ham, hao⟩ hr hlk 514 0 0 (fun _ => 0) F (fun _ => 0) G H4 _ ls (by omega) (by omega) (by omega) ⟨s_start (fun _ => rfl) (fun _ => rfl) hu hv, hPx, hPm, ⟨_, hPo⟩, hS⟩ (lv_sub hl [0, 4, 3, 2, 1] rfl)
