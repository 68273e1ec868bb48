theorem nm_F : (parseMethodDescriptor yL_found.desc).map (fun d => d.parameters.length) = some 3 := by decide +kernel
theorem nm_P : (parseMethodDescriptor yL_pattern.desc).map (fun d => d.parameters.length) = some 4 := by decide +kernel
theorem pat_w {A : Prop} {x : Int} : ∃ w : Int, ((¬ A ∧ w = -1) ∨ (A ∧ w = x)) ∧ ∀ r, ((¬ A ∧ r = -1) ∨ (A ∧ r = x)) → r = w := by
  by_cases h : A
  · exact ⟨x, Or.inr ⟨h, rfl⟩, fun r hr => hr.elim (fun z => absurd h z.1) (fun z => z.2)⟩
  · exact ⟨-1, Or.inl ⟨h, rfl⟩, fun r hr => hr.elim (fun z => z.2) (fun z => absurd z.1 h)⟩
set_option maxHeartbeats 4000000 in
set_option maxRecDepth 100000 in
theorem lw_sign {l : Launch} {p : Program} {e : Env} {s : State} {m : MethodId} {below : List Frame} {meth : Method} {c : Code} {Q : State → Prop} {b L : Nat} {xs : Nat → Int32} {D : va_G} {a : Nat → Nat} {k : Nat → ClassId} {a' : Nat → Nat} {k' : Nat → ClassId} {o : Nat} {ko : ClassId}
    (C : lC l p s m c b L xs D a k a' k' o ko) {I : Nat → Int} {F : Nat → Int → Int} {J : Nat → Int} {G : Nat → Int → Int} {H : Heap} {locs : List Loc} (h : lH s D a k a' k' o ko I F J G H locs) {i : Int} {kk : Nat} (hi : i = 4 * kk) (hi4 : i + 4 ≤ L) {ls : Array Slot} (hl : lv_has ls 7 [(4, .int (iI i)), (0, .ref b), (1, .ref (a 0)), (2, .ref (a' 0)), (3, .ref o)])
    (nx : ∀ (I : Nat → Int) (F : Nat → Int → Int) (J : Nat → Int) (G : Nat → Int → Int) (H : Heap) (locs : List Loc) (ls : Array Slot), lH s D a k a' k' o ko I F J G H locs → lv_has ls 7 [(4, .int (iI i)), (0, .ref b), (1, .ref (a 0)), (2, .ref (a' 0)), (3, .ref o)] → W p l e room_1 s m #[Value.ref b] below meth c H locs (46 + (kk + 1)) (7991 + 6 * (kk + 1)) Q (F0 m 693 ls [])) :
    W p l e room_1 s m #[Value.ref b] below meth c H locs (46 + kk) (7991 + 6 * kk) Q (F0 m 120 ls []) := by
  obtain ⟨hfl, hx, hb, hml, hown, hG, hTA, hX, hbl, hL, hKx, hKm, hKo, hda, hdm, hap, hox, hom, hax, ham, hao⟩ := C
  obtain ⟨hR, hPx, hPm, ⟨fo, hPo⟩, hS⟩ := h
  have hfc : 46 + kk ≤ room_1.cells := by show 46 + kk ≤ 601024; omega
  have hfs : 7991 + 6 * kk ≤ room_1.slots := by show 7991 + 6 * kk ≤ 7293034; omega
  have bA : ¬ s.heap.size ≤ b := by omega
  have hoq : ∀ q, q = o → q < H.size → ¬ adr 24 a q := fun q h _ => by rw [h]; exact hox
  have xm : ∀ q, adr 21 a' q → ∀ N : Nat, q < N → ¬ adr 24 a q := fun q h _ _ z => hap q z h
  have mx : ∀ q, adr 24 a q → ∀ N : Nat, q < N → ¬ adr 21 a' q := fun q h _ _ => hap q h
  obtain ⟨p1, b1, e1⟩ := iI_of (xs (i + 1).toNat)
  obtain ⟨p2, b2, e2⟩ := iI_of (xs (i + 2).toNat)
  obtain ⟨p3, b3, e3⟩ := iI_of (xs (i + 3).toNat)
  refine lv_aload_n hx hb dL_law_120 rfl (lv_at hl 2 rfl) ?_
  refine lv_aload_n hx hb dL_law_121 rfl (lv_at hl 1 rfl) ?_
  refine lv_iload hx hb dL_law_122 (lv_at hl 0 rfl) ?_
  refine xr_iconst hx hb dL_law_124 ?_
  refine xr_iadd (a := i) (b := 1) hx hb dL_law_125 ?_
  refine xr_sld hx hb hX hbl bA hS (by omega) (z := i + 1) (v := p1) (by omega) (by omega) e1 dL_law_126 ?_
  refine mv_call (g_runV (rest := []) hx hb hml hown hG hKx hPx mV_X5_sign (c_X5_sign l D a k I F hda p1 hR.xi) lk_L_23 (va_recv hKx hPx (ci := 6) (q0 := 0) rfl rfl) rfl hl.1 rfl (Nat.le_of_ble_eq_true rfl) ⟨(Nat.le_of_ble_eq_true rfl), (Nat.le_of_ble_eq_true rfl)⟩ ⟨hfc, hfs⟩ dL_law_127) hS hax (fun u H1 locs q1 hPx _ hk1 hS => ?_)
  have hPm := kpP hPm (mD hdm).2 (fun q h z => xm q h _ z) hk1
  have hPo := kpP (B := fun q => q = o) hPo one_in (fun q h z => hoq q h z) hk1
  generalize H1 = H2 at hPx hPm hPo hS ⊢
  refine lv_aload_n hx hb dL_law_130 rfl (lv_at hl 3 rfl) ?_
  refine lv_aload_n hx hb dL_law_131 rfl (lv_at hl 1 rfl) ?_
  refine lv_iload hx hb dL_law_132 (lv_at hl 0 rfl) ?_
  refine xr_iconst hx hb dL_law_134 ?_
  refine xr_iadd (a := i) (b := 1) hx hb dL_law_135 ?_
  refine xr_sld hx hb hX hbl bA hS (by omega) (z := i + 1) (v := p1) (by omega) (by omega) e1 dL_law_136 ?_
  refine mv_call (g_runV (rest := []) hx hb hml hown hG hKm hPm mV_X6_sign (c_X6_sign l D a' k' J G hdm p1 hR.mi ) lk_L_27 (va_recv hKm hPm (ci := 7) (q0 := 0) rfl rfl) rfl hl.1 rfl (Nat.le_of_ble_eq_true rfl) ⟨(Nat.le_of_ble_eq_true rfl), (Nat.le_of_ble_eq_true rfl)⟩ ⟨hfc, hfs⟩ dL_law_137) hS ham (fun v H3 locs q2 hPm _ hk2 hS => ?_)
  have hPx := kpP hPx (xD hda).2 (fun q h z => mx q h _ z) hk2
  have hPo := kpP (B := fun q => q = o) hPo one_in (fun q h _ => by rw [h]; exact hom) hk2
  refine lv_goto (tgt := 693) hx hb dL_law_140 (by decide) ?_
  have hR := s_sign hR q1 q2
  refine W.widen (k := 46 + (kk + 1)) (n := 7991 + 6 * (kk + 1)) (by omega) (by omega) ?_
  exact nx u.1 u.2 v.1 v.2 _ _ _ ⟨hR, hPx, hPm, ⟨fo, hPo⟩, hS⟩ hl
set_option maxHeartbeats 4000000 in
set_option maxRecDepth 100000 in
theorem lw_row {l : Launch} {p : Program} {e : Env} {s : State} {m : MethodId} {below : List Frame} {meth : Method} {c : Code} {Q : State → Prop} {b L : Nat} {xs : Nat → Int32} {D : va_G} {a : Nat → Nat} {k : Nat → ClassId} {a' : Nat → Nat} {k' : Nat → ClassId} {o : Nat} {ko : ClassId}
    (C : lC l p s m c b L xs D a k a' k' o ko) {I : Nat → Int} {F : Nat → Int → Int} {J : Nat → Int} {G : Nat → Int → Int} {H : Heap} {locs : List Loc} (h : lH s D a k a' k' o ko I F J G H locs) {i : Int} {kk : Nat} (hi : i = 4 * kk) (hi4 : i + 4 ≤ L) {ls : Array Slot} (hl : lv_has ls 7 [(4, .int (iI i)), (0, .ref b), (1, .ref (a 0)), (2, .ref (a' 0)), (3, .ref o)])
    (nx : ∀ (I : Nat → Int) (F : Nat → Int → Int) (J : Nat → Int) (G : Nat → Int → Int) (H : Heap) (locs : List Loc) (ls : Array Slot), lH s D a k a' k' o ko I F J G H locs → lv_has ls 7 [(4, .int (iI i)), (0, .ref b), (1, .ref (a 0)), (2, .ref (a' 0)), (3, .ref o)] → W p l e room_1 s m #[Value.ref b] below meth c H locs (46 + (kk + 1)) (7991 + 6 * (kk + 1)) Q (F0 m 693 ls [])) :
    W p l e room_1 s m #[Value.ref b] below meth c H locs (46 + kk) (7991 + 6 * kk) Q (F0 m 143 ls []) := by
  obtain ⟨hfl, hx, hb, hml, hown, hG, hTA, hX, hbl, hL, hKx, hKm, hKo, hda, hdm, hap, hox, hom, hax, ham, hao⟩ := C
  obtain ⟨hR, hPx, hPm, ⟨fo, hPo⟩, hS⟩ := h
  have hfc : 46 + kk ≤ room_1.cells := by show 46 + kk ≤ 601024; omega
  have hfs : 7991 + 6 * kk ≤ room_1.slots := by show 7991 + 6 * kk ≤ 7293034; omega
  have bA : ¬ s.heap.size ≤ b := by omega
  have hoq : ∀ q, q = o → q < H.size → ¬ adr 24 a q := fun q h _ => by rw [h]; exact hox
  have xm : ∀ q, adr 21 a' q → ∀ N : Nat, q < N → ¬ adr 24 a q := fun q h _ _ z => hap q z h
  have mx : ∀ q, adr 24 a q → ∀ N : Nat, q < N → ¬ adr 21 a' q := fun q h _ _ => hap q h
  obtain ⟨p1, b1, e1⟩ := iI_of (xs (i + 1).toNat)
  obtain ⟨p2, b2, e2⟩ := iI_of (xs (i + 2).toNat)
  obtain ⟨p3, b3, e3⟩ := iI_of (xs (i + 3).toNat)
  refine lv_aload_n hx hb dL_law_143 rfl (lv_at hl 2 rfl) ?_
  refine mu_call (g_runV (rest := []) hx hb hml hown hG hKx hPx mV_X5_row (c_X5_row l D a k I F hda  hR.xi ) lk_L_28 (va_recv hKx hPx (ci := 6) (q0 := 0) rfl rfl) rfl hl.1 rfl (Nat.le_of_ble_eq_true rfl) ⟨(Nat.le_of_ble_eq_true rfl), (Nat.le_of_ble_eq_true rfl)⟩ ⟨hfc, hfs⟩ dL_law_144) hS hax (fun r u H1 locs q1 hPx _ hk1 hS => ?_)
  have hPm := kpP hPm (mD hdm).2 (fun q h z => xm q h _ z) hk1
  have hPo := kpP (B := fun q => q = o) hPo one_in (fun q h z => hoq q h z) hk1
  generalize H1 = H2 at hPx hPm hPo hS ⊢
  refine lv_aload_n hx hb dL_law_147 rfl (lv_at hl 3 rfl) ?_
  refine mu_call (g_runV (rest := [.int (iI r)]) hx hb hml hown hG hKm hPm mV_X6_row (c_X6_row l D a' k' J G hdm  hR.mi ) lk_L_32 (va_recv hKm hPm (ci := 7) (q0 := 0) rfl rfl) rfl hl.1 rfl (Nat.le_of_ble_eq_true rfl) ⟨(Nat.le_of_ble_eq_true rfl), (Nat.le_of_ble_eq_true rfl)⟩ ⟨hfc, hfs⟩ dL_law_148) hS ham (fun r' v H3 locs q2 hPm _ hk2 hS => ?_)
  have hPx := kpP hPx (xD hda).2 (fun q h z => mx q h _ z) hk2
  have hPo := kpP (B := fun q => q = o) hPo one_in (fun q h _ => by rw [h]; exact hom) hk2
  obtain ⟨er, hR⟩ := s_row hR q1 q2
  subst er
  refine lv_icmp_eq (tgt := 693) hx hb dL_law_151 (by decide) (fun _ => ?_) (fun h => absurd rfl h)
  refine W.widen (k := 46 + (kk + 1)) (n := 7991 + 6 * (kk + 1)) (by omega) (by omega) ?_
  exact nx u.1 u.2 v.1 v.2 _ _ _ ⟨hR, hPx, hPm, ⟨fo, hPo⟩, hS⟩ hl
set_option maxHeartbeats 4000000 in
set_option maxRecDepth 100000 in
theorem lw_octet {l : Launch} {p : Program} {e : Env} {s : State} {m : MethodId} {below : List Frame} {meth : Method} {c : Code} {Q : State → Prop} {b L : Nat} {xs : Nat → Int32} {D : va_G} {a : Nat → Nat} {k : Nat → ClassId} {a' : Nat → Nat} {k' : Nat → ClassId} {o : Nat} {ko : ClassId}
    (C : lC l p s m c b L xs D a k a' k' o ko) {I : Nat → Int} {F : Nat → Int → Int} {J : Nat → Int} {G : Nat → Int → Int} {H : Heap} {locs : List Loc} (h : lH s D a k a' k' o ko I F J G H locs) {i : Int} {kk : Nat} (hi : i = 4 * kk) (hi4 : i + 4 ≤ L) {ls : Array Slot} (hl : lv_has ls 7 [(4, .int (iI i)), (0, .ref b), (1, .ref (a 0)), (2, .ref (a' 0)), (3, .ref o)])
    (nx : ∀ (I : Nat → Int) (F : Nat → Int → Int) (J : Nat → Int) (G : Nat → Int → Int) (H : Heap) (locs : List Loc) (ls : Array Slot), lH s D a k a' k' o ko I F J G H locs → lv_has ls 7 [(4, .int (iI i)), (0, .ref b), (1, .ref (a 0)), (2, .ref (a' 0)), (3, .ref o)] → W p l e room_1 s m #[Value.ref b] below meth c H locs (46 + (kk + 1)) (7991 + 6 * (kk + 1)) Q (F0 m 693 ls [])) :
    W p l e room_1 s m #[Value.ref b] below meth c H locs (46 + kk) (7991 + 6 * kk) Q (F0 m 156 ls []) := by
  obtain ⟨hfl, hx, hb, hml, hown, hG, hTA, hX, hbl, hL, hKx, hKm, hKo, hda, hdm, hap, hox, hom, hax, ham, hao⟩ := C
  obtain ⟨hR, hPx, hPm, ⟨fo, hPo⟩, hS⟩ := h
  have hfc : 46 + kk ≤ room_1.cells := by show 46 + kk ≤ 601024; omega
  have hfs : 7991 + 6 * kk ≤ room_1.slots := by show 7991 + 6 * kk ≤ 7293034; omega
  have bA : ¬ s.heap.size ≤ b := by omega
  have hoq : ∀ q, q = o → q < H.size → ¬ adr 24 a q := fun q h _ => by rw [h]; exact hox
  have xm : ∀ q, adr 21 a' q → ∀ N : Nat, q < N → ¬ adr 24 a q := fun q h _ _ z => hap q z h
  have mx : ∀ q, adr 24 a q → ∀ N : Nat, q < N → ¬ adr 21 a' q := fun q h _ _ => hap q h
  obtain ⟨p1, b1, e1⟩ := iI_of (xs (i + 1).toNat)
  obtain ⟨p2, b2, e2⟩ := iI_of (xs (i + 2).toNat)
  obtain ⟨p3, b3, e3⟩ := iI_of (xs (i + 3).toNat)
  refine lv_aload_n hx hb dL_law_156 rfl (lv_at hl 2 rfl) ?_
  refine lv_aload_n hx hb dL_law_157 rfl (lv_at hl 1 rfl) ?_
  refine lv_iload hx hb dL_law_158 (lv_at hl 0 rfl) ?_
  refine xr_iconst hx hb dL_law_160 ?_
  refine xr_iadd (a := i) (b := 1) hx hb dL_law_161 ?_
  refine xr_sld hx hb hX hbl bA hS (by omega) (z := i + 1) (v := p1) (by omega) (by omega) e1 dL_law_162 ?_
  refine lv_aload_n hx hb dL_law_163 rfl (lv_at hl 1 rfl) ?_
  refine lv_iload hx hb dL_law_164 (lv_at hl 0 rfl) ?_
  refine xr_iconst hx hb dL_law_166 ?_
  refine xr_iadd (a := i) (b := 2) hx hb dL_law_167 ?_
  refine xr_sld hx hb hX hbl bA hS (by omega) (z := i + 2) (v := p2) (by omega) (by omega) e2 dL_law_168 ?_
  refine mu_call (g_runV (rest := []) hx hb hml hown hG hKx hPx mV_X5_octet (c_X5_octet l D a k I F hda p1 p2 hR.xi b1 b2) lk_L_33 (va_recv hKx hPx (ci := 6) (q0 := 0) rfl rfl) rfl hl.1 rfl (Nat.le_of_ble_eq_true rfl) ⟨(Nat.le_of_ble_eq_true rfl), (Nat.le_of_ble_eq_true rfl)⟩ ⟨hfc, hfs⟩ dL_law_169) hS hax (fun r u H1 locs q1 hPx _ hk1 hS => ?_)
  have hPm := kpP hPm (mD hdm).2 (fun q h z => xm q h _ z) hk1
  have hPo := kpP (B := fun q => q = o) hPo one_in (fun q h z => hoq q h z) hk1
  generalize H1 = H2 at hPx hPm hPo hS ⊢
  refine lv_aload_n hx hb dL_law_172 rfl (lv_at hl 3 rfl) ?_
  refine lv_aload_n hx hb dL_law_173 rfl (lv_at hl 1 rfl) ?_
  refine lv_iload hx hb dL_law_174 (lv_at hl 0 rfl) ?_
  refine xr_iconst hx hb dL_law_176 ?_
  refine xr_iadd (a := i) (b := 1) hx hb dL_law_177 ?_
  refine xr_sld hx hb hX hbl bA hS (by omega) (z := i + 1) (v := p1) (by omega) (by omega) e1 dL_law_178 ?_
  refine lv_aload_n hx hb dL_law_179 rfl (lv_at hl 1 rfl) ?_
  refine lv_iload hx hb dL_law_180 (lv_at hl 0 rfl) ?_
  refine xr_iconst hx hb dL_law_182 ?_
  refine xr_iadd (a := i) (b := 2) hx hb dL_law_183 ?_
  refine xr_sld hx hb hX hbl bA hS (by omega) (z := i + 2) (v := p2) (by omega) (by omega) e2 dL_law_184 ?_
  refine mu_call (g_runV (rest := [.int (iI r)]) hx hb hml hown hG hKm hPm mV_X6_octet (c_X6_octet l D a' k' J G hdm p1 p2 hR.mi b1 b2) lk_L_36 (va_recv hKm hPm (ci := 7) (q0 := 0) rfl rfl) rfl hl.1 rfl (Nat.le_of_ble_eq_true rfl) ⟨(Nat.le_of_ble_eq_true rfl), (Nat.le_of_ble_eq_true rfl)⟩ ⟨hfc, hfs⟩ dL_law_185) hS ham (fun r' v H3 locs q2 hPm _ hk2 hS => ?_)
  have hPx := kpP hPx (xD hda).2 (fun q h z => mx q h _ z) hk2
  have hPo := kpP (B := fun q => q = o) hPo one_in (fun q h _ => by rw [h]; exact hom) hk2
  obtain ⟨er, hR⟩ := s_octet hR q1 q2
  subst er
  refine lv_icmp_eq (tgt := 693) hx hb dL_law_188 (by decide) (fun _ => ?_) (fun h => absurd rfl h)
  refine W.widen (k := 46 + (kk + 1)) (n := 7991 + 6 * (kk + 1)) (by omega) (by omega) ?_
  exact nx u.1 u.2 v.1 v.2 _ _ _ ⟨hR, hPx, hPm, ⟨fo, hPo⟩, hS⟩ hl
set_option maxHeartbeats 4000000 in
set_option maxRecDepth 100000 in
theorem lw_file {l : Launch} {p : Program} {e : Env} {s : State} {m : MethodId} {below : List Frame} {meth : Method} {c : Code} {Q : State → Prop} {b L : Nat} {xs : Nat → Int32} {D : va_G} {a : Nat → Nat} {k : Nat → ClassId} {a' : Nat → Nat} {k' : Nat → ClassId} {o : Nat} {ko : ClassId}
    (C : lC l p s m c b L xs D a k a' k' o ko) {I : Nat → Int} {F : Nat → Int → Int} {J : Nat → Int} {G : Nat → Int → Int} {H : Heap} {locs : List Loc} (h : lH s D a k a' k' o ko I F J G H locs) {i : Int} {kk : Nat} (hi : i = 4 * kk) (hi4 : i + 4 ≤ L) {ls : Array Slot} (hl : lv_has ls 7 [(4, .int (iI i)), (0, .ref b), (1, .ref (a 0)), (2, .ref (a' 0)), (3, .ref o)])
    (nx : ∀ (I : Nat → Int) (F : Nat → Int → Int) (J : Nat → Int) (G : Nat → Int → Int) (H : Heap) (locs : List Loc) (ls : Array Slot), lH s D a k a' k' o ko I F J G H locs → lv_has ls 7 [(4, .int (iI i)), (0, .ref b), (1, .ref (a 0)), (2, .ref (a' 0)), (3, .ref o)] → W p l e room_1 s m #[Value.ref b] below meth c H locs (46 + (kk + 1)) (7991 + 6 * (kk + 1)) Q (F0 m 693 ls [])) :
    W p l e room_1 s m #[Value.ref b] below meth c H locs (46 + kk) (7991 + 6 * kk) Q (F0 m 193 ls []) := by
  obtain ⟨hfl, hx, hb, hml, hown, hG, hTA, hX, hbl, hL, hKx, hKm, hKo, hda, hdm, hap, hox, hom, hax, ham, hao⟩ := C
  obtain ⟨hR, hPx, hPm, ⟨fo, hPo⟩, hS⟩ := h
  have hfc : 46 + kk ≤ room_1.cells := by show 46 + kk ≤ 601024; omega
  have hfs : 7991 + 6 * kk ≤ room_1.slots := by show 7991 + 6 * kk ≤ 7293034; omega
  have bA : ¬ s.heap.size ≤ b := by omega
  have hoq : ∀ q, q = o → q < H.size → ¬ adr 24 a q := fun q h _ => by rw [h]; exact hox
  have xm : ∀ q, adr 21 a' q → ∀ N : Nat, q < N → ¬ adr 24 a q := fun q h _ _ z => hap q z h
  have mx : ∀ q, adr 24 a q → ∀ N : Nat, q < N → ¬ adr 21 a' q := fun q h _ _ => hap q h
  obtain ⟨p1, b1, e1⟩ := iI_of (xs (i + 1).toNat)
  obtain ⟨p2, b2, e2⟩ := iI_of (xs (i + 2).toNat)
  obtain ⟨p3, b3, e3⟩ := iI_of (xs (i + 3).toNat)
  refine lv_aload_n hx hb dL_law_193 rfl (lv_at hl 2 rfl) ?_
  refine mu_call (g_runV (rest := []) hx hb hml hown hG hKx hPx mV_X5_file (c_X5_file l D a k I F hda  hR.xi ) lk_L_37 (va_recv hKx hPx (ci := 6) (q0 := 0) rfl rfl) rfl hl.1 rfl (Nat.le_of_ble_eq_true rfl) ⟨(Nat.le_of_ble_eq_true rfl), (Nat.le_of_ble_eq_true rfl)⟩ ⟨hfc, hfs⟩ dL_law_194) hS hax (fun r u H1 locs q1 hPx _ hk1 hS => ?_)
  have hPm := kpP hPm (mD hdm).2 (fun q h z => xm q h _ z) hk1
  have hPo := kpP (B := fun q => q = o) hPo one_in (fun q h z => hoq q h z) hk1
  generalize H1 = H2 at hPx hPm hPo hS ⊢
  refine lv_aload_n hx hb dL_law_197 rfl (lv_at hl 3 rfl) ?_
  refine mu_call (g_runV (rest := [.int (iI r)]) hx hb hml hown hG hKm hPm mV_X6_file (c_X6_file l D a' k' J G hdm  hR.mi ) lk_L_40 (va_recv hKm hPm (ci := 7) (q0 := 0) rfl rfl) rfl hl.1 rfl (Nat.le_of_ble_eq_true rfl) ⟨(Nat.le_of_ble_eq_true rfl), (Nat.le_of_ble_eq_true rfl)⟩ ⟨hfc, hfs⟩ dL_law_198) hS ham (fun r' v H3 locs q2 hPm _ hk2 hS => ?_)
  have hPx := kpP hPx (xD hda).2 (fun q h z => mx q h _ z) hk2
  have hPo := kpP (B := fun q => q = o) hPo one_in (fun q h _ => by rw [h]; exact hom) hk2
  obtain ⟨er, hR⟩ := s_file hR q1 q2
  subst er
  refine lv_icmp_eq (tgt := 693) hx hb dL_law_201 (by decide) (fun _ => ?_) (fun h => absurd rfl h)
  refine W.widen (k := 46 + (kk + 1)) (n := 7991 + 6 * (kk + 1)) (by omega) (by omega) ?_
  exact nx u.1 u.2 v.1 v.2 _ _ _ ⟨hR, hPx, hPm, ⟨fo, hPo⟩, hS⟩ hl
set_option maxHeartbeats 4000000 in
set_option maxRecDepth 100000 in
theorem lw_member {l : Launch} {p : Program} {e : Env} {s : State} {m : MethodId} {below : List Frame} {meth : Method} {c : Code} {Q : State → Prop} {b L : Nat} {xs : Nat → Int32} {D : va_G} {a : Nat → Nat} {k : Nat → ClassId} {a' : Nat → Nat} {k' : Nat → ClassId} {o : Nat} {ko : ClassId}
    (C : lC l p s m c b L xs D a k a' k' o ko) {I : Nat → Int} {F : Nat → Int → Int} {J : Nat → Int} {G : Nat → Int → Int} {H : Heap} {locs : List Loc} (h : lH s D a k a' k' o ko I F J G H locs) {i : Int} {kk : Nat} (hi : i = 4 * kk) (hi4 : i + 4 ≤ L) {ls : Array Slot} (hl : lv_has ls 7 [(4, .int (iI i)), (0, .ref b), (1, .ref (a 0)), (2, .ref (a' 0)), (3, .ref o)])
    (nx : ∀ (I : Nat → Int) (F : Nat → Int → Int) (J : Nat → Int) (G : Nat → Int → Int) (H : Heap) (locs : List Loc) (ls : Array Slot), lH s D a k a' k' o ko I F J G H locs → lv_has ls 7 [(4, .int (iI i)), (0, .ref b), (1, .ref (a 0)), (2, .ref (a' 0)), (3, .ref o)] → W p l e room_1 s m #[Value.ref b] below meth c H locs (46 + (kk + 1)) (7991 + 6 * (kk + 1)) Q (F0 m 693 ls [])) :
    W p l e room_1 s m #[Value.ref b] below meth c H locs (46 + kk) (7991 + 6 * kk) Q (F0 m 206 ls []) := by
  obtain ⟨hfl, hx, hb, hml, hown, hG, hTA, hX, hbl, hL, hKx, hKm, hKo, hda, hdm, hap, hox, hom, hax, ham, hao⟩ := C
  obtain ⟨hR, hPx, hPm, ⟨fo, hPo⟩, hS⟩ := h
  have hfc : 46 + kk ≤ room_1.cells := by show 46 + kk ≤ 601024; omega
  have hfs : 7991 + 6 * kk ≤ room_1.slots := by show 7991 + 6 * kk ≤ 7293034; omega
  have bA : ¬ s.heap.size ≤ b := by omega
  have hoq : ∀ q, q = o → q < H.size → ¬ adr 24 a q := fun q h _ => by rw [h]; exact hox
  have xm : ∀ q, adr 21 a' q → ∀ N : Nat, q < N → ¬ adr 24 a q := fun q h _ _ z => hap q z h
  have mx : ∀ q, adr 24 a q → ∀ N : Nat, q < N → ¬ adr 21 a' q := fun q h _ _ => hap q h
  obtain ⟨p1, b1, e1⟩ := iI_of (xs (i + 1).toNat)
  obtain ⟨p2, b2, e2⟩ := iI_of (xs (i + 2).toNat)
  obtain ⟨p3, b3, e3⟩ := iI_of (xs (i + 3).toNat)
  refine lv_aload_n hx hb dL_law_206 rfl (lv_at hl 2 rfl) ?_
  refine lv_aload_n hx hb dL_law_207 rfl (lv_at hl 1 rfl) ?_
  refine lv_iload hx hb dL_law_208 (lv_at hl 0 rfl) ?_
  refine xr_iconst hx hb dL_law_210 ?_
  refine xr_iadd (a := i) (b := 1) hx hb dL_law_211 ?_
  refine xr_sld hx hb hX hbl bA hS (by omega) (z := i + 1) (v := p1) (by omega) (by omega) e1 dL_law_212 ?_
  refine lv_aload_n hx hb dL_law_213 rfl (lv_at hl 1 rfl) ?_
  refine lv_iload hx hb dL_law_214 (lv_at hl 0 rfl) ?_
  refine xr_iconst hx hb dL_law_216 ?_
  refine xr_iadd (a := i) (b := 2) hx hb dL_law_217 ?_
  refine xr_sld hx hb hX hbl bA hS (by omega) (z := i + 2) (v := p2) (by omega) (by omega) e2 dL_law_218 ?_
  refine mu_call (g_runV (rest := []) hx hb hml hown hG hKx hPx mV_X5_member (c_X5_member l D a k I F hda p1 p2 hR.xi b1 b2) lk_L_41 (va_recv hKx hPx (ci := 6) (q0 := 0) rfl rfl) rfl hl.1 rfl (Nat.le_of_ble_eq_true rfl) ⟨(Nat.le_of_ble_eq_true rfl), (Nat.le_of_ble_eq_true rfl)⟩ ⟨hfc, hfs⟩ dL_law_219) hS hax (fun r u H1 locs q1 hPx _ hk1 hS => ?_)
  have hPm := kpP hPm (mD hdm).2 (fun q h z => xm q h _ z) hk1
  have hPo := kpP (B := fun q => q = o) hPo one_in (fun q h z => hoq q h z) hk1
  generalize H1 = H2 at hPx hPm hPo hS ⊢
  refine lv_aload_n hx hb dL_law_222 rfl (lv_at hl 3 rfl) ?_
  refine lv_aload_n hx hb dL_law_223 rfl (lv_at hl 1 rfl) ?_
  refine lv_iload hx hb dL_law_224 (lv_at hl 0 rfl) ?_
  refine xr_iconst hx hb dL_law_226 ?_
  refine xr_iadd (a := i) (b := 1) hx hb dL_law_227 ?_
  refine xr_sld hx hb hX hbl bA hS (by omega) (z := i + 1) (v := p1) (by omega) (by omega) e1 dL_law_228 ?_
  refine lv_aload_n hx hb dL_law_229 rfl (lv_at hl 1 rfl) ?_
  refine lv_iload hx hb dL_law_230 (lv_at hl 0 rfl) ?_
  refine xr_iconst hx hb dL_law_232 ?_
  refine xr_iadd (a := i) (b := 2) hx hb dL_law_233 ?_
  refine xr_sld hx hb hX hbl bA hS (by omega) (z := i + 2) (v := p2) (by omega) (by omega) e2 dL_law_234 ?_
  refine mu_call (g_runV (rest := [.int (iI r)]) hx hb hml hown hG hKm hPm mV_X6_member (c_X6_member l D a' k' J G hdm p1 p2 hR.mi b1 b2) lk_L_44 (va_recv hKm hPm (ci := 7) (q0 := 0) rfl rfl) rfl hl.1 rfl (Nat.le_of_ble_eq_true rfl) ⟨(Nat.le_of_ble_eq_true rfl), (Nat.le_of_ble_eq_true rfl)⟩ ⟨hfc, hfs⟩ dL_law_235) hS ham (fun r' v H3 locs q2 hPm _ hk2 hS => ?_)
  have hPx := kpP hPx (xD hda).2 (fun q h z => mx q h _ z) hk2
  have hPo := kpP (B := fun q => q = o) hPo one_in (fun q h _ => by rw [h]; exact hom) hk2
  obtain ⟨er, hR⟩ := s_member hR q1 q2
  subst er
  refine lv_icmp_eq (tgt := 693) hx hb dL_law_238 (by decide) (fun _ => ?_) (fun h => absurd rfl h)
  refine W.widen (k := 46 + (kk + 1)) (n := 7991 + 6 * (kk + 1)) (by omega) (by omega) ?_
  exact nx u.1 u.2 v.1 v.2 _ _ _ ⟨hR, hPx, hPm, ⟨fo, hPo⟩, hS⟩ hl
set_option maxHeartbeats 4000000 in
set_option maxRecDepth 100000 in
theorem lw_identify {l : Launch} {p : Program} {e : Env} {s : State} {m : MethodId} {below : List Frame} {meth : Method} {c : Code} {Q : State → Prop} {b L : Nat} {xs : Nat → Int32} {D : va_G} {a : Nat → Nat} {k : Nat → ClassId} {a' : Nat → Nat} {k' : Nat → ClassId} {o : Nat} {ko : ClassId}
    (C : lC l p s m c b L xs D a k a' k' o ko) {I : Nat → Int} {F : Nat → Int → Int} {J : Nat → Int} {G : Nat → Int → Int} {H : Heap} {locs : List Loc} (h : lH s D a k a' k' o ko I F J G H locs) {i : Int} {kk : Nat} (hi : i = 4 * kk) (hi4 : i + 4 ≤ L) {ls : Array Slot} (hl : lv_has ls 7 [(4, .int (iI i)), (0, .ref b), (1, .ref (a 0)), (2, .ref (a' 0)), (3, .ref o)])
    (nx : ∀ (I : Nat → Int) (F : Nat → Int → Int) (J : Nat → Int) (G : Nat → Int → Int) (H : Heap) (locs : List Loc) (ls : Array Slot), lH s D a k a' k' o ko I F J G H locs → lv_has ls 7 [(4, .int (iI i)), (0, .ref b), (1, .ref (a 0)), (2, .ref (a' 0)), (3, .ref o)] → W p l e room_1 s m #[Value.ref b] below meth c H locs (46 + (kk + 1)) (7991 + 6 * (kk + 1)) Q (F0 m 693 ls [])) :
    W p l e room_1 s m #[Value.ref b] below meth c H locs (46 + kk) (7991 + 6 * kk) Q (F0 m 243 ls []) := by
  obtain ⟨hfl, hx, hb, hml, hown, hG, hTA, hX, hbl, hL, hKx, hKm, hKo, hda, hdm, hap, hox, hom, hax, ham, hao⟩ := C
  obtain ⟨hR, hPx, hPm, ⟨fo, hPo⟩, hS⟩ := h
  have hfc : 46 + kk ≤ room_1.cells := by show 46 + kk ≤ 601024; omega
  have hfs : 7991 + 6 * kk ≤ room_1.slots := by show 7991 + 6 * kk ≤ 7293034; omega
  have bA : ¬ s.heap.size ≤ b := by omega
  have hoq : ∀ q, q = o → q < H.size → ¬ adr 24 a q := fun q h _ => by rw [h]; exact hox
  have xm : ∀ q, adr 21 a' q → ∀ N : Nat, q < N → ¬ adr 24 a q := fun q h _ _ z => hap q z h
  have mx : ∀ q, adr 24 a q → ∀ N : Nat, q < N → ¬ adr 21 a' q := fun q h _ _ => hap q h
  obtain ⟨p1, b1, e1⟩ := iI_of (xs (i + 1).toNat)
  obtain ⟨p2, b2, e2⟩ := iI_of (xs (i + 2).toNat)
  obtain ⟨p3, b3, e3⟩ := iI_of (xs (i + 3).toNat)
  refine lv_aload_n hx hb dL_law_243 rfl (lv_at hl 2 rfl) ?_
  refine lv_aload_n hx hb dL_law_244 rfl (lv_at hl 1 rfl) ?_
  refine lv_iload hx hb dL_law_245 (lv_at hl 0 rfl) ?_
  refine xr_iconst hx hb dL_law_247 ?_
  refine xr_iadd (a := i) (b := 1) hx hb dL_law_248 ?_
  refine xr_sld hx hb hX hbl bA hS (by omega) (z := i + 1) (v := p1) (by omega) (by omega) e1 dL_law_249 ?_
  refine mu_call (g_runV (rest := []) hx hb hml hown hG hKx hPx mV_X5_identify (c_X5_identify l D a k I F hda p1 hR.xi b1) lk_L_45 (va_recv hKx hPx (ci := 6) (q0 := 0) rfl rfl) rfl hl.1 rfl (Nat.le_of_ble_eq_true rfl) ⟨(Nat.le_of_ble_eq_true rfl), (Nat.le_of_ble_eq_true rfl)⟩ ⟨hfc, hfs⟩ dL_law_250) hS hax (fun r u H1 locs q1 hPx _ hk1 hS => ?_)
  have hPm := kpP hPm (mD hdm).2 (fun q h z => xm q h _ z) hk1
  have hPo := kpP (B := fun q => q = o) hPo one_in (fun q h z => hoq q h z) hk1
  generalize H1 = H2 at hPx hPm hPo hS ⊢
  refine lv_aload_n hx hb dL_law_253 rfl (lv_at hl 3 rfl) ?_
  refine lv_aload_n hx hb dL_law_254 rfl (lv_at hl 1 rfl) ?_
  refine lv_iload hx hb dL_law_255 (lv_at hl 0 rfl) ?_
  refine xr_iconst hx hb dL_law_257 ?_
  refine xr_iadd (a := i) (b := 1) hx hb dL_law_258 ?_
  refine xr_sld hx hb hX hbl bA hS (by omega) (z := i + 1) (v := p1) (by omega) (by omega) e1 dL_law_259 ?_
  refine mu_call (g_runV (rest := [.int (iI r)]) hx hb hml hown hG hKm hPm mV_X6_identify (c_X6_identify l D a' k' J G hdm p1 hR.mi b1) lk_L_48 (va_recv hKm hPm (ci := 7) (q0 := 0) rfl rfl) rfl hl.1 rfl (Nat.le_of_ble_eq_true rfl) ⟨(Nat.le_of_ble_eq_true rfl), (Nat.le_of_ble_eq_true rfl)⟩ ⟨hfc, hfs⟩ dL_law_260) hS ham (fun r' v H3 locs q2 hPm _ hk2 hS => ?_)
  have hPx := kpP hPx (xD hda).2 (fun q h z => mx q h _ z) hk2
  have hPo := kpP (B := fun q => q = o) hPo one_in (fun q h _ => by rw [h]; exact hom) hk2
  obtain ⟨er, hR⟩ := s_identify hR q1 q2
  subst er
  refine lv_icmp_eq (tgt := 693) hx hb dL_law_263 (by decide) (fun _ => ?_) (fun h => absurd rfl h)
  refine W.widen (k := 46 + (kk + 1)) (n := 7991 + 6 * (kk + 1)) (by omega) (by omega) ?_
  exact nx u.1 u.2 v.1 v.2 _ _ _ ⟨hR, hPx, hPm, ⟨fo, hPo⟩, hS⟩ hl
set_option maxHeartbeats 4000000 in
set_option maxRecDepth 100000 in
theorem lw_found {l : Launch} {p : Program} {e : Env} {s : State} {m : MethodId} {below : List Frame} {meth : Method} {c : Code} {Q : State → Prop} {b L : Nat} {xs : Nat → Int32} {D : va_G} {a : Nat → Nat} {k : Nat → ClassId} {a' : Nat → Nat} {k' : Nat → ClassId} {o : Nat} {ko : ClassId}
    (C : lC l p s m c b L xs D a k a' k' o ko) {I : Nat → Int} {F : Nat → Int → Int} {J : Nat → Int} {G : Nat → Int → Int} {H : Heap} {locs : List Loc} (h : lH s D a k a' k' o ko I F J G H locs) {i : Int} {kk : Nat} (hi : i = 4 * kk) (hi4 : i + 4 ≤ L) {ls : Array Slot} (hl : lv_has ls 7 [(4, .int (iI i)), (0, .ref b), (1, .ref (a 0)), (2, .ref (a' 0)), (3, .ref o)])
    (nx : ∀ (I : Nat → Int) (F : Nat → Int → Int) (J : Nat → Int) (G : Nat → Int → Int) (H : Heap) (locs : List Loc) (ls : Array Slot), lH s D a k a' k' o ko I F J G H locs → lv_has ls 7 [(4, .int (iI i)), (0, .ref b), (1, .ref (a 0)), (2, .ref (a' 0)), (3, .ref o)] → W p l e room_1 s m #[Value.ref b] below meth c H locs (46 + (kk + 1)) (7991 + 6 * (kk + 1)) Q (F0 m 693 ls [])) :
    W p l e room_1 s m #[Value.ref b] below meth c H locs (46 + kk) (7991 + 6 * kk) Q (F0 m 268 ls []) := by
  obtain ⟨hfl, hx, hb, hml, hown, hG, hTA, hX, hbl, hL, hKx, hKm, hKo, hda, hdm, hap, hox, hom, hax, ham, hao⟩ := C
  obtain ⟨hR, hPx, hPm, ⟨fo, hPo⟩, hS⟩ := h
  have hfc : 46 + kk ≤ room_1.cells := by show 46 + kk ≤ 601024; omega
  have hfs : 7991 + 6 * kk ≤ room_1.slots := by show 7991 + 6 * kk ≤ 7293034; omega
  have bA : ¬ s.heap.size ≤ b := by omega
  have hoq : ∀ q, q = o → q < H.size → ¬ adr 24 a q := fun q h _ => by rw [h]; exact hox
  have xm : ∀ q, adr 21 a' q → ∀ N : Nat, q < N → ¬ adr 24 a q := fun q h _ _ z => hap q z h
  have mx : ∀ q, adr 24 a q → ∀ N : Nat, q < N → ¬ adr 21 a' q := fun q h _ _ => hap q h
  obtain ⟨p1, b1, e1⟩ := iI_of (xs (i + 1).toNat)
  obtain ⟨p2, b2, e2⟩ := iI_of (xs (i + 2).toNat)
  obtain ⟨p3, b3, e3⟩ := iI_of (xs (i + 3).toNat)
  obtain ⟨S, s1, -, -⟩ := hR.fd
  have bI := s1.1
  obtain ⟨w, hw⟩ := ith_ex (fun k => bt (I 0) k) 30 p1
  have hfc1 : 46 + kk + 1 ≤ room_1.cells := by show 46 + kk + 1 ≤ 601024; omega
  have hfs1 : 7991 + 6 * kk + 6 ≤ room_1.slots := by show 7991 + 6 * kk + 6 ≤ 7293034; omega
  by_cases hne : w = -1
  · subst hne
    refine lv_aload_n hx hb dL_law_268 rfl (lv_at hl 2 rfl) ?_
    refine lv_aload_n hx hb dL_law_269 rfl (lv_at hl 1 rfl) ?_
    refine lv_iload hx hb dL_law_270 (lv_at hl 0 rfl) ?_
    refine xr_iconst hx hb dL_law_272 ?_
    refine xr_iadd (a := i) (b := 1) hx hb dL_law_273 ?_
    refine xr_sld hx hb hX hbl bA hS (by omega) (z := i + 1) (v := p1) (by omega) (by omega) e1 dL_law_274 ?_
    refine lv_aload_n hx hb dL_law_275 rfl (lv_at hl 4 rfl) ?_
    refine lq1_call (g_runSW (rm := rmL) (rest := []) (As := [.ref (a 0), .int (iI p1), .ref o]) hx hb hml hown hG lw_cwF lw_stF ini_L (by decide) (c_L_found1 l D a k I F o ko fo p1 hfl bI b1 hw) pL_blind (fun U hU hW => ⟨rfl, hG.warm hW, va_K.moved hW.alike (hKx.app hKo), by rw [hU]; exact va_P.app hPx hPo, hTA.moved hW (fun q hq => by rw [hU]; exact hS.2.1 q hq (by omega))⟩) lk_L_49 rfl rfl nm_F hl.1 rfl (Nat.le_of_ble_eq_true rfl) ⟨(Nat.le_of_ble_eq_true rfl), (Nat.le_of_ble_eq_true rfl)⟩ ⟨hfc1, hfs1⟩ dL_law_276) hS (fun H1 _ hk1 hS => ?_)
    have hPx := kpP hPx (xD hda).2 (fun _ _ _ h => h) hk1
    have hPm := kpP hPm (mD hdm).2 (fun _ _ _ h => h) hk1
    have hPo := kpP (B := fun q => q = o) hPo one_in (fun _ _ _ h => h) hk1
    have hfc := hfc1
    have hfs := hfs1
    generalize H1 = H2 at hPx hPm hPo hS ⊢
    refine lv_istore (lv' := [(5, .int (iI 1)), (4, .int (iI i)), (0, .ref b), (1, .ref (a 0)), (2, .ref (a' 0)), (3, .ref o)]) hx hb dL_law_279 hl (by decide) rfl (fun ls hl => ?_)
    refine lv_aload_n hx hb dL_law_281 rfl (lv_at hl 4 rfl) ?_
    refine lv_aload_n hx hb dL_law_282 rfl (lv_at hl 2 rfl) ?_
    refine lv_iload hx hb dL_law_283 (lv_at hl 1 rfl) ?_
    refine xr_iconst hx hb dL_law_285 ?_
    refine xr_iadd (a := i) (b := 1) hx hb dL_law_286 ?_
    refine xr_sld hx hb hX hbl bA hS (by omega) (z := i + 1) (v := p1) (by omega) (by omega) e1 dL_law_287 ?_
    refine mu_call (g_runV (rest := []) hx hb hml hown hG hKm hPm mV_X6_found (c_X6_found l D a' k' J G hdm p1 hR.mi b1) lk_L_54 (va_recv hKm hPm (ci := 7) (q0 := 0) rfl rfl) rfl hl.1 rfl (Nat.le_of_ble_eq_true rfl) ⟨(Nat.le_of_ble_eq_true rfl), (Nat.le_of_ble_eq_true rfl)⟩ ⟨hfc, hfs⟩ dL_law_288) hS ham (fun r' v H3 locs q2 hPm _ hk2 hS => ?_)
    have hPx := kpP hPx (xD hda).2 (fun q h z => mx q h _ z) hk2
    have hPo := kpP (B := fun q => q = o) hPo one_in (fun q h _ => by rw [h]; exact hom) hk2
    obtain ⟨hR, hth⟩ := s_found0 hR hw q2
    have hth := hth.2 rfl
    refine lv_istore (lv' := [(6, .int (iI r')), (5, .int (iI 1)), (4, .int (iI i)), (0, .ref b), (1, .ref (a 0)), (2, .ref (a' 0)), (3, .ref o)]) hx hb dL_law_291 hl (by decide) rfl (fun ls hl => ?_)
    refine lv_aload_n hx hb dL_law_293 rfl (lv_at hl 5 rfl) ?_
    refine ro_call (g_runV (rest := []) hx hb hml hown hG hKm hPm mV_X6_thrown (c_X6_thrown l D a' k' v.1 v.2) lk_L_55 (va_recv hKm hPm (ci := 7) (q0 := 0) rfl rfl) rfl hl.1 rfl (Nat.le_of_ble_eq_true rfl) ⟨(Nat.le_of_ble_eq_true rfl), (Nat.le_of_ble_eq_true rfl)⟩ ⟨hfc, hfs⟩ dL_law_294) (fun tw etw => ?_)
    subst etw
    rw [hth]
    refine lv_iload hx hb dL_law_297 (lv_at hl 1 rfl) ?_
    refine lv_icmp_eq (tgt := 304) hx hb dL_law_299 (by decide) (fun _ => ?_) (fun h => absurd rfl h)
    refine lv_iload hx hb dL_law_304 (lv_at hl 1 rfl) ?_
    refine xr_if_ne (a := 1) (tgt := 321) hx hb dL_law_306 (by decide) (fun _ => ?_) (fun h => absurd h (by decide)) (by omega)
    refine lv_goto (tgt := 693) hx hb dL_law_321 (by decide) ?_
    refine W.widen (k := 46 + (kk + 1)) (n := 7991 + 6 * (kk + 1)) (by omega) (by omega) ?_
    have hl := lv_sub (l' := [(4, .int (iI i)), (0, .ref b), (1, .ref (a 0)), (2, .ref (a' 0)), (3, .ref o)]) hl [2, 3, 4, 5, 6] rfl
    exact nx I F v.1 v.2 _ _ _ ⟨hR, hPx, hPm, ⟨fo, hPo⟩, hS⟩ hl
  · refine lv_aload_n hx hb dL_law_268 rfl (lv_at hl 2 rfl) ?_
    refine lv_aload_n hx hb dL_law_269 rfl (lv_at hl 1 rfl) ?_
    refine lv_iload hx hb dL_law_270 (lv_at hl 0 rfl) ?_
    refine xr_iconst hx hb dL_law_272 ?_
    refine xr_iadd (a := i) (b := 1) hx hb dL_law_273 ?_
    refine xr_sld hx hb hX hbl bA hS (by omega) (z := i + 1) (v := p1) (by omega) (by omega) e1 dL_law_274 ?_
    refine lv_aload_n hx hb dL_law_275 rfl (lv_at hl 4 rfl) ?_
    refine lq0_call (g_runSW (rm := rmd 3) (mc := 0) (ms := 0) (rest := []) (As := [.ref (a 0), .int (iI p1), .ref o]) hx hb hml hown hG lw_cwF lw_stF ini_L (by decide) (c_L_found0 l D a k I F o ko fo p1 hda hox w bI b1 hw hne) pL_blind (fun U hU hW => ⟨rfl, hG.warm hW, va_K.moved hW.alike (hKx.app hKo), by rw [hU]; exact va_P.app hPx hPo, hTA.moved hW (fun q hq => by rw [hU]; exact hS.2.1 q hq (by omega))⟩) lk_L_49 rfl rfl nm_F hl.1 rfl (Nat.le_of_ble_eq_true rfl) ⟨(Nat.le_of_ble_eq_true rfl), (Nat.le_of_ble_eq_true rfl)⟩ ⟨hfc, hfs⟩ dL_law_276) hS (fun q h => h.elim (hax q) (fun z => by rw [z]; exact hao)) (fun fo H1 locs hfo hPl _ hk1 hS => ?_)
    have hPx : va_P D vwC (xW a k I F) H1 := hPl.sub [0, 1, 2, 3, 4, 5, 6, 7, 8, 9, 10, 11, 12, 13, 14, 15, 16, 17, 18, 19, 20, 21, 22, 23] rfl
    have hPo : va_P D vwC [(o, .inl (ko, 1, .inr (.inl fo)))] H1 := hPl.sub [24] rfl
    have hPm := kpP hPm (mD hdm).2 (fun q h z g => g.elim (xm q h _ z) (fun y => hom (by rw [← y]; exact h))) hk1
    generalize H1 = H2 at hPx hPm hPo hS ⊢
    refine lv_istore (lv' := [(5, .int (iI 0)), (4, .int (iI i)), (0, .ref b), (1, .ref (a 0)), (2, .ref (a' 0)), (3, .ref o)]) hx hb dL_law_279 hl (by decide) rfl (fun ls hl => ?_)
    refine lv_aload_n hx hb dL_law_281 rfl (lv_at hl 4 rfl) ?_
    refine lv_aload_n hx hb dL_law_282 rfl (lv_at hl 2 rfl) ?_
    refine lv_iload hx hb dL_law_283 (lv_at hl 1 rfl) ?_
    refine xr_iconst hx hb dL_law_285 ?_
    refine xr_iadd (a := i) (b := 1) hx hb dL_law_286 ?_
    refine xr_sld hx hb hX hbl bA hS (by omega) (z := i + 1) (v := p1) (by omega) (by omega) e1 dL_law_287 ?_
    refine mu_call (g_runV (rest := []) hx hb hml hown hG hKm hPm mV_X6_found (c_X6_found l D a' k' J G hdm p1 hR.mi b1) lk_L_54 (va_recv hKm hPm (ci := 7) (q0 := 0) rfl rfl) rfl hl.1 rfl (Nat.le_of_ble_eq_true rfl) ⟨(Nat.le_of_ble_eq_true rfl), (Nat.le_of_ble_eq_true rfl)⟩ ⟨hfc, hfs⟩ dL_law_288) hS ham (fun r' v H3 locs q2 hPm _ hk2 hS => ?_)
    have hPx := kpP hPx (xD hda).2 (fun q h z => mx q h _ z) hk2
    have hPo := kpP (B := fun q => q = o) hPo one_in (fun q h _ => by rw [h]; exact hom) hk2
    obtain ⟨hR, hth⟩ := s_found0 hR hw q2
    obtain ⟨hth, er⟩ := hth.1 hne
    refine lv_istore (lv' := [(6, .int (iI r')), (5, .int (iI 0)), (4, .int (iI i)), (0, .ref b), (1, .ref (a 0)), (2, .ref (a' 0)), (3, .ref o)]) hx hb dL_law_291 hl (by decide) rfl (fun ls hl => ?_)
    refine lv_aload_n hx hb dL_law_293 rfl (lv_at hl 5 rfl) ?_
    refine ro_call (g_runV (rest := []) hx hb hml hown hG hKm hPm mV_X6_thrown (c_X6_thrown l D a' k' v.1 v.2) lk_L_55 (va_recv hKm hPm (ci := 7) (q0 := 0) rfl rfl) rfl hl.1 rfl (Nat.le_of_ble_eq_true rfl) ⟨(Nat.le_of_ble_eq_true rfl), (Nat.le_of_ble_eq_true rfl)⟩ ⟨hfc, hfs⟩ dL_law_294) (fun tw etw => ?_)
    subst etw
    rw [hth]
    refine lv_iload hx hb dL_law_297 (lv_at hl 1 rfl) ?_
    refine lv_icmp_eq (tgt := 304) hx hb dL_law_299 (by decide) (fun _ => ?_) (fun h => absurd rfl h)
    refine lv_iload hx hb dL_law_304 (lv_at hl 1 rfl) ?_
    refine xr_if_ne (a := 0) (tgt := 321) hx hb dL_law_306 (by decide) (fun h => absurd rfl h) (fun _ => ?_) (by omega)
    refine lv_aload_n hx hb dL_law_309 rfl (lv_at hl 6 rfl) ?_
    refine xr_iconst hx hb dL_law_310 ?_
    refine va_lald hx hb hKo hPo 0 0 rfl rfl (i := iI 0) (iI_in (by omega) (by decide) (by decide)) dL_law_311 ?_
    rw [show (iI 0).toNatClampNeg = 0 by decide +kernel, hfo]
    refine lv_iload hx hb dL_law_312 (lv_at hl 0 rfl) ?_
    refine lv_i2l hx hb (v := (iI w).toInt64) dL_law_314 (by rw [er]) ?_
    refine xr_lcmp0 hx hb dL_law_315 ?_
    refine xr_if_eq (a := 0) (tgt := 321) hx hb dL_law_316 (by decide) (fun _ => ?_) (fun h => absurd rfl h) (by omega)
    refine lv_goto (tgt := 693) hx hb dL_law_321 (by decide) ?_
    refine W.widen (k := 46 + (kk + 1)) (n := 7991 + 6 * (kk + 1)) (by omega) (by omega) ?_
    have hl := lv_sub (l' := [(4, .int (iI i)), (0, .ref b), (1, .ref (a 0)), (2, .ref (a' 0)), (3, .ref o)]) hl [2, 3, 4, 5, 6] rfl
    exact nx I F v.1 v.2 _ _ _ ⟨hR, hPx, hPm, ⟨fo, hPo⟩, hS⟩ hl
set_option maxHeartbeats 4000000 in
set_option maxRecDepth 100000 in
theorem lw_meets {l : Launch} {p : Program} {e : Env} {s : State} {m : MethodId} {below : List Frame} {meth : Method} {c : Code} {Q : State → Prop} {b L : Nat} {xs : Nat → Int32} {D : va_G} {a : Nat → Nat} {k : Nat → ClassId} {a' : Nat → Nat} {k' : Nat → ClassId} {o : Nat} {ko : ClassId}
    (C : lC l p s m c b L xs D a k a' k' o ko) {I : Nat → Int} {F : Nat → Int → Int} {J : Nat → Int} {G : Nat → Int → Int} {H : Heap} {locs : List Loc} (h : lH s D a k a' k' o ko I F J G H locs) {i : Int} {kk : Nat} (hi : i = 4 * kk) (hi4 : i + 4 ≤ L) {ls : Array Slot} (hl : lv_has ls 7 [(4, .int (iI i)), (0, .ref b), (1, .ref (a 0)), (2, .ref (a' 0)), (3, .ref o)])
    (nx : ∀ (I : Nat → Int) (F : Nat → Int → Int) (J : Nat → Int) (G : Nat → Int → Int) (H : Heap) (locs : List Loc) (ls : Array Slot), lH s D a k a' k' o ko I F J G H locs → lv_has ls 7 [(4, .int (iI i)), (0, .ref b), (1, .ref (a 0)), (2, .ref (a' 0)), (3, .ref o)] → W p l e room_1 s m #[Value.ref b] below meth c H locs (46 + (kk + 1)) (7991 + 6 * (kk + 1)) Q (F0 m 693 ls [])) :
    W p l e room_1 s m #[Value.ref b] below meth c H locs (46 + kk) (7991 + 6 * kk) Q (F0 m 324 ls []) := by
  obtain ⟨hfl, hx, hb, hml, hown, hG, hTA, hX, hbl, hL, hKx, hKm, hKo, hda, hdm, hap, hox, hom, hax, ham, hao⟩ := C
  obtain ⟨hR, hPx, hPm, ⟨fo, hPo⟩, hS⟩ := h
  have hfc : 46 + kk ≤ room_1.cells := by show 46 + kk ≤ 601024; omega
  have hfs : 7991 + 6 * kk ≤ room_1.slots := by show 7991 + 6 * kk ≤ 7293034; omega
  have bA : ¬ s.heap.size ≤ b := by omega
  have hoq : ∀ q, q = o → q < H.size → ¬ adr 24 a q := fun q h _ => by rw [h]; exact hox
  have xm : ∀ q, adr 21 a' q → ∀ N : Nat, q < N → ¬ adr 24 a q := fun q h _ _ z => hap q z h
  have mx : ∀ q, adr 24 a q → ∀ N : Nat, q < N → ¬ adr 21 a' q := fun q h _ _ => hap q h
  obtain ⟨p1, b1, e1⟩ := iI_of (xs (i + 1).toNat)
  obtain ⟨p2, b2, e2⟩ := iI_of (xs (i + 2).toNat)
  obtain ⟨p3, b3, e3⟩ := iI_of (xs (i + 3).toNat)
  refine lv_aload_n hx hb dL_law_324 rfl (lv_at hl 2 rfl) ?_
  refine lv_aload_n hx hb dL_law_325 rfl (lv_at hl 1 rfl) ?_
  refine lv_iload hx hb dL_law_326 (lv_at hl 0 rfl) ?_
  refine xr_iconst hx hb dL_law_328 ?_
  refine xr_iadd (a := i) (b := 1) hx hb dL_law_329 ?_
  refine xr_sld hx hb hX hbl bA hS (by omega) (z := i + 1) (v := p1) (by omega) (by omega) e1 dL_law_330 ?_
  refine lv_aload_n hx hb dL_law_331 rfl (lv_at hl 1 rfl) ?_
  refine lv_iload hx hb dL_law_332 (lv_at hl 0 rfl) ?_
  refine xr_iconst hx hb dL_law_334 ?_
  refine xr_iadd (a := i) (b := 2) hx hb dL_law_335 ?_
  refine xr_sld hx hb hX hbl bA hS (by omega) (z := i + 2) (v := p2) (by omega) (by omega) e2 dL_law_336 ?_
  refine ro_call (g_runV (rest := []) hx hb hml hown hG hKx hPx mV_X5_meets (c_X5_meets l D a k I F p1 p2 hR.xi b1 b2) lk_L_58 (va_recv hKx hPx (ci := 6) (q0 := 0) rfl rfl) rfl hl.1 rfl (Nat.le_of_ble_eq_true rfl) ⟨(Nat.le_of_ble_eq_true rfl), (Nat.le_of_ble_eq_true rfl)⟩ ⟨hfc, hfs⟩ dL_law_337) (fun r q1 => ?_)
  refine lv_aload_n hx hb dL_law_340 rfl (lv_at hl 3 rfl) ?_
  refine lv_aload_n hx hb dL_law_341 rfl (lv_at hl 1 rfl) ?_
  refine lv_iload hx hb dL_law_342 (lv_at hl 0 rfl) ?_
  refine xr_iconst hx hb dL_law_344 ?_
  refine xr_iadd (a := i) (b := 1) hx hb dL_law_345 ?_
  refine xr_sld hx hb hX hbl bA hS (by omega) (z := i + 1) (v := p1) (by omega) (by omega) e1 dL_law_346 ?_
  refine lv_aload_n hx hb dL_law_347 rfl (lv_at hl 1 rfl) ?_
  refine lv_iload hx hb dL_law_348 (lv_at hl 0 rfl) ?_
  refine xr_iconst hx hb dL_law_350 ?_
  refine xr_iadd (a := i) (b := 2) hx hb dL_law_351 ?_
  refine xr_sld hx hb hX hbl bA hS (by omega) (z := i + 2) (v := p2) (by omega) (by omega) e2 dL_law_352 ?_
  refine mu_call (g_runV (rest := [.int (iI r)]) hx hb hml hown hG hKm hPm mV_X6_meets (c_X6_meets l D a' k' J G hdm p1 p2 hR.mi b1 b2) lk_L_61 (va_recv hKm hPm (ci := 7) (q0 := 0) rfl rfl) rfl hl.1 rfl (Nat.le_of_ble_eq_true rfl) ⟨(Nat.le_of_ble_eq_true rfl), (Nat.le_of_ble_eq_true rfl)⟩ ⟨hfc, hfs⟩ dL_law_353) hS ham (fun r' v H3 locs q2 hPm _ hk2 hS => ?_)
  have hPx := kpP hPx (xD hda).2 (fun q h z => mx q h _ z) hk2
  have hPo := kpP (B := fun q => q = o) hPo one_in (fun q h _ => by rw [h]; exact hom) hk2
  obtain ⟨er, hR⟩ := s_meets hR q1 q2
  subst er
  refine lv_icmp_eq (tgt := 693) hx hb dL_law_356 (by decide) (fun _ => ?_) (fun h => absurd rfl h)
  refine W.widen (k := 46 + (kk + 1)) (n := 7991 + 6 * (kk + 1)) (by omega) (by omega) ?_
  exact nx I F v.1 v.2 _ _ _ ⟨hR, hPx, hPm, ⟨fo, hPo⟩, hS⟩ hl
set_option maxHeartbeats 4000000 in
set_option maxRecDepth 100000 in
theorem lw_container {l : Launch} {p : Program} {e : Env} {s : State} {m : MethodId} {below : List Frame} {meth : Method} {c : Code} {Q : State → Prop} {b L : Nat} {xs : Nat → Int32} {D : va_G} {a : Nat → Nat} {k : Nat → ClassId} {a' : Nat → Nat} {k' : Nat → ClassId} {o : Nat} {ko : ClassId}
    (C : lC l p s m c b L xs D a k a' k' o ko) {I : Nat → Int} {F : Nat → Int → Int} {J : Nat → Int} {G : Nat → Int → Int} {H : Heap} {locs : List Loc} (h : lH s D a k a' k' o ko I F J G H locs) {i : Int} {kk : Nat} (hi : i = 4 * kk) (hi4 : i + 4 ≤ L) {ls : Array Slot} (hl : lv_has ls 7 [(4, .int (iI i)), (0, .ref b), (1, .ref (a 0)), (2, .ref (a' 0)), (3, .ref o)])
    (nx : ∀ (I : Nat → Int) (F : Nat → Int → Int) (J : Nat → Int) (G : Nat → Int → Int) (H : Heap) (locs : List Loc) (ls : Array Slot), lH s D a k a' k' o ko I F J G H locs → lv_has ls 7 [(4, .int (iI i)), (0, .ref b), (1, .ref (a 0)), (2, .ref (a' 0)), (3, .ref o)] → W p l e room_1 s m #[Value.ref b] below meth c H locs (46 + (kk + 1)) (7991 + 6 * (kk + 1)) Q (F0 m 693 ls [])) :
    W p l e room_1 s m #[Value.ref b] below meth c H locs (46 + kk) (7991 + 6 * kk) Q (F0 m 361 ls []) := by
  obtain ⟨hfl, hx, hb, hml, hown, hG, hTA, hX, hbl, hL, hKx, hKm, hKo, hda, hdm, hap, hox, hom, hax, ham, hao⟩ := C
  obtain ⟨hR, hPx, hPm, ⟨fo, hPo⟩, hS⟩ := h
  have hfc : 46 + kk ≤ room_1.cells := by show 46 + kk ≤ 601024; omega
  have hfs : 7991 + 6 * kk ≤ room_1.slots := by show 7991 + 6 * kk ≤ 7293034; omega
  have bA : ¬ s.heap.size ≤ b := by omega
  have hoq : ∀ q, q = o → q < H.size → ¬ adr 24 a q := fun q h _ => by rw [h]; exact hox
  have xm : ∀ q, adr 21 a' q → ∀ N : Nat, q < N → ¬ adr 24 a q := fun q h _ _ z => hap q z h
  have mx : ∀ q, adr 24 a q → ∀ N : Nat, q < N → ¬ adr 21 a' q := fun q h _ _ => hap q h
  obtain ⟨p1, b1, e1⟩ := iI_of (xs (i + 1).toNat)
  obtain ⟨p2, b2, e2⟩ := iI_of (xs (i + 2).toNat)
  obtain ⟨p3, b3, e3⟩ := iI_of (xs (i + 3).toNat)
  refine lv_aload_n hx hb dL_law_361 rfl (lv_at hl 2 rfl) ?_
  refine lv_aload_n hx hb dL_law_362 rfl (lv_at hl 1 rfl) ?_
  refine lv_iload hx hb dL_law_363 (lv_at hl 0 rfl) ?_
  refine xr_iconst hx hb dL_law_365 ?_
  refine xr_iadd (a := i) (b := 1) hx hb dL_law_366 ?_
  refine xr_sld hx hb hX hbl bA hS (by omega) (z := i + 1) (v := p1) (by omega) (by omega) e1 dL_law_367 ?_
  refine lv_aload_n hx hb dL_law_368 rfl (lv_at hl 1 rfl) ?_
  refine lv_iload hx hb dL_law_369 (lv_at hl 0 rfl) ?_
  refine xr_iconst hx hb dL_law_371 ?_
  refine xr_iadd (a := i) (b := 2) hx hb dL_law_372 ?_
  refine xr_sld hx hb hX hbl bA hS (by omega) (z := i + 2) (v := p2) (by omega) (by omega) e2 dL_law_373 ?_
  refine lv_aload_n hx hb dL_law_374 rfl (lv_at hl 1 rfl) ?_
  refine lv_iload hx hb dL_law_375 (lv_at hl 0 rfl) ?_
  refine xr_iconst hx hb dL_law_377 ?_
  refine xr_iadd (a := i) (b := 3) hx hb dL_law_378 ?_
  refine xr_sld hx hb hX hbl bA hS (by omega) (z := i + 3) (v := p3) (by omega) (by omega) e3 dL_law_379 ?_
  refine mu_call (g_runV (rest := []) hx hb hml hown hG hKx hPx mV_X5_container (c_X5_container l D a k I F hda p1 p2 p3 hR.xi b1 b2 b3) lk_L_62 (va_recv hKx hPx (ci := 6) (q0 := 0) rfl rfl) rfl hl.1 rfl (Nat.le_of_ble_eq_true rfl) ⟨(Nat.le_of_ble_eq_true rfl), (Nat.le_of_ble_eq_true rfl)⟩ ⟨hfc, hfs⟩ dL_law_380) hS hax (fun r u H1 locs q1 hPx _ hk1 hS => ?_)
  have hPm := kpP hPm (mD hdm).2 (fun q h z => xm q h _ z) hk1
  have hPo := kpP (B := fun q => q = o) hPo one_in (fun q h z => hoq q h z) hk1
  generalize H1 = H2 at hPx hPm hPo hS ⊢
  refine lv_aload_n hx hb dL_law_383 rfl (lv_at hl 3 rfl) ?_
  refine lv_aload_n hx hb dL_law_384 rfl (lv_at hl 1 rfl) ?_
  refine lv_iload hx hb dL_law_385 (lv_at hl 0 rfl) ?_
  refine xr_iconst hx hb dL_law_387 ?_
  refine xr_iadd (a := i) (b := 1) hx hb dL_law_388 ?_
  refine xr_sld hx hb hX hbl bA hS (by omega) (z := i + 1) (v := p1) (by omega) (by omega) e1 dL_law_389 ?_
  refine lv_aload_n hx hb dL_law_390 rfl (lv_at hl 1 rfl) ?_
  refine lv_iload hx hb dL_law_391 (lv_at hl 0 rfl) ?_
  refine xr_iconst hx hb dL_law_393 ?_
  refine xr_iadd (a := i) (b := 2) hx hb dL_law_394 ?_
  refine xr_sld hx hb hX hbl bA hS (by omega) (z := i + 2) (v := p2) (by omega) (by omega) e2 dL_law_395 ?_
  refine lv_aload_n hx hb dL_law_396 rfl (lv_at hl 1 rfl) ?_
  refine lv_iload hx hb dL_law_397 (lv_at hl 0 rfl) ?_
  refine xr_iconst hx hb dL_law_399 ?_
  refine xr_iadd (a := i) (b := 3) hx hb dL_law_400 ?_
  refine xr_sld hx hb hX hbl bA hS (by omega) (z := i + 3) (v := p3) (by omega) (by omega) e3 dL_law_401 ?_
  refine mu_call (g_runV (rest := [.int (iI r)]) hx hb hml hown hG hKm hPm mV_X6_container (c_X6_container l D a' k' J G hdm p1 p2 p3 hR.mi b1 b2 b3) lk_L_66 (va_recv hKm hPm (ci := 7) (q0 := 0) rfl rfl) rfl hl.1 rfl (Nat.le_of_ble_eq_true rfl) ⟨(Nat.le_of_ble_eq_true rfl), (Nat.le_of_ble_eq_true rfl)⟩ ⟨hfc, hfs⟩ dL_law_402) hS ham (fun r' v H3 locs q2 hPm _ hk2 hS => ?_)
  have hPx := kpP hPx (xD hda).2 (fun q h z => mx q h _ z) hk2
  have hPo := kpP (B := fun q => q = o) hPo one_in (fun q h _ => by rw [h]; exact hom) hk2
  obtain ⟨er, hR⟩ := s_container hR q1 q2
  subst er
  refine lv_icmp_eq (tgt := 693) hx hb dL_law_405 (by decide) (fun _ => ?_) (fun h => absurd rfl h)
  refine W.widen (k := 46 + (kk + 1)) (n := 7991 + 6 * (kk + 1)) (by omega) (by omega) ?_
  exact nx u.1 u.2 v.1 v.2 _ _ _ ⟨hR, hPx, hPm, ⟨fo, hPo⟩, hS⟩ hl
set_option maxHeartbeats 4000000 in
set_option maxRecDepth 100000 in
theorem lw_deep {l : Launch} {p : Program} {e : Env} {s : State} {m : MethodId} {below : List Frame} {meth : Method} {c : Code} {Q : State → Prop} {b L : Nat} {xs : Nat → Int32} {D : va_G} {a : Nat → Nat} {k : Nat → ClassId} {a' : Nat → Nat} {k' : Nat → ClassId} {o : Nat} {ko : ClassId}
    (C : lC l p s m c b L xs D a k a' k' o ko) {I : Nat → Int} {F : Nat → Int → Int} {J : Nat → Int} {G : Nat → Int → Int} {H : Heap} {locs : List Loc} (h : lH s D a k a' k' o ko I F J G H locs) {i : Int} {kk : Nat} (hi : i = 4 * kk) (hi4 : i + 4 ≤ L) {ls : Array Slot} (hl : lv_has ls 7 [(4, .int (iI i)), (0, .ref b), (1, .ref (a 0)), (2, .ref (a' 0)), (3, .ref o)])
    (nx : ∀ (I : Nat → Int) (F : Nat → Int → Int) (J : Nat → Int) (G : Nat → Int → Int) (H : Heap) (locs : List Loc) (ls : Array Slot), lH s D a k a' k' o ko I F J G H locs → lv_has ls 7 [(4, .int (iI i)), (0, .ref b), (1, .ref (a 0)), (2, .ref (a' 0)), (3, .ref o)] → W p l e room_1 s m #[Value.ref b] below meth c H locs (46 + (kk + 1)) (7991 + 6 * (kk + 1)) Q (F0 m 693 ls [])) :
    W p l e room_1 s m #[Value.ref b] below meth c H locs (46 + kk) (7991 + 6 * kk) Q (F0 m 410 ls []) := by
  obtain ⟨hfl, hx, hb, hml, hown, hG, hTA, hX, hbl, hL, hKx, hKm, hKo, hda, hdm, hap, hox, hom, hax, ham, hao⟩ := C
  obtain ⟨hR, hPx, hPm, ⟨fo, hPo⟩, hS⟩ := h
  have hfc : 46 + kk ≤ room_1.cells := by show 46 + kk ≤ 601024; omega
  have hfs : 7991 + 6 * kk ≤ room_1.slots := by show 7991 + 6 * kk ≤ 7293034; omega
  have bA : ¬ s.heap.size ≤ b := by omega
  have hoq : ∀ q, q = o → q < H.size → ¬ adr 24 a q := fun q h _ => by rw [h]; exact hox
  have xm : ∀ q, adr 21 a' q → ∀ N : Nat, q < N → ¬ adr 24 a q := fun q h _ _ z => hap q z h
  have mx : ∀ q, adr 24 a q → ∀ N : Nat, q < N → ¬ adr 21 a' q := fun q h _ _ => hap q h
  obtain ⟨p1, b1, e1⟩ := iI_of (xs (i + 1).toNat)
  obtain ⟨p2, b2, e2⟩ := iI_of (xs (i + 2).toNat)
  obtain ⟨p3, b3, e3⟩ := iI_of (xs (i + 3).toNat)
  refine lv_aload_n hx hb dL_law_410 rfl (lv_at hl 2 rfl) ?_
  refine lv_aload_n hx hb dL_law_411 rfl (lv_at hl 1 rfl) ?_
  refine lv_iload hx hb dL_law_412 (lv_at hl 0 rfl) ?_
  refine xr_iconst hx hb dL_law_414 ?_
  refine xr_iadd (a := i) (b := 1) hx hb dL_law_415 ?_
  refine xr_sld hx hb hX hbl bA hS (by omega) (z := i + 1) (v := p1) (by omega) (by omega) e1 dL_law_416 ?_
  refine ro_call (g_runV (rest := []) hx hb hml hown hG hKx hPx mV_X5_deep (c_X5_deep l D a k I F p1 hR.xi b1) lk_L_67 (va_recv hKx hPx (ci := 6) (q0 := 0) rfl rfl) rfl hl.1 rfl (Nat.le_of_ble_eq_true rfl) ⟨(Nat.le_of_ble_eq_true rfl), (Nat.le_of_ble_eq_true rfl)⟩ ⟨hfc, hfs⟩ dL_law_417) (fun r q1 => ?_)
  refine lv_aload_n hx hb dL_law_420 rfl (lv_at hl 3 rfl) ?_
  refine lv_aload_n hx hb dL_law_421 rfl (lv_at hl 1 rfl) ?_
  refine lv_iload hx hb dL_law_422 (lv_at hl 0 rfl) ?_
  refine xr_iconst hx hb dL_law_424 ?_
  refine xr_iadd (a := i) (b := 1) hx hb dL_law_425 ?_
  refine xr_sld hx hb hX hbl bA hS (by omega) (z := i + 1) (v := p1) (by omega) (by omega) e1 dL_law_426 ?_
  refine mu_call (g_runV (rest := [.int (iI r)]) hx hb hml hown hG hKm hPm mV_X6_deep (c_X6_deep l D a' k' J G hdm p1 hR.mi b1) lk_L_70 (va_recv hKm hPm (ci := 7) (q0 := 0) rfl rfl) rfl hl.1 rfl (Nat.le_of_ble_eq_true rfl) ⟨(Nat.le_of_ble_eq_true rfl), (Nat.le_of_ble_eq_true rfl)⟩ ⟨hfc, hfs⟩ dL_law_427) hS ham (fun r' v H3 locs q2 hPm _ hk2 hS => ?_)
  have hPx := kpP hPx (xD hda).2 (fun q h z => mx q h _ z) hk2
  have hPo := kpP (B := fun q => q = o) hPo one_in (fun q h _ => by rw [h]; exact hom) hk2
  obtain ⟨er, hR⟩ := s_deep hR q1 q2
  subst er
  refine lv_icmp_eq (tgt := 693) hx hb dL_law_430 (by decide) (fun _ => ?_) (fun h => absurd rfl h)
  refine W.widen (k := 46 + (kk + 1)) (n := 7991 + 6 * (kk + 1)) (by omega) (by omega) ?_
  exact nx I F v.1 v.2 _ _ _ ⟨hR, hPx, hPm, ⟨fo, hPo⟩, hS⟩ hl
set_option maxHeartbeats 4000000 in
set_option maxRecDepth 100000 in
theorem lw_obsolete {l : Launch} {p : Program} {e : Env} {s : State} {m : MethodId} {below : List Frame} {meth : Method} {c : Code} {Q : State → Prop} {b L : Nat} {xs : Nat → Int32} {D : va_G} {a : Nat → Nat} {k : Nat → ClassId} {a' : Nat → Nat} {k' : Nat → ClassId} {o : Nat} {ko : ClassId}
    (C : lC l p s m c b L xs D a k a' k' o ko) {I : Nat → Int} {F : Nat → Int → Int} {J : Nat → Int} {G : Nat → Int → Int} {H : Heap} {locs : List Loc} (h : lH s D a k a' k' o ko I F J G H locs) {i : Int} {kk : Nat} (hi : i = 4 * kk) (hi4 : i + 4 ≤ L) {ls : Array Slot} (hl : lv_has ls 7 [(4, .int (iI i)), (0, .ref b), (1, .ref (a 0)), (2, .ref (a' 0)), (3, .ref o)])
    (nx : ∀ (I : Nat → Int) (F : Nat → Int → Int) (J : Nat → Int) (G : Nat → Int → Int) (H : Heap) (locs : List Loc) (ls : Array Slot), lH s D a k a' k' o ko I F J G H locs → lv_has ls 7 [(4, .int (iI i)), (0, .ref b), (1, .ref (a 0)), (2, .ref (a' 0)), (3, .ref o)] → W p l e room_1 s m #[Value.ref b] below meth c H locs (46 + (kk + 1)) (7991 + 6 * (kk + 1)) Q (F0 m 693 ls [])) :
    W p l e room_1 s m #[Value.ref b] below meth c H locs (46 + kk) (7991 + 6 * kk) Q (F0 m 435 ls []) := by
  obtain ⟨hfl, hx, hb, hml, hown, hG, hTA, hX, hbl, hL, hKx, hKm, hKo, hda, hdm, hap, hox, hom, hax, ham, hao⟩ := C
  obtain ⟨hR, hPx, hPm, ⟨fo, hPo⟩, hS⟩ := h
  have hfc : 46 + kk ≤ room_1.cells := by show 46 + kk ≤ 601024; omega
  have hfs : 7991 + 6 * kk ≤ room_1.slots := by show 7991 + 6 * kk ≤ 7293034; omega
  have bA : ¬ s.heap.size ≤ b := by omega
  have hoq : ∀ q, q = o → q < H.size → ¬ adr 24 a q := fun q h _ => by rw [h]; exact hox
  have xm : ∀ q, adr 21 a' q → ∀ N : Nat, q < N → ¬ adr 24 a q := fun q h _ _ z => hap q z h
  have mx : ∀ q, adr 24 a q → ∀ N : Nat, q < N → ¬ adr 21 a' q := fun q h _ _ => hap q h
  obtain ⟨p1, b1, e1⟩ := iI_of (xs (i + 1).toNat)
  obtain ⟨p2, b2, e2⟩ := iI_of (xs (i + 2).toNat)
  obtain ⟨p3, b3, e3⟩ := iI_of (xs (i + 3).toNat)
  by_cases hz : p2 = 0
  · have hq : (0 : Int) = 0 ∨ (0 : Int) = 1 := Or.inl rfl
    refine lv_aload_n hx hb dL_law_435 rfl (lv_at hl 2 rfl) ?_
    refine lv_aload_n hx hb dL_law_436 rfl (lv_at hl 1 rfl) ?_
    refine lv_iload hx hb dL_law_437 (lv_at hl 0 rfl) ?_
    refine xr_iconst hx hb dL_law_439 ?_
    refine xr_iadd (a := i) (b := 1) hx hb dL_law_440 ?_
    refine xr_sld hx hb hX hbl bA hS (by omega) (z := i + 1) (v := p1) (by omega) (by omega) e1 dL_law_441 ?_
    refine lv_aload_n hx hb dL_law_442 rfl (lv_at hl 1 rfl) ?_
    refine lv_iload hx hb dL_law_443 (lv_at hl 0 rfl) ?_
    refine xr_iconst hx hb dL_law_445 ?_
    refine xr_iadd (a := i) (b := 2) hx hb dL_law_446 ?_
    refine xr_sld hx hb hX hbl bA hS (by omega) (z := i + 2) (v := p2) (by omega) (by omega) e2 dL_law_447 ?_
    refine xr_if_eq (a := p2) (tgt := 455) hx hb dL_law_448 (by decide) (fun _ => ?_) (fun h => absurd hz h) b2
    refine xr_iconst hx hb dL_law_455 ?_
    refine mu_call (g_runV (rest := []) hx hb hml hown hG hKx hPx mV_X5_obsolete (c_X5_obsolete l D a k I F hda p1 0 hR.xi b1 hq) lk_L_71 (va_recv hKx hPx (ci := 6) (q0 := 0) rfl rfl) rfl hl.1 rfl (Nat.le_of_ble_eq_true rfl) ⟨(Nat.le_of_ble_eq_true rfl), (Nat.le_of_ble_eq_true rfl)⟩ ⟨hfc, hfs⟩ dL_law_456) hS hax (fun r u H1 locs q1 hPx _ hk1 hS => ?_)
    have hPm := kpP hPm (mD hdm).2 (fun q h z => xm q h _ z) hk1
    have hPo := kpP (B := fun q => q = o) hPo one_in (fun q h z => hoq q h z) hk1
    generalize H1 = H2 at hPx hPm hPo hS ⊢
    refine lv_aload_n hx hb dL_law_459 rfl (lv_at hl 3 rfl) ?_
    refine lv_aload_n hx hb dL_law_460 rfl (lv_at hl 1 rfl) ?_
    refine lv_iload hx hb dL_law_461 (lv_at hl 0 rfl) ?_
    refine xr_iconst hx hb dL_law_463 ?_
    refine xr_iadd (a := i) (b := 1) hx hb dL_law_464 ?_
    refine xr_sld hx hb hX hbl bA hS (by omega) (z := i + 1) (v := p1) (by omega) (by omega) e1 dL_law_465 ?_
    refine lv_aload_n hx hb dL_law_466 rfl (lv_at hl 1 rfl) ?_
    refine lv_iload hx hb dL_law_467 (lv_at hl 0 rfl) ?_
    refine xr_iconst hx hb dL_law_469 ?_
    refine xr_iadd (a := i) (b := 2) hx hb dL_law_470 ?_
    refine xr_sld hx hb hX hbl bA hS (by omega) (z := i + 2) (v := p2) (by omega) (by omega) e2 dL_law_471 ?_
    refine xr_if_eq (a := p2) (tgt := 479) hx hb dL_law_472 (by decide) (fun _ => ?_) (fun h => absurd hz h) b2
    refine xr_iconst hx hb dL_law_479 ?_
    refine mu_call (g_runV (rest := [.int (iI r)]) hx hb hml hown hG hKm hPm mV_X6_obsolete (c_X6_obsolete l D a' k' J G hdm p1 0 hR.mi b1 hq) lk_L_75 (va_recv hKm hPm (ci := 7) (q0 := 0) rfl rfl) rfl hl.1 rfl (Nat.le_of_ble_eq_true rfl) ⟨(Nat.le_of_ble_eq_true rfl), (Nat.le_of_ble_eq_true rfl)⟩ ⟨hfc, hfs⟩ dL_law_480) hS ham (fun r' v H3 locs q2 hPm _ hk2 hS => ?_)
    have hPx := kpP hPx (xD hda).2 (fun q h z => mx q h _ z) hk2
    have hPo := kpP (B := fun q => q = o) hPo one_in (fun q h _ => by rw [h]; exact hom) hk2
    obtain ⟨er, hR⟩ := s_obsolete hR hq q1 q2
    subst er
    refine lv_icmp_eq (tgt := 693) hx hb dL_law_483 (by decide) (fun _ => ?_) (fun h => absurd rfl h)
    refine W.widen (k := 46 + (kk + 1)) (n := 7991 + 6 * (kk + 1)) (by omega) (by omega) ?_
    exact nx u.1 u.2 v.1 v.2 _ _ _ ⟨hR, hPx, hPm, ⟨fo, hPo⟩, hS⟩ hl
  · have hq : (1 : Int) = 0 ∨ (1 : Int) = 1 := Or.inr rfl
    refine lv_aload_n hx hb dL_law_435 rfl (lv_at hl 2 rfl) ?_
    refine lv_aload_n hx hb dL_law_436 rfl (lv_at hl 1 rfl) ?_
    refine lv_iload hx hb dL_law_437 (lv_at hl 0 rfl) ?_
    refine xr_iconst hx hb dL_law_439 ?_
    refine xr_iadd (a := i) (b := 1) hx hb dL_law_440 ?_
    refine xr_sld hx hb hX hbl bA hS (by omega) (z := i + 1) (v := p1) (by omega) (by omega) e1 dL_law_441 ?_
    refine lv_aload_n hx hb dL_law_442 rfl (lv_at hl 1 rfl) ?_
    refine lv_iload hx hb dL_law_443 (lv_at hl 0 rfl) ?_
    refine xr_iconst hx hb dL_law_445 ?_
    refine xr_iadd (a := i) (b := 2) hx hb dL_law_446 ?_
    refine xr_sld hx hb hX hbl bA hS (by omega) (z := i + 2) (v := p2) (by omega) (by omega) e2 dL_law_447 ?_
    refine xr_if_eq (a := p2) (tgt := 455) hx hb dL_law_448 (by decide) (fun h => absurd h hz) (fun _ => ?_) b2
    refine xr_iconst hx hb dL_law_451 ?_
    refine lv_goto (tgt := 456) hx hb dL_law_452 (by decide) ?_
    refine mu_call (g_runV (rest := []) hx hb hml hown hG hKx hPx mV_X5_obsolete (c_X5_obsolete l D a k I F hda p1 1 hR.xi b1 hq) lk_L_71 (va_recv hKx hPx (ci := 6) (q0 := 0) rfl rfl) rfl hl.1 rfl (Nat.le_of_ble_eq_true rfl) ⟨(Nat.le_of_ble_eq_true rfl), (Nat.le_of_ble_eq_true rfl)⟩ ⟨hfc, hfs⟩ dL_law_456) hS hax (fun r u H1 locs q1 hPx _ hk1 hS => ?_)
    have hPm := kpP hPm (mD hdm).2 (fun q h z => xm q h _ z) hk1
    have hPo := kpP (B := fun q => q = o) hPo one_in (fun q h z => hoq q h z) hk1
    generalize H1 = H2 at hPx hPm hPo hS ⊢
    refine lv_aload_n hx hb dL_law_459 rfl (lv_at hl 3 rfl) ?_
    refine lv_aload_n hx hb dL_law_460 rfl (lv_at hl 1 rfl) ?_
    refine lv_iload hx hb dL_law_461 (lv_at hl 0 rfl) ?_
    refine xr_iconst hx hb dL_law_463 ?_
    refine xr_iadd (a := i) (b := 1) hx hb dL_law_464 ?_
    refine xr_sld hx hb hX hbl bA hS (by omega) (z := i + 1) (v := p1) (by omega) (by omega) e1 dL_law_465 ?_
    refine lv_aload_n hx hb dL_law_466 rfl (lv_at hl 1 rfl) ?_
    refine lv_iload hx hb dL_law_467 (lv_at hl 0 rfl) ?_
    refine xr_iconst hx hb dL_law_469 ?_
    refine xr_iadd (a := i) (b := 2) hx hb dL_law_470 ?_
    refine xr_sld hx hb hX hbl bA hS (by omega) (z := i + 2) (v := p2) (by omega) (by omega) e2 dL_law_471 ?_
    refine xr_if_eq (a := p2) (tgt := 479) hx hb dL_law_472 (by decide) (fun h => absurd h hz) (fun _ => ?_) b2
    refine xr_iconst hx hb dL_law_475 ?_
    refine lv_goto (tgt := 480) hx hb dL_law_476 (by decide) ?_
    refine mu_call (g_runV (rest := [.int (iI r)]) hx hb hml hown hG hKm hPm mV_X6_obsolete (c_X6_obsolete l D a' k' J G hdm p1 1 hR.mi b1 hq) lk_L_75 (va_recv hKm hPm (ci := 7) (q0 := 0) rfl rfl) rfl hl.1 rfl (Nat.le_of_ble_eq_true rfl) ⟨(Nat.le_of_ble_eq_true rfl), (Nat.le_of_ble_eq_true rfl)⟩ ⟨hfc, hfs⟩ dL_law_480) hS ham (fun r' v H3 locs q2 hPm _ hk2 hS => ?_)
    have hPx := kpP hPx (xD hda).2 (fun q h z => mx q h _ z) hk2
    have hPo := kpP (B := fun q => q = o) hPo one_in (fun q h _ => by rw [h]; exact hom) hk2
    obtain ⟨er, hR⟩ := s_obsolete hR hq q1 q2
    subst er
    refine lv_icmp_eq (tgt := 693) hx hb dL_law_483 (by decide) (fun _ => ?_) (fun h => absurd rfl h)
    refine W.widen (k := 46 + (kk + 1)) (n := 7991 + 6 * (kk + 1)) (by omega) (by omega) ?_
    exact nx u.1 u.2 v.1 v.2 _ _ _ ⟨hR, hPx, hPm, ⟨fo, hPo⟩, hS⟩ hl
set_option maxHeartbeats 4000000 in
set_option maxRecDepth 100000 in
theorem lw_migration {l : Launch} {p : Program} {e : Env} {s : State} {m : MethodId} {below : List Frame} {meth : Method} {c : Code} {Q : State → Prop} {b L : Nat} {xs : Nat → Int32} {D : va_G} {a : Nat → Nat} {k : Nat → ClassId} {a' : Nat → Nat} {k' : Nat → ClassId} {o : Nat} {ko : ClassId}
    (C : lC l p s m c b L xs D a k a' k' o ko) {I : Nat → Int} {F : Nat → Int → Int} {J : Nat → Int} {G : Nat → Int → Int} {H : Heap} {locs : List Loc} (h : lH s D a k a' k' o ko I F J G H locs) {i : Int} {kk : Nat} (hi : i = 4 * kk) (hi4 : i + 4 ≤ L) {ls : Array Slot} (hl : lv_has ls 7 [(4, .int (iI i)), (0, .ref b), (1, .ref (a 0)), (2, .ref (a' 0)), (3, .ref o)])
    (nx : ∀ (I : Nat → Int) (F : Nat → Int → Int) (J : Nat → Int) (G : Nat → Int → Int) (H : Heap) (locs : List Loc) (ls : Array Slot), lH s D a k a' k' o ko I F J G H locs → lv_has ls 7 [(4, .int (iI i)), (0, .ref b), (1, .ref (a 0)), (2, .ref (a' 0)), (3, .ref o)] → W p l e room_1 s m #[Value.ref b] below meth c H locs (46 + (kk + 1)) (7991 + 6 * (kk + 1)) Q (F0 m 693 ls [])) :
    W p l e room_1 s m #[Value.ref b] below meth c H locs (46 + kk) (7991 + 6 * kk) Q (F0 m 488 ls []) := by
  obtain ⟨hfl, hx, hb, hml, hown, hG, hTA, hX, hbl, hL, hKx, hKm, hKo, hda, hdm, hap, hox, hom, hax, ham, hao⟩ := C
  obtain ⟨hR, hPx, hPm, ⟨fo, hPo⟩, hS⟩ := h
  have hfc : 46 + kk ≤ room_1.cells := by show 46 + kk ≤ 601024; omega
  have hfs : 7991 + 6 * kk ≤ room_1.slots := by show 7991 + 6 * kk ≤ 7293034; omega
  have bA : ¬ s.heap.size ≤ b := by omega
  have hoq : ∀ q, q = o → q < H.size → ¬ adr 24 a q := fun q h _ => by rw [h]; exact hox
  have xm : ∀ q, adr 21 a' q → ∀ N : Nat, q < N → ¬ adr 24 a q := fun q h _ _ z => hap q z h
  have mx : ∀ q, adr 24 a q → ∀ N : Nat, q < N → ¬ adr 21 a' q := fun q h _ _ => hap q h
  obtain ⟨p1, b1, e1⟩ := iI_of (xs (i + 1).toNat)
  obtain ⟨p2, b2, e2⟩ := iI_of (xs (i + 2).toNat)
  obtain ⟨p3, b3, e3⟩ := iI_of (xs (i + 3).toNat)
  refine lv_aload_n hx hb dL_law_488 rfl (lv_at hl 2 rfl) ?_
  refine lv_aload_n hx hb dL_law_489 rfl (lv_at hl 1 rfl) ?_
  refine lv_iload hx hb dL_law_490 (lv_at hl 0 rfl) ?_
  refine xr_iconst hx hb dL_law_492 ?_
  refine xr_iadd (a := i) (b := 1) hx hb dL_law_493 ?_
  refine xr_sld hx hb hX hbl bA hS (by omega) (z := i + 1) (v := p1) (by omega) (by omega) e1 dL_law_494 ?_
  refine lv_aload_n hx hb dL_law_495 rfl (lv_at hl 1 rfl) ?_
  refine lv_iload hx hb dL_law_496 (lv_at hl 0 rfl) ?_
  refine xr_iconst hx hb dL_law_498 ?_
  refine xr_iadd (a := i) (b := 2) hx hb dL_law_499 ?_
  refine xr_sld hx hb hX hbl bA hS (by omega) (z := i + 2) (v := p2) (by omega) (by omega) e2 dL_law_500 ?_
  refine mu_call (g_runV (rest := []) hx hb hml hown hG hKx hPx mV_X5_migration (c_X5_migration l D a k I F hda p1 p2 hR.xi b1 b2) lk_L_76 (va_recv hKx hPx (ci := 6) (q0 := 0) rfl rfl) rfl hl.1 rfl (Nat.le_of_ble_eq_true rfl) ⟨(Nat.le_of_ble_eq_true rfl), (Nat.le_of_ble_eq_true rfl)⟩ ⟨hfc, hfs⟩ dL_law_501) hS hax (fun r u H1 locs q1 hPx _ hk1 hS => ?_)
  have hPm := kpP hPm (mD hdm).2 (fun q h z => xm q h _ z) hk1
  have hPo := kpP (B := fun q => q = o) hPo one_in (fun q h z => hoq q h z) hk1
  generalize H1 = H2 at hPx hPm hPo hS ⊢
  refine lv_aload_n hx hb dL_law_504 rfl (lv_at hl 3 rfl) ?_
  refine lv_aload_n hx hb dL_law_505 rfl (lv_at hl 1 rfl) ?_
  refine lv_iload hx hb dL_law_506 (lv_at hl 0 rfl) ?_
  refine xr_iconst hx hb dL_law_508 ?_
  refine xr_iadd (a := i) (b := 1) hx hb dL_law_509 ?_
  refine xr_sld hx hb hX hbl bA hS (by omega) (z := i + 1) (v := p1) (by omega) (by omega) e1 dL_law_510 ?_
  refine lv_aload_n hx hb dL_law_511 rfl (lv_at hl 1 rfl) ?_
  refine lv_iload hx hb dL_law_512 (lv_at hl 0 rfl) ?_
  refine xr_iconst hx hb dL_law_514 ?_
  refine xr_iadd (a := i) (b := 2) hx hb dL_law_515 ?_
  refine xr_sld hx hb hX hbl bA hS (by omega) (z := i + 2) (v := p2) (by omega) (by omega) e2 dL_law_516 ?_
  refine mu_call (g_runV (rest := [.int (iI r)]) hx hb hml hown hG hKm hPm mV_X6_migration (c_X6_migration l D a' k' J G hdm p1 p2 hR.mi b1 b2) lk_L_79 (va_recv hKm hPm (ci := 7) (q0 := 0) rfl rfl) rfl hl.1 rfl (Nat.le_of_ble_eq_true rfl) ⟨(Nat.le_of_ble_eq_true rfl), (Nat.le_of_ble_eq_true rfl)⟩ ⟨hfc, hfs⟩ dL_law_517) hS ham (fun r' v H3 locs q2 hPm _ hk2 hS => ?_)
  have hPx := kpP hPx (xD hda).2 (fun q h z => mx q h _ z) hk2
  have hPo := kpP (B := fun q => q = o) hPo one_in (fun q h _ => by rw [h]; exact hom) hk2
  obtain ⟨er, hR⟩ := s_migration hR q1 q2
  subst er
  refine lv_icmp_eq (tgt := 693) hx hb dL_law_520 (by decide) (fun _ => ?_) (fun h => absurd rfl h)
  refine W.widen (k := 46 + (kk + 1)) (n := 7991 + 6 * (kk + 1)) (by omega) (by omega) ?_
  exact nx u.1 u.2 v.1 v.2 _ _ _ ⟨hR, hPx, hPm, ⟨fo, hPo⟩, hS⟩ hl
set_option maxHeartbeats 4000000 in
set_option maxRecDepth 100000 in
theorem lw_becomes {l : Launch} {p : Program} {e : Env} {s : State} {m : MethodId} {below : List Frame} {meth : Method} {c : Code} {Q : State → Prop} {b L : Nat} {xs : Nat → Int32} {D : va_G} {a : Nat → Nat} {k : Nat → ClassId} {a' : Nat → Nat} {k' : Nat → ClassId} {o : Nat} {ko : ClassId}
    (C : lC l p s m c b L xs D a k a' k' o ko) {I : Nat → Int} {F : Nat → Int → Int} {J : Nat → Int} {G : Nat → Int → Int} {H : Heap} {locs : List Loc} (h : lH s D a k a' k' o ko I F J G H locs) {i : Int} {kk : Nat} (hi : i = 4 * kk) (hi4 : i + 4 ≤ L) {ls : Array Slot} (hl : lv_has ls 7 [(4, .int (iI i)), (0, .ref b), (1, .ref (a 0)), (2, .ref (a' 0)), (3, .ref o)])
    (nx : ∀ (I : Nat → Int) (F : Nat → Int → Int) (J : Nat → Int) (G : Nat → Int → Int) (H : Heap) (locs : List Loc) (ls : Array Slot), lH s D a k a' k' o ko I F J G H locs → lv_has ls 7 [(4, .int (iI i)), (0, .ref b), (1, .ref (a 0)), (2, .ref (a' 0)), (3, .ref o)] → W p l e room_1 s m #[Value.ref b] below meth c H locs (46 + (kk + 1)) (7991 + 6 * (kk + 1)) Q (F0 m 693 ls [])) :
    W p l e room_1 s m #[Value.ref b] below meth c H locs (46 + kk) (7991 + 6 * kk) Q (F0 m 525 ls []) := by
  obtain ⟨hfl, hx, hb, hml, hown, hG, hTA, hX, hbl, hL, hKx, hKm, hKo, hda, hdm, hap, hox, hom, hax, ham, hao⟩ := C
  obtain ⟨hR, hPx, hPm, ⟨fo, hPo⟩, hS⟩ := h
  have hfc : 46 + kk ≤ room_1.cells := by show 46 + kk ≤ 601024; omega
  have hfs : 7991 + 6 * kk ≤ room_1.slots := by show 7991 + 6 * kk ≤ 7293034; omega
  have bA : ¬ s.heap.size ≤ b := by omega
  have hoq : ∀ q, q = o → q < H.size → ¬ adr 24 a q := fun q h _ => by rw [h]; exact hox
  have xm : ∀ q, adr 21 a' q → ∀ N : Nat, q < N → ¬ adr 24 a q := fun q h _ _ z => hap q z h
  have mx : ∀ q, adr 24 a q → ∀ N : Nat, q < N → ¬ adr 21 a' q := fun q h _ _ => hap q h
  obtain ⟨p1, b1, e1⟩ := iI_of (xs (i + 1).toNat)
  obtain ⟨p2, b2, e2⟩ := iI_of (xs (i + 2).toNat)
  obtain ⟨p3, b3, e3⟩ := iI_of (xs (i + 3).toNat)
  refine lv_aload_n hx hb dL_law_525 rfl (lv_at hl 2 rfl) ?_
  refine lv_aload_n hx hb dL_law_526 rfl (lv_at hl 1 rfl) ?_
  refine lv_iload hx hb dL_law_527 (lv_at hl 0 rfl) ?_
  refine xr_iconst hx hb dL_law_529 ?_
  refine xr_iadd (a := i) (b := 1) hx hb dL_law_530 ?_
  refine xr_sld hx hb hX hbl bA hS (by omega) (z := i + 1) (v := p1) (by omega) (by omega) e1 dL_law_531 ?_
  refine ro_call (g_runV (rest := []) hx hb hml hown hG hKx hPx mV_X5_becomes (c_X5_becomes l D a k I F p1 hR.xi b1) lk_L_80 (va_recv hKx hPx (ci := 6) (q0 := 0) rfl rfl) rfl hl.1 rfl (Nat.le_of_ble_eq_true rfl) ⟨(Nat.le_of_ble_eq_true rfl), (Nat.le_of_ble_eq_true rfl)⟩ ⟨hfc, hfs⟩ dL_law_532) (fun r q1 => ?_)
  refine lv_aload_n hx hb dL_law_535 rfl (lv_at hl 3 rfl) ?_
  refine lv_aload_n hx hb dL_law_536 rfl (lv_at hl 1 rfl) ?_
  refine lv_iload hx hb dL_law_537 (lv_at hl 0 rfl) ?_
  refine xr_iconst hx hb dL_law_539 ?_
  refine xr_iadd (a := i) (b := 1) hx hb dL_law_540 ?_
  refine xr_sld hx hb hX hbl bA hS (by omega) (z := i + 1) (v := p1) (by omega) (by omega) e1 dL_law_541 ?_
  refine mu_call (g_runV (rest := [.int (iI r)]) hx hb hml hown hG hKm hPm mV_X6_becomes (c_X6_becomes l D a' k' J G hdm p1 hR.mi b1) lk_L_83 (va_recv hKm hPm (ci := 7) (q0 := 0) rfl rfl) rfl hl.1 rfl (Nat.le_of_ble_eq_true rfl) ⟨(Nat.le_of_ble_eq_true rfl), (Nat.le_of_ble_eq_true rfl)⟩ ⟨hfc, hfs⟩ dL_law_542) hS ham (fun r' v H3 locs q2 hPm _ hk2 hS => ?_)
  have hPx := kpP hPx (xD hda).2 (fun q h z => mx q h _ z) hk2
  have hPo := kpP (B := fun q => q = o) hPo one_in (fun q h _ => by rw [h]; exact hom) hk2
  obtain ⟨er, hR⟩ := s_becomes hR q1 q2
  subst er
  refine lv_icmp_eq (tgt := 693) hx hb dL_law_545 (by decide) (fun _ => ?_) (fun h => absurd rfl h)
  refine W.widen (k := 46 + (kk + 1)) (n := 7991 + 6 * (kk + 1)) (by omega) (by omega) ?_
  exact nx I F v.1 v.2 _ _ _ ⟨hR, hPx, hPm, ⟨fo, hPo⟩, hS⟩ hl
set_option maxHeartbeats 4000000 in
set_option maxRecDepth 100000 in
theorem lw_keep {l : Launch} {p : Program} {e : Env} {s : State} {m : MethodId} {below : List Frame} {meth : Method} {c : Code} {Q : State → Prop} {b L : Nat} {xs : Nat → Int32} {D : va_G} {a : Nat → Nat} {k : Nat → ClassId} {a' : Nat → Nat} {k' : Nat → ClassId} {o : Nat} {ko : ClassId}
    (C : lC l p s m c b L xs D a k a' k' o ko) {I : Nat → Int} {F : Nat → Int → Int} {J : Nat → Int} {G : Nat → Int → Int} {H : Heap} {locs : List Loc} (h : lH s D a k a' k' o ko I F J G H locs) {i : Int} {kk : Nat} (hi : i = 4 * kk) (hi4 : i + 4 ≤ L) {ls : Array Slot} (hl : lv_has ls 7 [(4, .int (iI i)), (0, .ref b), (1, .ref (a 0)), (2, .ref (a' 0)), (3, .ref o)])
    (nx : ∀ (I : Nat → Int) (F : Nat → Int → Int) (J : Nat → Int) (G : Nat → Int → Int) (H : Heap) (locs : List Loc) (ls : Array Slot), lH s D a k a' k' o ko I F J G H locs → lv_has ls 7 [(4, .int (iI i)), (0, .ref b), (1, .ref (a 0)), (2, .ref (a' 0)), (3, .ref o)] → W p l e room_1 s m #[Value.ref b] below meth c H locs (46 + (kk + 1)) (7991 + 6 * (kk + 1)) Q (F0 m 693 ls [])) :
    W p l e room_1 s m #[Value.ref b] below meth c H locs (46 + kk) (7991 + 6 * kk) Q (F0 m 550 ls []) := by
  obtain ⟨hfl, hx, hb, hml, hown, hG, hTA, hX, hbl, hL, hKx, hKm, hKo, hda, hdm, hap, hox, hom, hax, ham, hao⟩ := C
  obtain ⟨hR, hPx, hPm, ⟨fo, hPo⟩, hS⟩ := h
  have hfc : 46 + kk ≤ room_1.cells := by show 46 + kk ≤ 601024; omega
  have hfs : 7991 + 6 * kk ≤ room_1.slots := by show 7991 + 6 * kk ≤ 7293034; omega
  have bA : ¬ s.heap.size ≤ b := by omega
  have hoq : ∀ q, q = o → q < H.size → ¬ adr 24 a q := fun q h _ => by rw [h]; exact hox
  have xm : ∀ q, adr 21 a' q → ∀ N : Nat, q < N → ¬ adr 24 a q := fun q h _ _ z => hap q z h
  have mx : ∀ q, adr 24 a q → ∀ N : Nat, q < N → ¬ adr 21 a' q := fun q h _ _ => hap q h
  obtain ⟨p1, b1, e1⟩ := iI_of (xs (i + 1).toNat)
  obtain ⟨p2, b2, e2⟩ := iI_of (xs (i + 2).toNat)
  obtain ⟨p3, b3, e3⟩ := iI_of (xs (i + 3).toNat)
  refine lv_aload_n hx hb dL_law_550 rfl (lv_at hl 2 rfl) ?_
  refine mu_call (g_runV (rest := []) hx hb hml hown hG hKx hPx mV_X5_keep (c_X5_keep l D a k I F hda  hR.xi ) lk_L_84 (va_recv hKx hPx (ci := 6) (q0 := 0) rfl rfl) rfl hl.1 rfl (Nat.le_of_ble_eq_true rfl) ⟨(Nat.le_of_ble_eq_true rfl), (Nat.le_of_ble_eq_true rfl)⟩ ⟨hfc, hfs⟩ dL_law_551) hS hax (fun r u H1 locs q1 hPx _ hk1 hS => ?_)
  have hPm := kpP hPm (mD hdm).2 (fun q h z => xm q h _ z) hk1
  have hPo := kpP (B := fun q => q = o) hPo one_in (fun q h z => hoq q h z) hk1
  generalize H1 = H2 at hPx hPm hPo hS ⊢
  refine lv_aload_n hx hb dL_law_554 rfl (lv_at hl 3 rfl) ?_
  refine mu_call (g_runV (rest := [.int (iI r)]) hx hb hml hown hG hKm hPm mV_X6_keep (c_X6_keep l D a' k' J G hdm  hR.mi ) lk_L_87 (va_recv hKm hPm (ci := 7) (q0 := 0) rfl rfl) rfl hl.1 rfl (Nat.le_of_ble_eq_true rfl) ⟨(Nat.le_of_ble_eq_true rfl), (Nat.le_of_ble_eq_true rfl)⟩ ⟨hfc, hfs⟩ dL_law_555) hS ham (fun r' v H3 locs q2 hPm _ hk2 hS => ?_)
  have hPx := kpP hPx (xD hda).2 (fun q h z => mx q h _ z) hk2
  have hPo := kpP (B := fun q => q = o) hPo one_in (fun q h _ => by rw [h]; exact hom) hk2
  obtain ⟨er, hR⟩ := s_keep hR q1 q2
  subst er
  refine lv_icmp_eq (tgt := 693) hx hb dL_law_558 (by decide) (fun _ => ?_) (fun h => absurd rfl h)
  refine W.widen (k := 46 + (kk + 1)) (n := 7991 + 6 * (kk + 1)) (by omega) (by omega) ?_
  exact nx u.1 u.2 v.1 v.2 _ _ _ ⟨hR, hPx, hPm, ⟨fo, hPo⟩, hS⟩ hl
set_option maxHeartbeats 4000000 in
set_option maxRecDepth 100000 in
theorem lw_changed {l : Launch} {p : Program} {e : Env} {s : State} {m : MethodId} {below : List Frame} {meth : Method} {c : Code} {Q : State → Prop} {b L : Nat} {xs : Nat → Int32} {D : va_G} {a : Nat → Nat} {k : Nat → ClassId} {a' : Nat → Nat} {k' : Nat → ClassId} {o : Nat} {ko : ClassId}
    (C : lC l p s m c b L xs D a k a' k' o ko) {I : Nat → Int} {F : Nat → Int → Int} {J : Nat → Int} {G : Nat → Int → Int} {H : Heap} {locs : List Loc} (h : lH s D a k a' k' o ko I F J G H locs) {i : Int} {kk : Nat} (hi : i = 4 * kk) (hi4 : i + 4 ≤ L) {ls : Array Slot} (hl : lv_has ls 7 [(4, .int (iI i)), (0, .ref b), (1, .ref (a 0)), (2, .ref (a' 0)), (3, .ref o)])
    (nx : ∀ (I : Nat → Int) (F : Nat → Int → Int) (J : Nat → Int) (G : Nat → Int → Int) (H : Heap) (locs : List Loc) (ls : Array Slot), lH s D a k a' k' o ko I F J G H locs → lv_has ls 7 [(4, .int (iI i)), (0, .ref b), (1, .ref (a 0)), (2, .ref (a' 0)), (3, .ref o)] → W p l e room_1 s m #[Value.ref b] below meth c H locs (46 + (kk + 1)) (7991 + 6 * (kk + 1)) Q (F0 m 693 ls [])) :
    W p l e room_1 s m #[Value.ref b] below meth c H locs (46 + kk) (7991 + 6 * kk) Q (F0 m 563 ls []) := by
  obtain ⟨hfl, hx, hb, hml, hown, hG, hTA, hX, hbl, hL, hKx, hKm, hKo, hda, hdm, hap, hox, hom, hax, ham, hao⟩ := C
  obtain ⟨hR, hPx, hPm, ⟨fo, hPo⟩, hS⟩ := h
  have hfc : 46 + kk ≤ room_1.cells := by show 46 + kk ≤ 601024; omega
  have hfs : 7991 + 6 * kk ≤ room_1.slots := by show 7991 + 6 * kk ≤ 7293034; omega
  have bA : ¬ s.heap.size ≤ b := by omega
  have hoq : ∀ q, q = o → q < H.size → ¬ adr 24 a q := fun q h _ => by rw [h]; exact hox
  have xm : ∀ q, adr 21 a' q → ∀ N : Nat, q < N → ¬ adr 24 a q := fun q h _ _ z => hap q z h
  have mx : ∀ q, adr 24 a q → ∀ N : Nat, q < N → ¬ adr 21 a' q := fun q h _ _ => hap q h
  obtain ⟨p1, b1, e1⟩ := iI_of (xs (i + 1).toNat)
  obtain ⟨p2, b2, e2⟩ := iI_of (xs (i + 2).toNat)
  obtain ⟨p3, b3, e3⟩ := iI_of (xs (i + 3).toNat)
  refine lv_aload_n hx hb dL_law_563 rfl (lv_at hl 2 rfl) ?_
  refine lv_aload_n hx hb dL_law_564 rfl (lv_at hl 1 rfl) ?_
  refine lv_iload hx hb dL_law_565 (lv_at hl 0 rfl) ?_
  refine xr_iconst hx hb dL_law_567 ?_
  refine xr_iadd (a := i) (b := 1) hx hb dL_law_568 ?_
  refine xr_sld hx hb hX hbl bA hS (by omega) (z := i + 1) (v := p1) (by omega) (by omega) e1 dL_law_569 ?_
  refine ro_call (g_runV (rest := []) hx hb hml hown hG hKx hPx mV_X5_changed (c_X5_changed l D a k I F p1 hR.xi b1) lk_L_88 (va_recv hKx hPx (ci := 6) (q0 := 0) rfl rfl) rfl hl.1 rfl (Nat.le_of_ble_eq_true rfl) ⟨(Nat.le_of_ble_eq_true rfl), (Nat.le_of_ble_eq_true rfl)⟩ ⟨hfc, hfs⟩ dL_law_570) (fun r q1 => ?_)
  refine lv_aload_n hx hb dL_law_573 rfl (lv_at hl 3 rfl) ?_
  refine lv_aload_n hx hb dL_law_574 rfl (lv_at hl 1 rfl) ?_
  refine lv_iload hx hb dL_law_575 (lv_at hl 0 rfl) ?_
  refine xr_iconst hx hb dL_law_577 ?_
  refine xr_iadd (a := i) (b := 1) hx hb dL_law_578 ?_
  refine xr_sld hx hb hX hbl bA hS (by omega) (z := i + 1) (v := p1) (by omega) (by omega) e1 dL_law_579 ?_
  refine mu_call (g_runV (rest := [.int (iI r)]) hx hb hml hown hG hKm hPm mV_X6_changed (c_X6_changed l D a' k' J G hdm p1 hR.mi b1) lk_L_91 (va_recv hKm hPm (ci := 7) (q0 := 0) rfl rfl) rfl hl.1 rfl (Nat.le_of_ble_eq_true rfl) ⟨(Nat.le_of_ble_eq_true rfl), (Nat.le_of_ble_eq_true rfl)⟩ ⟨hfc, hfs⟩ dL_law_580) hS ham (fun r' v H3 locs q2 hPm _ hk2 hS => ?_)
  have hPx := kpP hPx (xD hda).2 (fun q h z => mx q h _ z) hk2
  have hPo := kpP (B := fun q => q = o) hPo one_in (fun q h _ => by rw [h]; exact hom) hk2
  obtain ⟨er, hR⟩ := s_changed hR q1 q2
  subst er
  refine lv_icmp_eq (tgt := 693) hx hb dL_law_583 (by decide) (fun _ => ?_) (fun h => absurd rfl h)
  refine W.widen (k := 46 + (kk + 1)) (n := 7991 + 6 * (kk + 1)) (by omega) (by omega) ?_
  exact nx I F v.1 v.2 _ _ _ ⟨hR, hPx, hPm, ⟨fo, hPo⟩, hS⟩ hl
set_option maxHeartbeats 4000000 in
set_option maxRecDepth 100000 in
theorem lw_count {l : Launch} {p : Program} {e : Env} {s : State} {m : MethodId} {below : List Frame} {meth : Method} {c : Code} {Q : State → Prop} {b L : Nat} {xs : Nat → Int32} {D : va_G} {a : Nat → Nat} {k : Nat → ClassId} {a' : Nat → Nat} {k' : Nat → ClassId} {o : Nat} {ko : ClassId}
    (C : lC l p s m c b L xs D a k a' k' o ko) {I : Nat → Int} {F : Nat → Int → Int} {J : Nat → Int} {G : Nat → Int → Int} {H : Heap} {locs : List Loc} (h : lH s D a k a' k' o ko I F J G H locs) {i : Int} {kk : Nat} (hi : i = 4 * kk) (hi4 : i + 4 ≤ L) {ls : Array Slot} (hl : lv_has ls 7 [(4, .int (iI i)), (0, .ref b), (1, .ref (a 0)), (2, .ref (a' 0)), (3, .ref o)])
    (nx : ∀ (I : Nat → Int) (F : Nat → Int → Int) (J : Nat → Int) (G : Nat → Int → Int) (H : Heap) (locs : List Loc) (ls : Array Slot), lH s D a k a' k' o ko I F J G H locs → lv_has ls 7 [(4, .int (iI i)), (0, .ref b), (1, .ref (a 0)), (2, .ref (a' 0)), (3, .ref o)] → W p l e room_1 s m #[Value.ref b] below meth c H locs (46 + (kk + 1)) (7991 + 6 * (kk + 1)) Q (F0 m 693 ls [])) :
    W p l e room_1 s m #[Value.ref b] below meth c H locs (46 + kk) (7991 + 6 * kk) Q (F0 m 588 ls []) := by
  obtain ⟨hfl, hx, hb, hml, hown, hG, hTA, hX, hbl, hL, hKx, hKm, hKo, hda, hdm, hap, hox, hom, hax, ham, hao⟩ := C
  obtain ⟨hR, hPx, hPm, ⟨fo, hPo⟩, hS⟩ := h
  have hfc : 46 + kk ≤ room_1.cells := by show 46 + kk ≤ 601024; omega
  have hfs : 7991 + 6 * kk ≤ room_1.slots := by show 7991 + 6 * kk ≤ 7293034; omega
  have bA : ¬ s.heap.size ≤ b := by omega
  have hoq : ∀ q, q = o → q < H.size → ¬ adr 24 a q := fun q h _ => by rw [h]; exact hox
  have xm : ∀ q, adr 21 a' q → ∀ N : Nat, q < N → ¬ adr 24 a q := fun q h _ _ z => hap q z h
  have mx : ∀ q, adr 24 a q → ∀ N : Nat, q < N → ¬ adr 21 a' q := fun q h _ _ => hap q h
  obtain ⟨p1, b1, e1⟩ := iI_of (xs (i + 1).toNat)
  obtain ⟨p2, b2, e2⟩ := iI_of (xs (i + 2).toNat)
  obtain ⟨p3, b3, e3⟩ := iI_of (xs (i + 3).toNat)
  refine lv_aload_n hx hb dL_law_588 rfl (lv_at hl 2 rfl) ?_
  refine lv_aload_n hx hb dL_law_589 rfl (lv_at hl 1 rfl) ?_
  refine lv_iload hx hb dL_law_590 (lv_at hl 0 rfl) ?_
  refine xr_iconst hx hb dL_law_592 ?_
  refine xr_iadd (a := i) (b := 1) hx hb dL_law_593 ?_
  refine xr_sld hx hb hX hbl bA hS (by omega) (z := i + 1) (v := p1) (by omega) (by omega) e1 dL_law_594 ?_
  refine lv_aload_n hx hb dL_law_595 rfl (lv_at hl 1 rfl) ?_
  refine lv_iload hx hb dL_law_596 (lv_at hl 0 rfl) ?_
  refine xr_iconst hx hb dL_law_598 ?_
  refine xr_iadd (a := i) (b := 2) hx hb dL_law_599 ?_
  refine xr_sld hx hb hX hbl bA hS (by omega) (z := i + 2) (v := p2) (by omega) (by omega) e2 dL_law_600 ?_
  refine ro_call (g_runV (rest := []) hx hb hml hown hG hKx hPx mV_X5_count (c_X5_count l D a k I F p1 p2 hR.xi b1 b2) lk_L_92 (va_recv hKx hPx (ci := 6) (q0 := 0) rfl rfl) rfl hl.1 rfl (Nat.le_of_ble_eq_true rfl) ⟨(Nat.le_of_ble_eq_true rfl), (Nat.le_of_ble_eq_true rfl)⟩ ⟨hfc, hfs⟩ dL_law_601) (fun r q1 => ?_)
  refine lv_aload_n hx hb dL_law_604 rfl (lv_at hl 3 rfl) ?_
  refine lv_aload_n hx hb dL_law_605 rfl (lv_at hl 1 rfl) ?_
  refine lv_iload hx hb dL_law_606 (lv_at hl 0 rfl) ?_
  refine xr_iconst hx hb dL_law_608 ?_
  refine xr_iadd (a := i) (b := 1) hx hb dL_law_609 ?_
  refine xr_sld hx hb hX hbl bA hS (by omega) (z := i + 1) (v := p1) (by omega) (by omega) e1 dL_law_610 ?_
  refine lv_aload_n hx hb dL_law_611 rfl (lv_at hl 1 rfl) ?_
  refine lv_iload hx hb dL_law_612 (lv_at hl 0 rfl) ?_
  refine xr_iconst hx hb dL_law_614 ?_
  refine xr_iadd (a := i) (b := 2) hx hb dL_law_615 ?_
  refine xr_sld hx hb hX hbl bA hS (by omega) (z := i + 2) (v := p2) (by omega) (by omega) e2 dL_law_616 ?_
  refine mu_call (g_runV (rest := [.int (iI r)]) hx hb hml hown hG hKm hPm mV_X6_count (c_X6_count l D a' k' J G hdm p1 p2 hR.mi b1 b2) lk_L_95 (va_recv hKm hPm (ci := 7) (q0 := 0) rfl rfl) rfl hl.1 rfl (Nat.le_of_ble_eq_true rfl) ⟨(Nat.le_of_ble_eq_true rfl), (Nat.le_of_ble_eq_true rfl)⟩ ⟨hfc, hfs⟩ dL_law_617) hS ham (fun r' v H3 locs q2 hPm _ hk2 hS => ?_)
  have hPx := kpP hPx (xD hda).2 (fun q h z => mx q h _ z) hk2
  have hPo := kpP (B := fun q => q = o) hPo one_in (fun q h _ => by rw [h]; exact hom) hk2
  obtain ⟨er, hR⟩ := s_count hR q1 q2
  subst er
  refine lv_icmp_eq (tgt := 693) hx hb dL_law_620 (by decide) (fun _ => ?_) (fun h => absurd rfl h)
  refine W.widen (k := 46 + (kk + 1)) (n := 7991 + 6 * (kk + 1)) (by omega) (by omega) ?_
  exact nx I F v.1 v.2 _ _ _ ⟨hR, hPx, hPm, ⟨fo, hPo⟩, hS⟩ hl
set_option maxHeartbeats 4000000 in
set_option maxRecDepth 100000 in
theorem lw_pattern {l : Launch} {p : Program} {e : Env} {s : State} {m : MethodId} {below : List Frame} {meth : Method} {c : Code} {Q : State → Prop} {b L : Nat} {xs : Nat → Int32} {D : va_G} {a : Nat → Nat} {k : Nat → ClassId} {a' : Nat → Nat} {k' : Nat → ClassId} {o : Nat} {ko : ClassId}
    (C : lC l p s m c b L xs D a k a' k' o ko) {I : Nat → Int} {F : Nat → Int → Int} {J : Nat → Int} {G : Nat → Int → Int} {H : Heap} {locs : List Loc} (h : lH s D a k a' k' o ko I F J G H locs) {i : Int} {kk : Nat} (hi : i = 4 * kk) (hi4 : i + 4 ≤ L) {ls : Array Slot} (hl : lv_has ls 7 [(4, .int (iI i)), (0, .ref b), (1, .ref (a 0)), (2, .ref (a' 0)), (3, .ref o)])
    (nx : ∀ (I : Nat → Int) (F : Nat → Int → Int) (J : Nat → Int) (G : Nat → Int → Int) (H : Heap) (locs : List Loc) (ls : Array Slot), lH s D a k a' k' o ko I F J G H locs → lv_has ls 7 [(4, .int (iI i)), (0, .ref b), (1, .ref (a 0)), (2, .ref (a' 0)), (3, .ref o)] → W p l e room_1 s m #[Value.ref b] below meth c H locs (46 + (kk + 1)) (7991 + 6 * (kk + 1)) Q (F0 m 693 ls [])) :
    W p l e room_1 s m #[Value.ref b] below meth c H locs (46 + kk) (7991 + 6 * kk) Q (F0 m 625 ls []) := by
  obtain ⟨hfl, hx, hb, hml, hown, hG, hTA, hX, hbl, hL, hKx, hKm, hKo, hda, hdm, hap, hox, hom, hax, ham, hao⟩ := C
  obtain ⟨hR, hPx, hPm, ⟨fo, hPo⟩, hS⟩ := h
  have hfc : 46 + kk ≤ room_1.cells := by show 46 + kk ≤ 601024; omega
  have hfs : 7991 + 6 * kk ≤ room_1.slots := by show 7991 + 6 * kk ≤ 7293034; omega
  have bA : ¬ s.heap.size ≤ b := by omega
  have hoq : ∀ q, q = o → q < H.size → ¬ adr 24 a q := fun q h _ => by rw [h]; exact hox
  have xm : ∀ q, adr 21 a' q → ∀ N : Nat, q < N → ¬ adr 24 a q := fun q h _ _ z => hap q z h
  have mx : ∀ q, adr 24 a q → ∀ N : Nat, q < N → ¬ adr 21 a' q := fun q h _ _ => hap q h
  obtain ⟨p1, b1, e1⟩ := iI_of (xs (i + 1).toNat)
  obtain ⟨p2, b2, e2⟩ := iI_of (xs (i + 2).toNat)
  obtain ⟨p3, b3, e3⟩ := iI_of (xs (i + 3).toNat)
  have hfc1 : 46 + kk + 1 ≤ room_1.cells := by show 46 + kk + 1 ≤ 601024; omega
  have hfs1 : 7991 + 6 * kk + 6 ≤ room_1.slots := by show 7991 + 6 * kk + 6 ≤ 7293034; omega
  by_cases hok : (0 ≤ p1 ∧ p1 < I 8) → 0 ≤ p2 ∧ p2 < F 13 p1
  · obtain ⟨w, hwd, hval⟩ : ∃ w : Int, ((¬ (0 ≤ p1 ∧ p1 < I 8) ∧ w = -1) ∨ ((0 ≤ p1 ∧ p1 < I 8) ∧ w = F 14 (p1 * 12 + p2))) ∧ ∀ r, ((¬ (0 ≤ p1 ∧ p1 < I 8) ∧ r = -1) ∨ ((0 ≤ p1 ∧ p1 < I 8) ∧ r = F 14 (p1 * 12 + p2))) → r = w := pat_w
    refine lv_aload_n hx hb dL_law_625 rfl (lv_at hl 2 rfl) ?_
    refine lv_aload_n hx hb dL_law_626 rfl (lv_at hl 1 rfl) ?_
    refine lv_iload hx hb dL_law_627 (lv_at hl 0 rfl) ?_
    refine xr_iconst hx hb dL_law_629 ?_
    refine xr_iadd (a := i) (b := 1) hx hb dL_law_630 ?_
    refine xr_sld hx hb hX hbl bA hS (by omega) (z := i + 1) (v := p1) (by omega) (by omega) e1 dL_law_631 ?_
    refine lv_aload_n hx hb dL_law_632 rfl (lv_at hl 1 rfl) ?_
    refine lv_iload hx hb dL_law_633 (lv_at hl 0 rfl) ?_
    refine xr_iconst hx hb dL_law_635 ?_
    refine xr_iadd (a := i) (b := 2) hx hb dL_law_636 ?_
    refine xr_sld hx hb hX hbl bA hS (by omega) (z := i + 2) (v := p2) (by omega) (by omega) e2 dL_law_637 ?_
    refine lv_aload_n hx hb dL_law_638 rfl (lv_at hl 4 rfl) ?_
    refine lq0_call (g_runSW (rm := rmd 3) (mc := 0) (ms := 0) (rest := []) (As := [.ref (a 0), .int (iI p1), .int (iI p2), .ref o]) hx hb hml hown hG lw_cwP lw_stP ini_L (by decide) (c_L_pattern0 l D a k I F o ko fo p1 p2 hda hox w hR.xi b1 b2 hok hval) pL_blind (fun U hU hW => ⟨rfl, hG.warm hW, va_K.moved hW.alike (hKx.app hKo), by rw [hU]; exact va_P.app hPx hPo, hTA.moved hW (fun q hq => by rw [hU]; exact hS.2.1 q hq (by omega))⟩) lk_L_96 rfl rfl nm_P hl.1 rfl (Nat.le_of_ble_eq_true rfl) ⟨(Nat.le_of_ble_eq_true rfl), (Nat.le_of_ble_eq_true rfl)⟩ ⟨hfc, hfs⟩ dL_law_639) hS (fun q h => h.elim (hax q) (fun z => by rw [z]; exact hao)) (fun fo H1 locs hfo hPl _ hk1 hS => ?_)
    have hPx : va_P D vwC (xW a k I F) H1 := hPl.sub [0, 1, 2, 3, 4, 5, 6, 7, 8, 9, 10, 11, 12, 13, 14, 15, 16, 17, 18, 19, 20, 21, 22, 23] rfl
    have hPo : va_P D vwC [(o, .inl (ko, 1, .inr (.inl fo)))] H1 := hPl.sub [24] rfl
    have hPm := kpP hPm (mD hdm).2 (fun q h z g => g.elim (xm q h _ z) (fun y => hom (by rw [← y]; exact h))) hk1
    generalize H1 = H2 at hPx hPm hPo hS ⊢
    refine lv_istore (lv' := [(5, .int (iI 0)), (4, .int (iI i)), (0, .ref b), (1, .ref (a 0)), (2, .ref (a' 0)), (3, .ref o)]) hx hb dL_law_642 hl (by decide) rfl (fun ls hl => ?_)
    refine lv_aload_n hx hb dL_law_644 rfl (lv_at hl 4 rfl) ?_
    refine lv_aload_n hx hb dL_law_645 rfl (lv_at hl 2 rfl) ?_
    refine lv_iload hx hb dL_law_646 (lv_at hl 1 rfl) ?_
    refine xr_iconst hx hb dL_law_648 ?_
    refine xr_iadd (a := i) (b := 1) hx hb dL_law_649 ?_
    refine xr_sld hx hb hX hbl bA hS (by omega) (z := i + 1) (v := p1) (by omega) (by omega) e1 dL_law_650 ?_
    refine lv_aload_n hx hb dL_law_651 rfl (lv_at hl 2 rfl) ?_
    refine lv_iload hx hb dL_law_652 (lv_at hl 1 rfl) ?_
    refine xr_iconst hx hb dL_law_654 ?_
    refine xr_iadd (a := i) (b := 2) hx hb dL_law_655 ?_
    refine xr_sld hx hb hX hbl bA hS (by omega) (z := i + 2) (v := p2) (by omega) (by omega) e2 dL_law_656 ?_
    refine mu_call (g_runV (rest := []) hx hb hml hown hG hKm hPm mV_X6_pattern (c_X6_pattern l D a' k' J G hdm p1 p2 hR.mi b1 b2) lk_L_99 (va_recv hKm hPm (ci := 7) (q0 := 0) rfl rfl) rfl hl.1 rfl (Nat.le_of_ble_eq_true rfl) ⟨(Nat.le_of_ble_eq_true rfl), (Nat.le_of_ble_eq_true rfl)⟩ ⟨hfc, hfs⟩ dL_law_657) hS ham (fun r' v H3 locs q2 hPm _ hk2 hS => ?_)
    have hPx := kpP hPx (xD hda).2 (fun q h z => mx q h _ z) hk2
    have hPo := kpP (B := fun q => q = o) hPo one_in (fun q h _ => by rw [h]; exact hom) hk2
    obtain ⟨hR, hth⟩ := s_pattern hR q2
    obtain ⟨hth, er⟩ := hth.1 hok
    have er := (er w hwd).symm
    refine lv_istore (lv' := [(6, .int (iI r')), (5, .int (iI 0)), (4, .int (iI i)), (0, .ref b), (1, .ref (a 0)), (2, .ref (a' 0)), (3, .ref o)]) hx hb dL_law_660 hl (by decide) rfl (fun ls hl => ?_)
    refine lv_aload_n hx hb dL_law_662 rfl (lv_at hl 5 rfl) ?_
    refine ro_call (g_runV (rest := []) hx hb hml hown hG hKm hPm mV_X6_thrown (c_X6_thrown l D a' k' v.1 v.2) lk_L_55 (va_recv hKm hPm (ci := 7) (q0 := 0) rfl rfl) rfl hl.1 rfl (Nat.le_of_ble_eq_true rfl) ⟨(Nat.le_of_ble_eq_true rfl), (Nat.le_of_ble_eq_true rfl)⟩ ⟨hfc, hfs⟩ dL_law_663) (fun tw etw => ?_)
    subst etw
    rw [hth]
    refine lv_iload hx hb dL_law_666 (lv_at hl 1 rfl) ?_
    refine lv_icmp_eq (tgt := 673) hx hb dL_law_668 (by decide) (fun _ => ?_) (fun h => absurd rfl h)
    refine lv_iload hx hb dL_law_673 (lv_at hl 1 rfl) ?_
    refine xr_if_ne (a := 0) (tgt := 690) hx hb dL_law_675 (by decide) (fun h => absurd rfl h) (fun _ => ?_) (by omega)
    refine lv_aload_n hx hb dL_law_678 rfl (lv_at hl 6 rfl) ?_
    refine xr_iconst hx hb dL_law_679 ?_
    refine va_lald hx hb hKo hPo 0 0 rfl rfl (i := iI 0) (iI_in (by omega) (by decide) (by decide)) dL_law_680 ?_
    rw [show (iI 0).toNatClampNeg = 0 by decide +kernel, hfo]
    refine lv_iload hx hb dL_law_681 (lv_at hl 0 rfl) ?_
    refine lv_i2l hx hb (v := (iI w).toInt64) dL_law_683 (by rw [er]) ?_
    refine xr_lcmp0 hx hb dL_law_684 ?_
    refine xr_if_eq (a := 0) (tgt := 690) hx hb dL_law_685 (by decide) (fun _ => ?_) (fun h => absurd rfl h) (by omega)
    refine lv_goto (tgt := 693) hx hb dL_law_690 (by decide) ?_
    refine W.widen (k := 46 + (kk + 1)) (n := 7991 + 6 * (kk + 1)) (by omega) (by omega) ?_
    have hl := lv_sub (l' := [(4, .int (iI i)), (0, .ref b), (1, .ref (a 0)), (2, .ref (a' 0)), (3, .ref o)]) hl [2, 3, 4, 5, 6] rfl
    exact nx I F v.1 v.2 _ _ _ ⟨hR, hPx, hPm, ⟨fo, hPo⟩, hS⟩ hl
  · refine lv_aload_n hx hb dL_law_625 rfl (lv_at hl 2 rfl) ?_
    refine lv_aload_n hx hb dL_law_626 rfl (lv_at hl 1 rfl) ?_
    refine lv_iload hx hb dL_law_627 (lv_at hl 0 rfl) ?_
    refine xr_iconst hx hb dL_law_629 ?_
    refine xr_iadd (a := i) (b := 1) hx hb dL_law_630 ?_
    refine xr_sld hx hb hX hbl bA hS (by omega) (z := i + 1) (v := p1) (by omega) (by omega) e1 dL_law_631 ?_
    refine lv_aload_n hx hb dL_law_632 rfl (lv_at hl 1 rfl) ?_
    refine lv_iload hx hb dL_law_633 (lv_at hl 0 rfl) ?_
    refine xr_iconst hx hb dL_law_635 ?_
    refine xr_iadd (a := i) (b := 2) hx hb dL_law_636 ?_
    refine xr_sld hx hb hX hbl bA hS (by omega) (z := i + 2) (v := p2) (by omega) (by omega) e2 dL_law_637 ?_
    refine lv_aload_n hx hb dL_law_638 rfl (lv_at hl 4 rfl) ?_
    refine lq1_call (g_runSW (rm := rmL) (rest := []) (As := [.ref (a 0), .int (iI p1), .int (iI p2), .ref o]) hx hb hml hown hG lw_cwP lw_stP ini_L (by decide) (c_L_pattern1 l D a k I F o ko fo p1 p2 hfl hR.xi b1 b2 (Classical.not_imp.mp hok).1 (Classical.not_imp.mp hok).2) pL_blind (fun U hU hW => ⟨rfl, hG.warm hW, va_K.moved hW.alike (hKx.app hKo), by rw [hU]; exact va_P.app hPx hPo, hTA.moved hW (fun q hq => by rw [hU]; exact hS.2.1 q hq (by omega))⟩) lk_L_96 rfl rfl nm_P hl.1 rfl (Nat.le_of_ble_eq_true rfl) ⟨(Nat.le_of_ble_eq_true rfl), (Nat.le_of_ble_eq_true rfl)⟩ ⟨hfc1, hfs1⟩ dL_law_639) hS (fun H1 _ hk1 hS => ?_)
    have hPx := kpP hPx (xD hda).2 (fun _ _ _ h => h) hk1
    have hPm := kpP hPm (mD hdm).2 (fun _ _ _ h => h) hk1
    have hPo := kpP (B := fun q => q = o) hPo one_in (fun _ _ _ h => h) hk1
    have hfc := hfc1
    have hfs := hfs1
    generalize H1 = H2 at hPx hPm hPo hS ⊢
    refine lv_istore (lv' := [(5, .int (iI 1)), (4, .int (iI i)), (0, .ref b), (1, .ref (a 0)), (2, .ref (a' 0)), (3, .ref o)]) hx hb dL_law_642 hl (by decide) rfl (fun ls hl => ?_)
    refine lv_aload_n hx hb dL_law_644 rfl (lv_at hl 4 rfl) ?_
    refine lv_aload_n hx hb dL_law_645 rfl (lv_at hl 2 rfl) ?_
    refine lv_iload hx hb dL_law_646 (lv_at hl 1 rfl) ?_
    refine xr_iconst hx hb dL_law_648 ?_
    refine xr_iadd (a := i) (b := 1) hx hb dL_law_649 ?_
    refine xr_sld hx hb hX hbl bA hS (by omega) (z := i + 1) (v := p1) (by omega) (by omega) e1 dL_law_650 ?_
    refine lv_aload_n hx hb dL_law_651 rfl (lv_at hl 2 rfl) ?_
    refine lv_iload hx hb dL_law_652 (lv_at hl 1 rfl) ?_
    refine xr_iconst hx hb dL_law_654 ?_
    refine xr_iadd (a := i) (b := 2) hx hb dL_law_655 ?_
    refine xr_sld hx hb hX hbl bA hS (by omega) (z := i + 2) (v := p2) (by omega) (by omega) e2 dL_law_656 ?_
    refine mu_call (g_runV (rest := []) hx hb hml hown hG hKm hPm mV_X6_pattern (c_X6_pattern l D a' k' J G hdm p1 p2 hR.mi b1 b2) lk_L_99 (va_recv hKm hPm (ci := 7) (q0 := 0) rfl rfl) rfl hl.1 rfl (Nat.le_of_ble_eq_true rfl) ⟨(Nat.le_of_ble_eq_true rfl), (Nat.le_of_ble_eq_true rfl)⟩ ⟨hfc, hfs⟩ dL_law_657) hS ham (fun r' v H3 locs q2 hPm _ hk2 hS => ?_)
    have hPx := kpP hPx (xD hda).2 (fun q h z => mx q h _ z) hk2
    have hPo := kpP (B := fun q => q = o) hPo one_in (fun q h _ => by rw [h]; exact hom) hk2
    obtain ⟨hR, hth⟩ := s_pattern hR q2
    have hth := hth.2 hok
    refine lv_istore (lv' := [(6, .int (iI r')), (5, .int (iI 1)), (4, .int (iI i)), (0, .ref b), (1, .ref (a 0)), (2, .ref (a' 0)), (3, .ref o)]) hx hb dL_law_660 hl (by decide) rfl (fun ls hl => ?_)
    refine lv_aload_n hx hb dL_law_662 rfl (lv_at hl 5 rfl) ?_
    refine ro_call (g_runV (rest := []) hx hb hml hown hG hKm hPm mV_X6_thrown (c_X6_thrown l D a' k' v.1 v.2) lk_L_55 (va_recv hKm hPm (ci := 7) (q0 := 0) rfl rfl) rfl hl.1 rfl (Nat.le_of_ble_eq_true rfl) ⟨(Nat.le_of_ble_eq_true rfl), (Nat.le_of_ble_eq_true rfl)⟩ ⟨hfc, hfs⟩ dL_law_663) (fun tw etw => ?_)
    subst etw
    rw [hth]
    refine lv_iload hx hb dL_law_666 (lv_at hl 1 rfl) ?_
    refine lv_icmp_eq (tgt := 673) hx hb dL_law_668 (by decide) (fun _ => ?_) (fun h => absurd rfl h)
    refine lv_iload hx hb dL_law_673 (lv_at hl 1 rfl) ?_
    refine xr_if_ne (a := 1) (tgt := 690) hx hb dL_law_675 (by decide) (fun _ => ?_) (fun h => absurd h (by decide)) (by omega)
    refine lv_goto (tgt := 693) hx hb dL_law_690 (by decide) ?_
    refine W.widen (k := 46 + (kk + 1)) (n := 7991 + 6 * (kk + 1)) (by omega) (by omega) ?_
    have hl := lv_sub (l' := [(4, .int (iI i)), (0, .ref b), (1, .ref (a 0)), (2, .ref (a' 0)), (3, .ref o)]) hl [2, 3, 4, 5, 6] rfl
    exact nx I F v.1 v.2 _ _ _ ⟨hR, hPx, hPm, ⟨fo, hPo⟩, hS⟩ hl
