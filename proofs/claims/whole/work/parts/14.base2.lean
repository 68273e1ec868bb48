theorem i_and255 (a : Int) : iI a &&& iI 255 = iI (a % 256) := by
  have h := pk_and (iI a) (m := iI 255) 8 (by decide +kernel)
  rw [h, iI_n]
  congr 1
  have e : (iI a).toBitVec.toNat = (a % 4294967296).toNat := by
    unfold iI
    rw [Int32.toBitVec_ofInt, BitVec.toNat_ofInt]
    rfl
  rw [e]
  omega
theorem b8_mod (a : Int) : b8 a = b8 (a % 256) := by
  unfold b8 iI
  rw [Int32.toInt8_ofInt, Int32.toInt8_ofInt]
  congr 1
  rw [← Int8.toInt_inj, Int8.toInt_ofInt, Int8.toInt_ofInt]
  exact (Int.emod_bmod a 256).symm
theorem b8_and {v : Int} (h0 : 0 ≤ v) (h1 : v < 256) : b8 v &&& iI 255 = iI v := by
  have h := sc_k8 v.toNat (by omega)
  rw [iI_n, show ((v.toNat : Nat) : Int) = v by omega] at h
  exact h
theorem uA_up8 {g : Int → Int} {z v : Int} (h0 : 0 ≤ z) (h1 : z < 2147483648) : upd (fun q : Nat => b8 (g q)) (iI z).toNatClampNeg (b8 v) = fun q : Nat => b8 (uA g z v q) := by
  funext q
  rw [iI_cl h0 h1]
  unfold upd uA
  by_cases h : q = z.toNat
  · rw [if_pos h, if_pos (by omega)]
  · rw [if_neg h, if_neg (by omega)]
section
variable {p : Program} {l : Launch} {e : Env} {R : Room} {s : State} {m : MethodId} {args : Array Value} {below : List Frame} {meth : Method} {c : Code} {H : Heap} {locs : List Loc} {cells slots : Nat} {Q : State → Prop}
variable {cc : ByteArray} {pc : Nat} {ls : Array Slot} {rest : List Value}
variable {D : va_G} {cl : List vw_C} {A : Nat → Prop} {a : Nat} {tys : List (ClassId × FieldType)} {ws : va_W} {H0 : Heap}
theorem xr_and255 (hexec : p.tables.exec = Jvm.exec) (hb : c.code = cc) {z : Int} (hdg : decode cc pc = .ok (.iand, 1)) (k : W p l e R s m args below meth c H locs cells slots Q (F0 m (pc + 1) ls (.int (iI (z % 256)) :: rest))) : W p l e R s m args below meth c H locs cells slots Q (F0 m pc ls (.int (iI 255) :: .int (iI z) :: rest)) := lv_iand hexec hb hdg (by rw [i_and255]; exact k)
theorem xr_and255b (hexec : p.tables.exec = Jvm.exec) (hb : c.code = cc) {z : Int} (h0 : 0 ≤ z) (h1 : z < 256) (hdg : decode cc pc = .ok (.iand, 1)) (k : W p l e R s m args below meth c H locs cells slots Q (F0 m (pc + 1) ls (.int (iI z) :: rest))) : W p l e R s m args below meth c H locs cells slots Q (F0 m pc ls (.int (iI 255) :: .int (b8 z) :: rest)) := lv_iand hexec hb hdg (by rw [b8_and h0 h1]; exact k)
theorem xr_i2b (hexec : p.tables.exec = Jvm.exec) (hb : c.code = cc) {z : Int} (hdg : decode cc pc = .ok (.i2b, 1)) (k : W p l e R s m args below meth c H locs cells slots Q (F0 m (pc + 1) ls (.int (b8 (z % 256)) :: rest))) : W p l e R s m args below meth c H locs cells slots Q (F0 m pc ls (.int (iI z) :: rest)) := lv_i2b hexec hb hdg (b8_mod z) k
theorem xr_bald (hexec : p.tables.exec = Jvm.exec) (hb : c.code = cc) (hK : va_K D cl tys s) (hP : va_P D cl ws H) (q0 t0 : Nat) {cA : ClassId} {n : Nat} {f : Int → Int} (ha : ws[q0]? = some (a, .inl (cA, n, .inl (fun q : Nat => b8 (f q))))) (ht : tys[t0]? = some (cA, .byte)) {z : Int} (h0 : 0 ≤ z) (h1 : z < n) (hn : n < 2147483648) (hdg : decode cc pc = .ok (.baload, 1))
    (kk : W p l e R s m args below meth c H locs cells slots Q (F0 m (pc + 1) ls (.int (b8 (f z)) :: rest))) : W p l e R s m args below meth c H locs cells slots Q (F0 m pc ls (.int (iI z) :: .ref a :: rest)) := by
  refine va_bald hexec hb hK hP q0 t0 ha ht (iI_in h0 h1 hn) hdg ?_
  rw [iI_cl h0 (by omega), show ((z.toNat : Nat) : Int) = z by omega]
  exact kk
theorem xr_bast (hexec : p.tables.exec = Jvm.exec) (hb : c.code = cc) (hK : va_K D cl tys s) (hP : va_P D cl ws H) (hD : va_D A ws) (hS : va_S A H0 H locs) (q0 t0 : Nat) {cA : ClassId} {n : Nat} {f : Int → Int} (ha : ws[q0]? = some (a, .inl (cA, n, .inl (fun q : Nat => b8 (f q))))) (ht : tys[t0]? = some (cA, .byte)) {z v : Int} (h0 : 0 ≤ z) (h1 : z < n) (hn : n < 2147483648) (hdg : decode cc pc = .ok (.bastore, 1))
    (kk : ∀ (H1 : Heap) (locs1 : List Loc), va_P D cl (ws.set q0 (a, .inl (cA, n, .inl (fun q : Nat => b8 (uA f z v q))))) H1 → va_S A H0 H1 locs1 → W p l e R s m args below meth c H1 locs1 cells slots Q (F0 m (pc + 1) ls rest)) : W p l e R s m args below meth c H locs cells slots Q (F0 m pc ls (.int (b8 v) :: .int (iI z) :: .ref a :: rest)) := by
  refine va_bast hexec hb hK hP hD hS q0 t0 ha ht (iI_in h0 h1 hn) hdg (fun H1 locs1 q1 _ q3 => ?_)
  rw [show vp_nar .byte (b8 v) = b8 v from pk_vb _, uA_up8 h0 (by omega)] at q1
  exact kk H1 locs1 q1 q3
end
