theorem lw_at {l K : List UInt8} {a n j : Nat} {v : UInt8} (e : (l.drop a).take n = K) (h : K[j]? = some v) : l[a + j]? = some v := by
  subst e
  rw [List.getElem?_take] at h
  split at h
  · rw [List.getElem?_drop] at h; exact h
  · cases h
theorem lw_u1 {b : ByteArray} {pc k : Nat} {v : UInt8} (h : b.data.toList[pc]? = some v) (e : v.toNat = k) : (Jvm.ClassFile.Reader.u1 : Jvm.ClassFile.Decoder Nat) b pc = .ok (k, pc + 1) := by
  obtain ⟨h1, h2⟩ := List.getElem?_eq_some_iff.mp h
  have hs : pc < b.size := h1
  have e1 : (Jvm.ClassFile.Reader.u1 : Jvm.ClassFile.Decoder Nat) b pc = (dite (pc < b.size) (fun h => (do set (pc + 1); pure (b[pc]'h).toNat : Jvm.ClassFile.Decoder Nat)) (fun _ => throw (Jvm.ClassFile.HasTruncated.truncated pc))) b pc := rfl
  rw [e1, dif_pos hs]
  have e2 : b[pc]'hs = v := h2
  show Except.ok ((b[pc]'hs).toNat, pc + 1) = _
  rw [e2, e]
theorem lw_bind {α β : Type} {x : Jvm.ClassFile.Decoder α} {C : α → Jvm.ClassFile.Decoder β} {b : ByteArray} {p q : Nat} {a : α} (hx : x b p = .ok (a, q)) : (x >>= C) b p = C a b q := by
  show (x b p >>= fun (r : α × Nat) => C r.1 b r.2) = _
  rw [hx]; rfl
theorem lw_map {α β : Type} {x : Jvm.ClassFile.Decoder α} {f : α → β} {b : ByteArray} {p q : Nat} {a : α} (hx : x b p = .ok (a, q)) : (f <$> x) b p = .ok (f a, q) := by
  show (x b p >>= fun (r : α × Nat) => pure (f r.1, r.2)) = _
  rw [hx]; rfl
theorem lw_u2 {b : ByteArray} {p k0 k1 : Nat} (h0 : (Jvm.ClassFile.Reader.u1 : Jvm.ClassFile.Decoder Nat) b p = .ok (k0, p + 1)) (h1 : (Jvm.ClassFile.Reader.u1 : Jvm.ClassFile.Decoder Nat) b (p + 1) = .ok (k1, p + 1 + 1)) : (Jvm.ClassFile.Reader.u2 : Jvm.ClassFile.Decoder Nat) b p = .ok (k0 * 256 + k1, p + 1 + 1) :=
  (lw_bind (x := Jvm.ClassFile.Reader.u1) h0).trans (lw_bind (x := Jvm.ClassFile.Reader.u1) h1)
theorem lw_fin {b : ByteArray} {pc n m : Nat} {i : Instr} (e : (Jvm.ClassFile.Decoder.instr pc) b pc = .ok (i, n)) (en : n - pc = m) : decode b pc = .ok (i, m) := by
  show ((Jvm.ClassFile.Decoder.instr pc) b pc >>= fun (r : Instr × Nat) => pure (r.1, r.2 - pc)) = _
  rw [e]; subst en; rfl
theorem lw_f3 {b : ByteArray} {pc : Nat} (h : b.data.toList[pc]? = some 3) : decode b pc = .ok (.iconst 0, 1) := lw_fin (n := pc + 1) (lw_bind (x := Jvm.ClassFile.Reader.u1) (lw_u1 h rfl)) (by omega)
theorem lw_f4 {b : ByteArray} {pc : Nat} (h : b.data.toList[pc]? = some 4) : decode b pc = .ok (.iconst 1, 1) := lw_fin (n := pc + 1) (lw_bind (x := Jvm.ClassFile.Reader.u1) (lw_u1 h rfl)) (by omega)
theorem lw_f5 {b : ByteArray} {pc : Nat} (h : b.data.toList[pc]? = some 5) : decode b pc = .ok (.iconst 2, 1) := lw_fin (n := pc + 1) (lw_bind (x := Jvm.ClassFile.Reader.u1) (lw_u1 h rfl)) (by omega)
theorem lw_f6 {b : ByteArray} {pc : Nat} (h : b.data.toList[pc]? = some 6) : decode b pc = .ok (.iconst 3, 1) := lw_fin (n := pc + 1) (lw_bind (x := Jvm.ClassFile.Reader.u1) (lw_u1 h rfl)) (by omega)
theorem lw_f7 {b : ByteArray} {pc : Nat} (h : b.data.toList[pc]? = some 7) : decode b pc = .ok (.iconst 4, 1) := lw_fin (n := pc + 1) (lw_bind (x := Jvm.ClassFile.Reader.u1) (lw_u1 h rfl)) (by omega)
theorem lw_f8 {b : ByteArray} {pc : Nat} (h : b.data.toList[pc]? = some 8) : decode b pc = .ok (.iconst 5, 1) := lw_fin (n := pc + 1) (lw_bind (x := Jvm.ClassFile.Reader.u1) (lw_u1 h rfl)) (by omega)
theorem lw_f26 {b : ByteArray} {pc : Nat} (h : b.data.toList[pc]? = some 26) : decode b pc = .ok (.iload_n 0, 1) := lw_fin (n := pc + 1) (lw_bind (x := Jvm.ClassFile.Reader.u1) (lw_u1 h rfl)) (by omega)
theorem lw_f27 {b : ByteArray} {pc : Nat} (h : b.data.toList[pc]? = some 27) : decode b pc = .ok (.iload_n 1, 1) := lw_fin (n := pc + 1) (lw_bind (x := Jvm.ClassFile.Reader.u1) (lw_u1 h rfl)) (by omega)
theorem lw_f28 {b : ByteArray} {pc : Nat} (h : b.data.toList[pc]? = some 28) : decode b pc = .ok (.iload_n 2, 1) := lw_fin (n := pc + 1) (lw_bind (x := Jvm.ClassFile.Reader.u1) (lw_u1 h rfl)) (by omega)
theorem lw_f29 {b : ByteArray} {pc : Nat} (h : b.data.toList[pc]? = some 29) : decode b pc = .ok (.iload_n 3, 1) := lw_fin (n := pc + 1) (lw_bind (x := Jvm.ClassFile.Reader.u1) (lw_u1 h rfl)) (by omega)
theorem lw_f42 {b : ByteArray} {pc : Nat} (h : b.data.toList[pc]? = some 42) : decode b pc = .ok (.aload_n 0, 1) := lw_fin (n := pc + 1) (lw_bind (x := Jvm.ClassFile.Reader.u1) (lw_u1 h rfl)) (by omega)
theorem lw_f43 {b : ByteArray} {pc : Nat} (h : b.data.toList[pc]? = some 43) : decode b pc = .ok (.aload_n 1, 1) := lw_fin (n := pc + 1) (lw_bind (x := Jvm.ClassFile.Reader.u1) (lw_u1 h rfl)) (by omega)
theorem lw_f44 {b : ByteArray} {pc : Nat} (h : b.data.toList[pc]? = some 44) : decode b pc = .ok (.aload_n 2, 1) := lw_fin (n := pc + 1) (lw_bind (x := Jvm.ClassFile.Reader.u1) (lw_u1 h rfl)) (by omega)
theorem lw_f45 {b : ByteArray} {pc : Nat} (h : b.data.toList[pc]? = some 45) : decode b pc = .ok (.aload_n 3, 1) := lw_fin (n := pc + 1) (lw_bind (x := Jvm.ClassFile.Reader.u1) (lw_u1 h rfl)) (by omega)
theorem lw_f46 {b : ByteArray} {pc : Nat} (h : b.data.toList[pc]? = some 46) : decode b pc = .ok (.iaload, 1) := lw_fin (n := pc + 1) (lw_bind (x := Jvm.ClassFile.Reader.u1) (lw_u1 h rfl)) (by omega)
theorem lw_f87 {b : ByteArray} {pc : Nat} (h : b.data.toList[pc]? = some 87) : decode b pc = .ok (.pop, 1) := lw_fin (n := pc + 1) (lw_bind (x := Jvm.ClassFile.Reader.u1) (lw_u1 h rfl)) (by omega)
theorem lw_f88 {b : ByteArray} {pc : Nat} (h : b.data.toList[pc]? = some 88) : decode b pc = .ok (.pop2, 1) := lw_fin (n := pc + 1) (lw_bind (x := Jvm.ClassFile.Reader.u1) (lw_u1 h rfl)) (by omega)
theorem lw_f96 {b : ByteArray} {pc : Nat} (h : b.data.toList[pc]? = some 96) : decode b pc = .ok (.iadd, 1) := lw_fin (n := pc + 1) (lw_bind (x := Jvm.ClassFile.Reader.u1) (lw_u1 h rfl)) (by omega)
theorem lw_f182 {b : ByteArray} {pc k : Nat} {v w : UInt8} (h : b.data.toList[pc]? = some 182) (h1 : b.data.toList[pc + 1]? = some v) (h2 : b.data.toList[pc + 1 + 1]? = some w) (e : v.toNat * 256 + w.toNat = k) : decode b pc = .ok (.invokevirtual k, 3) := by
  subst e
  exact lw_fin (n := pc + 1 + 1 + 1) ((lw_bind (x := Jvm.ClassFile.Reader.u1) (lw_u1 h rfl)).trans (lw_bind (x := Jvm.ClassFile.Reader.u2) (lw_u2 (lw_u1 h1 rfl) (lw_u1 h2 rfl)))) (by omega)
theorem lw_f167 {b : ByteArray} {pc : Nat} {k : Int} {v w : UInt8} (h : b.data.toList[pc]? = some 167) (h1 : b.data.toList[pc + 1]? = some v) (h2 : b.data.toList[pc + 1 + 1]? = some w) (e : Jvm.ClassFile.Reader.signed 16 (v.toNat * 256 + w.toNat) = k) : decode b pc = .ok (.goto k, 3) := by
  subst e
  exact lw_fin (n := pc + 1 + 1 + 1) ((lw_bind (x := Jvm.ClassFile.Reader.u1) (lw_u1 h rfl)).trans (lw_bind (x := Jvm.ClassFile.Reader.s2) (lw_map (x := Jvm.ClassFile.Reader.u2) (lw_u2 (lw_u1 h1 rfl) (lw_u1 h2 rfl))))) (by omega)
def lw_k0 : List UInt8 := 187 :: 0 :: 7 :: 89 :: 183 :: 0 :: 9 :: 76 :: 187 :: 0 :: 10 :: 89 :: 183 :: 0 :: 12 :: 77 :: 3 :: 62 :: 29 :: 42 :: 190 :: 16 :: 7 :: 100 :: 163 :: 7 :: 195 :: 42 :: 29 :: 46 :: 16 :: 63 :: []
theorem lw_e0 : (cL_law.data.toList.drop 0).take 32 = lw_k0 := by decide +kernel
def lw_k1 : List UInt8 := 126 :: 170 :: 0 :: 0 :: 0 :: 0 :: 7 :: 180 :: 0 :: 0 :: 0 :: 0 :: 0 :: 0 :: 0 :: 44 :: 0 :: 0 :: 0 :: 195 :: 0 :: 0 :: 0 :: 218 :: 0 :: 0 :: 0 :: 251 :: 0 :: 0 :: 1 :: 38 :: []
theorem lw_e1 : (cL_law.data.toList.drop 32).take 32 = lw_k1 := by decide +kernel
def lw_k2 : List UInt8 := 0 :: 0 :: 1 :: 71 :: 0 :: 0 :: 1 :: 124 :: 0 :: 0 :: 1 :: 157 :: 0 :: 0 :: 1 :: 200 :: 0 :: 0 :: 2 :: 7 :: 0 :: 0 :: 2 :: 30 :: 0 :: 0 :: 2 :: 53 :: 0 :: 0 :: 2 :: 116 :: []
theorem lw_e2 : (cL_law.data.toList.drop 64).take 32 = lw_k2 := by decide +kernel
def lw_k3 : List UInt8 := 0 :: 0 :: 2 :: 169 :: 0 :: 0 :: 2 :: 212 :: 0 :: 0 :: 2 :: 255 :: 0 :: 0 :: 3 :: 42 :: 0 :: 0 :: 3 :: 105 :: 0 :: 0 :: 3 :: 148 :: 0 :: 0 :: 3 :: 201 :: 0 :: 0 :: 3 :: 254 :: []
theorem lw_e3 : (cL_law.data.toList.drop 96).take 32 = lw_k3 := by decide +kernel
def lw_k4 : List UInt8 := 0 :: 0 :: 4 :: 41 :: 0 :: 0 :: 4 :: 94 :: 0 :: 0 :: 4 :: 127 :: 0 :: 0 :: 4 :: 180 :: 0 :: 0 :: 4 :: 223 :: 0 :: 0 :: 5 :: 10 :: 0 :: 0 :: 5 :: 85 :: 0 :: 0 :: 5 :: 128 :: []
theorem lw_e4 : (cL_law.data.toList.drop 128).take 32 = lw_k4 := by decide +kernel
def lw_k5 : List UInt8 := 0 :: 0 :: 5 :: 161 :: 0 :: 0 :: 5 :: 204 :: 0 :: 0 :: 5 :: 237 :: 0 :: 0 :: 6 :: 24 :: 0 :: 0 :: 6 :: 67 :: 0 :: 0 :: 6 :: 100 :: 0 :: 0 :: 6 :: 123 :: 0 :: 0 :: 6 :: 146 :: []
theorem lw_e5 : (cL_law.data.toList.drop 160).take 32 = lw_k5 := by decide +kernel
def lw_k6 : List UInt8 := 0 :: 0 :: 6 :: 179 :: 0 :: 0 :: 6 :: 212 :: 0 :: 0 :: 6 :: 255 :: 0 :: 0 :: 7 :: 32 :: 0 :: 0 :: 7 :: 55 :: 0 :: 0 :: 7 :: 78 :: 0 :: 0 :: 7 :: 111 :: 0 :: 0 :: 7 :: 134 :: []
theorem lw_e6 : (cL_law.data.toList.drop 192).take 32 = lw_k6 := by decide +kernel
def lw_k7 : List UInt8 := 0 :: 0 :: 7 :: 157 :: 43 :: 42 :: 29 :: 4 :: 96 :: 46 :: 182 :: 0 :: 13 :: 87 :: 44 :: 42 :: 29 :: 4 :: 96 :: 46 :: 182 :: 0 :: 17 :: 87 :: 167 :: 6 :: 221 :: 43 :: 42 :: 29 :: 4 :: 96 :: []
theorem lw_e7 : (cL_law.data.toList.drop 224).take 32 = lw_k7 := by decide +kernel
def lw_k8 : List UInt8 := 46 :: 42 :: 29 :: 5 :: 96 :: 46 :: 182 :: 0 :: 18 :: 87 :: 44 :: 42 :: 29 :: 4 :: 96 :: 46 :: 42 :: 29 :: 5 :: 96 :: 46 :: 182 :: 0 :: 22 :: 87 :: 167 :: 6 :: 188 :: 43 :: 42 :: 29 :: 4 :: []
theorem lw_e8 : (cL_law.data.toList.drop 256).take 32 = lw_k8 := by decide +kernel
def lw_k9 : List UInt8 := 96 :: 46 :: 42 :: 29 :: 5 :: 96 :: 46 :: 42 :: 29 :: 6 :: 96 :: 46 :: 182 :: 0 :: 23 :: 87 :: 44 :: 42 :: 29 :: 4 :: 96 :: 46 :: 42 :: 29 :: 5 :: 96 :: 46 :: 42 :: 29 :: 6 :: 96 :: 46 :: []
theorem lw_e9 : (cL_law.data.toList.drop 288).take 32 = lw_k9 := by decide +kernel
def lw_k10 : List UInt8 := 182 :: 0 :: 27 :: 87 :: 167 :: 6 :: 145 :: 43 :: 42 :: 29 :: 4 :: 96 :: 46 :: 42 :: 29 :: 5 :: 96 :: 46 :: 182 :: 0 :: 28 :: 87 :: 44 :: 42 :: 29 :: 4 :: 96 :: 46 :: 42 :: 29 :: 5 :: 96 :: []
theorem lw_e10 : (cL_law.data.toList.drop 320).take 32 = lw_k10 := by decide +kernel
def lw_k11 : List UInt8 := 46 :: 182 :: 0 :: 31 :: 87 :: 167 :: 6 :: 112 :: 43 :: 42 :: 29 :: 4 :: 96 :: 46 :: 42 :: 29 :: 5 :: 96 :: 46 :: 42 :: 29 :: 6 :: 96 :: 46 :: 42 :: 29 :: 7 :: 96 :: 46 :: 182 :: 0 :: 32 :: []
theorem lw_e11 : (cL_law.data.toList.drop 352).take 32 = lw_k11 := by decide +kernel
def lw_k12 : List UInt8 := 87 :: 44 :: 42 :: 29 :: 4 :: 96 :: 46 :: 42 :: 29 :: 5 :: 96 :: 46 :: 42 :: 29 :: 6 :: 96 :: 46 :: 42 :: 29 :: 7 :: 96 :: 46 :: 182 :: 0 :: 36 :: 87 :: 167 :: 6 :: 59 :: 43 :: 42 :: 29 :: []
theorem lw_e12 : (cL_law.data.toList.drop 384).take 32 = lw_k12 := by decide +kernel
def lw_k13 : List UInt8 := 4 :: 96 :: 46 :: 42 :: 29 :: 5 :: 96 :: 46 :: 182 :: 0 :: 37 :: 87 :: 44 :: 42 :: 29 :: 4 :: 96 :: 46 :: 42 :: 29 :: 5 :: 96 :: 46 :: 182 :: 0 :: 40 :: 87 :: 167 :: 6 :: 26 :: 43 :: 42 :: []
theorem lw_e13 : (cL_law.data.toList.drop 416).take 32 = lw_k13 := by decide +kernel
def lw_k14 : List UInt8 := 29 :: 4 :: 96 :: 46 :: 42 :: 29 :: 5 :: 96 :: 46 :: 42 :: 29 :: 6 :: 96 :: 46 :: 182 :: 0 :: 41 :: 87 :: 44 :: 42 :: 29 :: 4 :: 96 :: 46 :: 42 :: 29 :: 5 :: 96 :: 46 :: 42 :: 29 :: 6 :: []
theorem lw_e14 : (cL_law.data.toList.drop 448).take 32 = lw_k14 := by decide +kernel
def lw_k15 : List UInt8 := 96 :: 46 :: 182 :: 0 :: 44 :: 87 :: 167 :: 5 :: 239 :: 43 :: 42 :: 29 :: 4 :: 96 :: 46 :: 42 :: 29 :: 5 :: 96 :: 46 :: 42 :: 29 :: 6 :: 96 :: 46 :: 42 :: 29 :: 7 :: 96 :: 46 :: 42 :: 29 :: []
theorem lw_e15 : (cL_law.data.toList.drop 480).take 32 = lw_k15 := by decide +kernel
def lw_k16 : List UInt8 := 8 :: 96 :: 46 :: 182 :: 0 :: 45 :: 87 :: 44 :: 42 :: 29 :: 4 :: 96 :: 46 :: 42 :: 29 :: 5 :: 96 :: 46 :: 42 :: 29 :: 6 :: 96 :: 46 :: 42 :: 29 :: 7 :: 96 :: 46 :: 42 :: 29 :: 8 :: 96 :: []
theorem lw_e16 : (cL_law.data.toList.drop 512).take 32 = lw_k16 := by decide +kernel
def lw_k17 : List UInt8 := 46 :: 182 :: 0 :: 49 :: 87 :: 167 :: 5 :: 176 :: 43 :: 42 :: 29 :: 4 :: 96 :: 46 :: 182 :: 0 :: 50 :: 87 :: 44 :: 42 :: 29 :: 4 :: 96 :: 46 :: 182 :: 0 :: 54 :: 87 :: 167 :: 5 :: 153 :: 43 :: []
theorem lw_e17 : (cL_law.data.toList.drop 544).take 32 = lw_k17 := by decide +kernel
def lw_k18 : List UInt8 := 42 :: 29 :: 4 :: 96 :: 46 :: 182 :: 0 :: 55 :: 87 :: 44 :: 42 :: 29 :: 4 :: 96 :: 46 :: 182 :: 0 :: 58 :: 87 :: 167 :: 5 :: 130 :: 43 :: 42 :: 29 :: 4 :: 96 :: 46 :: 42 :: 29 :: 5 :: 96 :: []
theorem lw_e18 : (cL_law.data.toList.drop 576).take 32 = lw_k18 := by decide +kernel
def lw_k19 : List UInt8 := 46 :: 42 :: 29 :: 6 :: 96 :: 46 :: 42 :: 29 :: 7 :: 96 :: 46 :: 42 :: 29 :: 8 :: 96 :: 46 :: 182 :: 0 :: 59 :: 87 :: 44 :: 42 :: 29 :: 4 :: 96 :: 46 :: 42 :: 29 :: 5 :: 96 :: 46 :: 42 :: []
theorem lw_e19 : (cL_law.data.toList.drop 608).take 32 = lw_k19 := by decide +kernel
def lw_k20 : List UInt8 := 29 :: 6 :: 96 :: 46 :: 42 :: 29 :: 7 :: 96 :: 46 :: 42 :: 29 :: 8 :: 96 :: 46 :: 182 :: 0 :: 62 :: 87 :: 167 :: 5 :: 67 :: 43 :: 42 :: 29 :: 4 :: 96 :: 46 :: 42 :: 29 :: 5 :: 96 :: 46 :: []
theorem lw_e20 : (cL_law.data.toList.drop 640).take 32 = lw_k20 := by decide +kernel
def lw_k21 : List UInt8 := 42 :: 29 :: 6 :: 96 :: 46 :: 42 :: 29 :: 7 :: 96 :: 46 :: 182 :: 0 :: 63 :: 87 :: 44 :: 42 :: 29 :: 4 :: 96 :: 46 :: 42 :: 29 :: 5 :: 96 :: 46 :: 42 :: 29 :: 6 :: 96 :: 46 :: 42 :: 29 :: []
theorem lw_e21 : (cL_law.data.toList.drop 672).take 32 = lw_k21 := by decide +kernel
def lw_k22 : List UInt8 := 7 :: 96 :: 46 :: 182 :: 0 :: 66 :: 87 :: 167 :: 5 :: 14 :: 43 :: 42 :: 29 :: 4 :: 96 :: 46 :: 42 :: 29 :: 5 :: 96 :: 46 :: 42 :: 29 :: 6 :: 96 :: 46 :: 182 :: 0 :: 67 :: 88 :: 44 :: 42 :: []
theorem lw_e22 : (cL_law.data.toList.drop 704).take 32 = lw_k22 := by decide +kernel
def lw_k23 : List UInt8 := 29 :: 4 :: 96 :: 46 :: 42 :: 29 :: 5 :: 96 :: 46 :: 42 :: 29 :: 6 :: 96 :: 46 :: 182 :: 0 :: 71 :: 88 :: 167 :: 4 :: 227 :: 43 :: 42 :: 29 :: 4 :: 96 :: 46 :: 42 :: 29 :: 5 :: 96 :: 46 :: []
theorem lw_e23 : (cL_law.data.toList.drop 736).take 32 = lw_k23 := by decide +kernel
def lw_k24 : List UInt8 := 42 :: 29 :: 6 :: 96 :: 46 :: 182 :: 0 :: 72 :: 88 :: 44 :: 42 :: 29 :: 4 :: 96 :: 46 :: 42 :: 29 :: 5 :: 96 :: 46 :: 42 :: 29 :: 6 :: 96 :: 46 :: 182 :: 0 :: 75 :: 88 :: 167 :: 4 :: 184 :: []
theorem lw_e24 : (cL_law.data.toList.drop 768).take 32 = lw_k24 := by decide +kernel
def lw_k25 : List UInt8 := 43 :: 42 :: 29 :: 4 :: 96 :: 46 :: 42 :: 29 :: 5 :: 96 :: 46 :: 42 :: 29 :: 6 :: 96 :: 46 :: 182 :: 0 :: 76 :: 87 :: 44 :: 42 :: 29 :: 4 :: 96 :: 46 :: 42 :: 29 :: 5 :: 96 :: 46 :: 42 :: []
theorem lw_e25 : (cL_law.data.toList.drop 800).take 32 = lw_k25 := by decide +kernel
def lw_k26 : List UInt8 := 29 :: 6 :: 96 :: 46 :: 182 :: 0 :: 79 :: 87 :: 167 :: 4 :: 141 :: 43 :: 42 :: 29 :: 4 :: 96 :: 46 :: 42 :: 29 :: 5 :: 96 :: 46 :: 42 :: 29 :: 6 :: 96 :: 46 :: 42 :: 29 :: 7 :: 96 :: 46 :: []
theorem lw_e26 : (cL_law.data.toList.drop 832).take 32 = lw_k26 := by decide +kernel
def lw_k27 : List UInt8 := 42 :: 29 :: 8 :: 96 :: 46 :: 182 :: 0 :: 80 :: 87 :: 44 :: 42 :: 29 :: 4 :: 96 :: 46 :: 42 :: 29 :: 5 :: 96 :: 46 :: 42 :: 29 :: 6 :: 96 :: 46 :: 42 :: 29 :: 7 :: 96 :: 46 :: 42 :: 29 :: []
theorem lw_e27 : (cL_law.data.toList.drop 864).take 32 = lw_k27 := by decide +kernel
def lw_k28 : List UInt8 := 8 :: 96 :: 46 :: 182 :: 0 :: 83 :: 87 :: 167 :: 4 :: 78 :: 43 :: 42 :: 29 :: 4 :: 96 :: 46 :: 42 :: 29 :: 5 :: 96 :: 46 :: 42 :: 29 :: 6 :: 96 :: 46 :: 182 :: 0 :: 84 :: 88 :: 44 :: 42 :: []
theorem lw_e28 : (cL_law.data.toList.drop 896).take 32 = lw_k28 := by decide +kernel
def lw_k29 : List UInt8 := 29 :: 4 :: 96 :: 46 :: 42 :: 29 :: 5 :: 96 :: 46 :: 42 :: 29 :: 6 :: 96 :: 46 :: 182 :: 0 :: 87 :: 88 :: 167 :: 4 :: 35 :: 43 :: 42 :: 29 :: 4 :: 96 :: 46 :: 42 :: 29 :: 5 :: 96 :: 46 :: []
theorem lw_e29 : (cL_law.data.toList.drop 928).take 32 = lw_k29 := by decide +kernel
def lw_k30 : List UInt8 := 42 :: 29 :: 6 :: 96 :: 46 :: 42 :: 29 :: 7 :: 96 :: 46 :: 182 :: 0 :: 88 :: 88 :: 44 :: 42 :: 29 :: 4 :: 96 :: 46 :: 42 :: 29 :: 5 :: 96 :: 46 :: 42 :: 29 :: 6 :: 96 :: 46 :: 42 :: 29 :: []
theorem lw_e30 : (cL_law.data.toList.drop 960).take 32 = lw_k30 := by decide +kernel
def lw_k31 : List UInt8 := 7 :: 96 :: 46 :: 182 :: 0 :: 92 :: 88 :: 167 :: 3 :: 238 :: 43 :: 42 :: 29 :: 4 :: 96 :: 46 :: 42 :: 29 :: 5 :: 96 :: 46 :: 42 :: 29 :: 6 :: 96 :: 46 :: 42 :: 29 :: 7 :: 96 :: 46 :: 182 :: []
theorem lw_e31 : (cL_law.data.toList.drop 992).take 32 = lw_k31 := by decide +kernel
def lw_k32 : List UInt8 := 0 :: 93 :: 87 :: 44 :: 42 :: 29 :: 4 :: 96 :: 46 :: 42 :: 29 :: 5 :: 96 :: 46 :: 42 :: 29 :: 6 :: 96 :: 46 :: 42 :: 29 :: 7 :: 96 :: 46 :: 182 :: 0 :: 96 :: 87 :: 167 :: 3 :: 185 :: 43 :: []
theorem lw_e32 : (cL_law.data.toList.drop 1024).take 32 = lw_k32 := by decide +kernel
def lw_k33 : List UInt8 := 42 :: 29 :: 4 :: 96 :: 46 :: 42 :: 29 :: 5 :: 96 :: 46 :: 42 :: 29 :: 6 :: 96 :: 46 :: 182 :: 0 :: 97 :: 87 :: 44 :: 42 :: 29 :: 4 :: 96 :: 46 :: 42 :: 29 :: 5 :: 96 :: 46 :: 42 :: 29 :: []
theorem lw_e33 : (cL_law.data.toList.drop 1056).take 32 = lw_k33 := by decide +kernel
def lw_k34 : List UInt8 := 6 :: 96 :: 46 :: 182 :: 0 :: 100 :: 87 :: 167 :: 3 :: 142 :: 43 :: 42 :: 29 :: 4 :: 96 :: 46 :: 42 :: 29 :: 5 :: 96 :: 46 :: 42 :: 29 :: 6 :: 96 :: 46 :: 42 :: 29 :: 7 :: 96 :: 46 :: 182 :: []
theorem lw_e34 : (cL_law.data.toList.drop 1088).take 32 = lw_k34 := by decide +kernel
def lw_k35 : List UInt8 := 0 :: 101 :: 88 :: 44 :: 42 :: 29 :: 4 :: 96 :: 46 :: 42 :: 29 :: 5 :: 96 :: 46 :: 42 :: 29 :: 6 :: 96 :: 46 :: 42 :: 29 :: 7 :: 96 :: 46 :: 182 :: 0 :: 104 :: 88 :: 167 :: 3 :: 89 :: 43 :: []
theorem lw_e35 : (cL_law.data.toList.drop 1120).take 32 = lw_k35 := by decide +kernel
def lw_k36 : List UInt8 := 42 :: 29 :: 4 :: 96 :: 46 :: 42 :: 29 :: 5 :: 96 :: 46 :: 182 :: 0 :: 105 :: 87 :: 44 :: 42 :: 29 :: 4 :: 96 :: 46 :: 42 :: 29 :: 5 :: 96 :: 46 :: 182 :: 0 :: 108 :: 87 :: 167 :: 3 :: 56 :: []
theorem lw_e36 : (cL_law.data.toList.drop 1152).take 32 = lw_k36 := by decide +kernel
def lw_k37 : List UInt8 := 43 :: 42 :: 29 :: 4 :: 96 :: 46 :: 42 :: 29 :: 5 :: 96 :: 46 :: 42 :: 29 :: 6 :: 96 :: 46 :: 42 :: 29 :: 7 :: 96 :: 46 :: 182 :: 0 :: 109 :: 87 :: 44 :: 42 :: 29 :: 4 :: 96 :: 46 :: 42 :: []
theorem lw_e37 : (cL_law.data.toList.drop 1184).take 32 = lw_k37 := by decide +kernel
def lw_k38 : List UInt8 := 29 :: 5 :: 96 :: 46 :: 42 :: 29 :: 6 :: 96 :: 46 :: 42 :: 29 :: 7 :: 96 :: 46 :: 182 :: 0 :: 112 :: 87 :: 167 :: 3 :: 3 :: 43 :: 42 :: 29 :: 4 :: 96 :: 46 :: 42 :: 29 :: 5 :: 96 :: 46 :: []
theorem lw_e38 : (cL_law.data.toList.drop 1216).take 32 = lw_k38 := by decide +kernel
def lw_k39 : List UInt8 := 42 :: 29 :: 6 :: 96 :: 46 :: 182 :: 0 :: 113 :: 87 :: 44 :: 42 :: 29 :: 4 :: 96 :: 46 :: 42 :: 29 :: 5 :: 96 :: 46 :: 42 :: 29 :: 6 :: 96 :: 46 :: 182 :: 0 :: 116 :: 87 :: 167 :: 2 :: 216 :: []
theorem lw_e39 : (cL_law.data.toList.drop 1248).take 32 = lw_k39 := by decide +kernel
def lw_k40 : List UInt8 := 43 :: 42 :: 29 :: 4 :: 96 :: 46 :: 42 :: 29 :: 5 :: 96 :: 46 :: 42 :: 29 :: 6 :: 96 :: 46 :: 182 :: 0 :: 117 :: 87 :: 44 :: 42 :: 29 :: 4 :: 96 :: 46 :: 42 :: 29 :: 5 :: 96 :: 46 :: 42 :: []
theorem lw_e40 : (cL_law.data.toList.drop 1280).take 32 = lw_k40 := by decide +kernel
def lw_k41 : List UInt8 := 29 :: 6 :: 96 :: 46 :: 182 :: 0 :: 120 :: 87 :: 167 :: 2 :: 173 :: 43 :: 42 :: 29 :: 4 :: 96 :: 46 :: 42 :: 29 :: 5 :: 96 :: 46 :: 42 :: 29 :: 6 :: 96 :: 46 :: 42 :: 29 :: 7 :: 96 :: 46 :: []
theorem lw_e41 : (cL_law.data.toList.drop 1312).take 32 = lw_k41 := by decide +kernel
def lw_k42 : List UInt8 := 42 :: 29 :: 8 :: 96 :: 46 :: 42 :: 29 :: 16 :: 6 :: 96 :: 46 :: 182 :: 0 :: 121 :: 87 :: 44 :: 42 :: 29 :: 4 :: 96 :: 46 :: 42 :: 29 :: 5 :: 96 :: 46 :: 42 :: 29 :: 6 :: 96 :: 46 :: 42 :: []
theorem lw_e42 : (cL_law.data.toList.drop 1344).take 32 = lw_k42 := by decide +kernel
def lw_k43 : List UInt8 := 29 :: 7 :: 96 :: 46 :: 42 :: 29 :: 8 :: 96 :: 46 :: 42 :: 29 :: 16 :: 6 :: 96 :: 46 :: 182 :: 0 :: 125 :: 87 :: 167 :: 2 :: 98 :: 43 :: 42 :: 29 :: 4 :: 96 :: 46 :: 42 :: 29 :: 5 :: 96 :: []
theorem lw_e43 : (cL_law.data.toList.drop 1376).take 32 = lw_k43 := by decide +kernel
def lw_k44 : List UInt8 := 46 :: 42 :: 29 :: 6 :: 96 :: 46 :: 182 :: 0 :: 126 :: 88 :: 44 :: 42 :: 29 :: 4 :: 96 :: 46 :: 42 :: 29 :: 5 :: 96 :: 46 :: 42 :: 29 :: 6 :: 96 :: 46 :: 182 :: 0 :: 129 :: 88 :: 167 :: 2 :: []
theorem lw_e44 : (cL_law.data.toList.drop 1408).take 32 = lw_k44 := by decide +kernel
def lw_k45 : List UInt8 := 55 :: 43 :: 42 :: 29 :: 4 :: 96 :: 46 :: 42 :: 29 :: 5 :: 96 :: 46 :: 182 :: 0 :: 130 :: 87 :: 44 :: 42 :: 29 :: 4 :: 96 :: 46 :: 42 :: 29 :: 5 :: 96 :: 46 :: 182 :: 0 :: 133 :: 87 :: 167 :: []
theorem lw_e45 : (cL_law.data.toList.drop 1440).take 32 = lw_k45 := by decide +kernel
def lw_k46 : List UInt8 := 2 :: 22 :: 43 :: 42 :: 29 :: 4 :: 96 :: 46 :: 42 :: 29 :: 5 :: 96 :: 46 :: 42 :: 29 :: 6 :: 96 :: 46 :: 182 :: 0 :: 134 :: 87 :: 44 :: 42 :: 29 :: 4 :: 96 :: 46 :: 42 :: 29 :: 5 :: 96 :: []
theorem lw_e46 : (cL_law.data.toList.drop 1472).take 32 = lw_k46 := by decide +kernel
def lw_k47 : List UInt8 := 46 :: 42 :: 29 :: 6 :: 96 :: 46 :: 182 :: 0 :: 137 :: 87 :: 167 :: 1 :: 235 :: 43 :: 42 :: 29 :: 4 :: 96 :: 46 :: 42 :: 29 :: 5 :: 96 :: 46 :: 182 :: 0 :: 138 :: 87 :: 44 :: 42 :: 29 :: 4 :: []
theorem lw_e47 : (cL_law.data.toList.drop 1504).take 32 = lw_k47 := by decide +kernel
def lw_k48 : List UInt8 := 96 :: 46 :: 42 :: 29 :: 5 :: 96 :: 46 :: 182 :: 0 :: 141 :: 87 :: 167 :: 1 :: 202 :: 43 :: 42 :: 29 :: 4 :: 96 :: 46 :: 42 :: 29 :: 5 :: 96 :: 46 :: 42 :: 29 :: 6 :: 96 :: 46 :: 182 :: 0 :: []
theorem lw_e48 : (cL_law.data.toList.drop 1536).take 32 = lw_k48 := by decide +kernel
def lw_k49 : List UInt8 := 142 :: 88 :: 44 :: 42 :: 29 :: 4 :: 96 :: 46 :: 42 :: 29 :: 5 :: 96 :: 46 :: 42 :: 29 :: 6 :: 96 :: 46 :: 182 :: 0 :: 145 :: 88 :: 167 :: 1 :: 159 :: 43 :: 42 :: 29 :: 4 :: 96 :: 46 :: 42 :: []
theorem lw_e49 : (cL_law.data.toList.drop 1568).take 32 = lw_k49 := by decide +kernel
def lw_k50 : List UInt8 := 29 :: 5 :: 96 :: 46 :: 42 :: 29 :: 6 :: 96 :: 46 :: 182 :: 0 :: 146 :: 87 :: 44 :: 42 :: 29 :: 4 :: 96 :: 46 :: 42 :: 29 :: 5 :: 96 :: 46 :: 42 :: 29 :: 6 :: 96 :: 46 :: 182 :: 0 :: 149 :: []
theorem lw_e50 : (cL_law.data.toList.drop 1600).take 32 = lw_k50 := by decide +kernel
def lw_k51 : List UInt8 := 87 :: 167 :: 1 :: 116 :: 43 :: 42 :: 29 :: 4 :: 96 :: 46 :: 42 :: 29 :: 5 :: 96 :: 46 :: 182 :: 0 :: 150 :: 87 :: 44 :: 42 :: 29 :: 4 :: 96 :: 46 :: 42 :: 29 :: 5 :: 96 :: 46 :: 182 :: 0 :: []
theorem lw_e51 : (cL_law.data.toList.drop 1632).take 32 = lw_k51 := by decide +kernel
def lw_k52 : List UInt8 := 153 :: 87 :: 167 :: 1 :: 83 :: 43 :: 42 :: 29 :: 4 :: 96 :: 46 :: 182 :: 0 :: 154 :: 87 :: 44 :: 42 :: 29 :: 4 :: 96 :: 46 :: 182 :: 0 :: 157 :: 87 :: 167 :: 1 :: 60 :: 43 :: 42 :: 29 :: 4 :: []
theorem lw_e52 : (cL_law.data.toList.drop 1664).take 32 = lw_k52 := by decide +kernel
def lw_k53 : List UInt8 := 96 :: 46 :: 182 :: 0 :: 158 :: 87 :: 44 :: 42 :: 29 :: 4 :: 96 :: 46 :: 182 :: 0 :: 161 :: 87 :: 167 :: 1 :: 37 :: 43 :: 42 :: 29 :: 4 :: 96 :: 46 :: 42 :: 29 :: 5 :: 96 :: 46 :: 182 :: 0 :: []
theorem lw_e53 : (cL_law.data.toList.drop 1696).take 32 = lw_k53 := by decide +kernel
def lw_k54 : List UInt8 := 162 :: 87 :: 44 :: 42 :: 29 :: 4 :: 96 :: 46 :: 42 :: 29 :: 5 :: 96 :: 46 :: 182 :: 0 :: 165 :: 87 :: 167 :: 1 :: 4 :: 43 :: 42 :: 29 :: 4 :: 96 :: 46 :: 42 :: 29 :: 5 :: 96 :: 46 :: 182 :: []
theorem lw_e54 : (cL_law.data.toList.drop 1728).take 32 = lw_k54 := by decide +kernel
def lw_k55 : List UInt8 := 0 :: 166 :: 87 :: 44 :: 42 :: 29 :: 4 :: 96 :: 46 :: 42 :: 29 :: 5 :: 96 :: 46 :: 182 :: 0 :: 169 :: 87 :: 167 :: 0 :: 227 :: 43 :: 42 :: 29 :: 4 :: 96 :: 46 :: 42 :: 29 :: 5 :: 96 :: 46 :: []
theorem lw_e55 : (cL_law.data.toList.drop 1760).take 32 = lw_k55 := by decide +kernel
def lw_k56 : List UInt8 := 42 :: 29 :: 6 :: 96 :: 46 :: 182 :: 0 :: 170 :: 88 :: 44 :: 42 :: 29 :: 4 :: 96 :: 46 :: 42 :: 29 :: 5 :: 96 :: 46 :: 42 :: 29 :: 6 :: 96 :: 46 :: 182 :: 0 :: 173 :: 88 :: 167 :: 0 :: 184 :: []
theorem lw_e56 : (cL_law.data.toList.drop 1792).take 32 = lw_k56 := by decide +kernel
def lw_k57 : List UInt8 := 43 :: 42 :: 29 :: 4 :: 96 :: 46 :: 42 :: 29 :: 5 :: 96 :: 46 :: 182 :: 0 :: 174 :: 87 :: 44 :: 42 :: 29 :: 4 :: 96 :: 46 :: 42 :: 29 :: 5 :: 96 :: 46 :: 182 :: 0 :: 177 :: 87 :: 167 :: 0 :: []
theorem lw_e57 : (cL_law.data.toList.drop 1824).take 32 = lw_k57 := by decide +kernel
def lw_k58 : List UInt8 := 151 :: 43 :: 42 :: 29 :: 4 :: 96 :: 46 :: 182 :: 0 :: 178 :: 87 :: 44 :: 42 :: 29 :: 4 :: 96 :: 46 :: 182 :: 0 :: 181 :: 87 :: 167 :: 0 :: 128 :: 43 :: 42 :: 29 :: 4 :: 96 :: 46 :: 182 :: 0 :: []
theorem lw_e58 : (cL_law.data.toList.drop 1856).take 32 = lw_k58 := by decide +kernel
def lw_k59 : List UInt8 := 182 :: 87 :: 44 :: 42 :: 29 :: 4 :: 96 :: 46 :: 182 :: 0 :: 185 :: 87 :: 167 :: 0 :: 105 :: 43 :: 42 :: 29 :: 4 :: 96 :: 46 :: 42 :: 29 :: 5 :: 96 :: 46 :: 182 :: 0 :: 186 :: 87 :: 44 :: 42 :: []
theorem lw_e59 : (cL_law.data.toList.drop 1888).take 32 = lw_k59 := by decide +kernel
def lw_k60 : List UInt8 := 29 :: 4 :: 96 :: 46 :: 42 :: 29 :: 5 :: 96 :: 46 :: 182 :: 0 :: 189 :: 87 :: 167 :: 0 :: 72 :: 43 :: 42 :: 29 :: 4 :: 96 :: 46 :: 182 :: 0 :: 190 :: 87 :: 44 :: 42 :: 29 :: 4 :: 96 :: 46 :: []
theorem lw_e60 : (cL_law.data.toList.drop 1920).take 32 = lw_k60 := by decide +kernel
def lw_k61 : List UInt8 := 182 :: 0 :: 193 :: 87 :: 167 :: 0 :: 49 :: 43 :: 42 :: 29 :: 4 :: 96 :: 46 :: 182 :: 0 :: 194 :: 87 :: 44 :: 42 :: 29 :: 4 :: 96 :: 46 :: 182 :: 0 :: 197 :: 87 :: 167 :: 0 :: 26 :: 43 :: 42 :: []
theorem lw_e61 : (cL_law.data.toList.drop 1952).take 32 = lw_k61 := by decide +kernel
def lw_k62 : List UInt8 := 29 :: 4 :: 96 :: 46 :: 182 :: 0 :: 198 :: 44 :: 42 :: 29 :: 4 :: 96 :: 46 :: 182 :: 0 :: 201 :: 159 :: 0 :: 5 :: 3 :: 172 :: 132 :: 3 :: 7 :: 167 :: 248 :: 58 :: 4 :: 172 :: []
theorem lw_e62 : (cL_law.data.toList.drop 1984).take 32 = lw_k62 := by decide +kernel
