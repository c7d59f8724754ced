/-! ===== a pool of cells, each of a kind: rows over va_pl L f ===== -/
abbrev tk_K := Nat × Nat × Nat
abbrev tk_G := tk_K → Nat → Int
/-- an address of a kind: its role, a length or a number, its owner -/
def tp_r (L : List Nat) (K : Nat → tk_K) (k n w a : Nat) : Prop := a ∈ L ∧ K a = (k, n, w)
theorem tp_ne {L : List Nat} {K : Nat → tk_K} {k n w k2 n2 w2 a b : Nat} (h : tp_r L K k n w a) (h2 : tp_r L K k2 n2 w2 b) (hk : k ≠ k2) : a ≠ b := by
  intro e
  subst e
  have := h.2.symm.trans h2.2
  exact hk (congrArg Prod.fst this)
/-- one number of the ghost is another -/
def tg (Γ : tk_G) (κ : tk_K) (j : Nat) (v : Int) : tk_G := fun κ2 i => if κ2 = κ ∧ i = j then v else Γ κ2 i
/-- all numbers of a kind are others -/
def tgc (Γ : tk_G) (κ : tk_K) (γ : Nat → Int) : tk_G := fun κ2 => if κ2 = κ then γ else Γ κ2
def tgu (γ : Nat → Int) (j : Nat) (v : Int) : Nat → Int := fun i => if i = j then v else γ i
theorem tgu_s {γ : Nat → Int} {j : Nat} {v : Int} : tgu γ j v j = v := if_pos rfl
theorem tgu_n {γ : Nat → Int} {i j : Nat} {v : Int} (h : ¬ i = j) : tgu γ j v i = γ i := if_neg h
theorem tgc_s {Γ : tk_G} {κ : tk_K} {γ : Nat → Int} : tgc Γ κ γ κ = γ := if_pos rfl
theorem tgc_n {Γ : tk_G} {κ κ2 : tk_K} {γ : Nat → Int} (h : ¬ κ2 = κ) : tgc Γ κ γ κ2 = Γ κ2 := if_neg h
theorem tg_c {Γ : tk_G} {κ : tk_K} {j : Nat} {v : Int} : tg Γ κ j v = tgc Γ κ (tgu (Γ κ) j v) := by
  funext κ2 i
  unfold tg tgc tgu
  by_cases h : κ2 = κ
  · subst h
    by_cases h2 : i = j
    · rw [if_pos ⟨rfl, h2⟩, if_pos rfl, if_pos h2]
    · rw [if_neg (fun q => h2 q.2), if_pos rfl, if_neg h2]
  · rw [if_neg (fun q => h q.1), if_neg h]
theorem tg_s {Γ : tk_G} {κ : tk_K} {j : Nat} {v : Int} : tg Γ κ j v κ j = v := if_pos ⟨rfl, rfl⟩
theorem tg_i {Γ : tk_G} {κ κ2 : tk_K} {i j : Nat} {v : Int} (h : ¬ i = j) : tg Γ κ j v κ2 i = Γ κ2 i := if_neg (fun q => h q.2)
theorem tg_n {Γ : tk_G} {κ κ2 : tk_K} {i j : Nat} {v : Int} (h : ¬ κ2 = κ) : tg Γ κ j v κ2 i = Γ κ2 i := if_neg (fun q => h q.1)
theorem tg_r {Γ : tk_G} {k n w k2 n2 w2 i j : Nat} {v : Int} (h : k2 ≠ k) : tg Γ (k, n, w) j v (k2, n2, w2) i = Γ (k2, n2, w2) i := tg_n (fun q => h (congrArg Prod.fst q))
theorem tg_rf {Γ : tk_G} {k n w k2 n2 w2 j : Nat} {v : Int} (h : k2 ≠ k) : tg Γ (k, n, w) j v (k2, n2, w2) = Γ (k2, n2, w2) := funext fun _ => tg_r h
def tp_A (L : List Nat) (sz : Nat) : Nat → Prop := fun q => q ∈ L ∨ sz ≤ q
theorem tp_nd : ∀ (L : List Nat), L.Nodup → ∀ (i j a : Nat), L[i]? = some a → L[j]? = some a → i = j
  | [], _, i, j, a, h1, _ => by simp at h1
  | x :: t, h, 0, 0, a, _, _ => rfl
  | x :: t, h, 0, j + 1, a, h1, h2 => by
    have e : x = a := Option.some.inj h1
    subst e
    exact absurd (List.mem_of_getElem? (show t[j]? = some x from h2)) (List.nodup_cons.mp h).1
  | x :: t, h, i + 1, 0, a, h1, h2 => by
    have e : x = a := Option.some.inj h2
    subst e
    exact absurd (List.mem_of_getElem? (show t[i]? = some x from h1)) (List.nodup_cons.mp h).1
  | x :: t, h, i + 1, j + 1, a, h1, h2 => congrArg Nat.succ (tp_nd t (List.nodup_cons.mp h).2 i j a h1 h2)
theorem tp_D {L : List Nat} {f : Nat → va_E} {A : Nat → Prop} (hn : L.Nodup) (hA : ∀ a ∈ L, A a) : va_D A (va_pl L f) := by
  refine ⟨fun i j x y hx hy h => ?_, fun k x hx => ?_⟩
  · unfold va_pl at hx hy
    rw [List.getElem?_map] at hx hy
    obtain ⟨a, ha, rfl⟩ := Option.map_eq_some_iff.mp hx
    obtain ⟨b, hb, rfl⟩ := Option.map_eq_some_iff.mp hy
    have h : a = b := h
    subst h
    exact tp_nd L hn i j a ha hb
  · unfold va_pl at hx
    rw [List.getElem?_map] at hx
    obtain ⟨a, ha, rfl⟩ := Option.map_eq_some_iff.mp hx
    exact hA a (List.mem_of_getElem? ha)
section TP
variable {p : Program} {l : Launch} {e : Env} {R : Room} {s : State} {m : MethodId} {args : Array Value} {below : List Frame} {meth : Method} {c : Code} {H : Heap} {locs : List Loc} {cells slots : Nat} {Q : State → Prop}
variable {cc : ByteArray} {pc : Nat} {ls : Array Slot} {rest st0 As : List Value} {D : va_G} {A : Nat → Prop} {a b : Nat} {H0 : Heap} {cy : Nat → ClassId} {L : List Nat} {K : Nat → tk_K} {f : Nat → va_E}
theorem tp_at (h : a ∈ L) : ∃ k : Nat, (va_pl L f)[k]? = some (a, f a) := va_pl_get (X := []) h
theorem tp_set {k : Nat} {e : va_E} (hD : va_D A (va_pl L f)) (h : a ∈ L) (hk : (va_pl L f)[k]? = some (a, f a)) : (va_pl L f).set k (a, e) = va_pl L (va_up f a e) := va_pl_set (X := []) hD h hk
theorem tp_get {own ref C : String} {T : u_T} {N ci index : Nat} (hexec : p.tables.exec = Jvm.exec) (hb : c.code = cc) (hta : ∀ w ∈ tl_L, w.before args s = true) (hin : ∀ w ∈ u_ws C T N, w ∈ tl_L) (hown : s.vm.findClass own = some m.cls) (hK : va_K D vwCl (tl_T cy) s) (hP : va_P D vwCl (va_pl L f) H) (ha : a ∈ L) {fs : List Value} (hf : f a = .inr (ci, fs)) (hc : vwCl[ci]? = some (C, T, N)) (k : Nat) (hk : k < N) (hlink : (Cond.fieldLink own index ref (T k).2.1 (T k).2.2.1).before args s = true) (hsame : ∀ x, s.fieldFound? (T k).1 (T k).2.1 (T k).2.2.1 = some x → s.fieldFound? ref (T k).2.1 (T k).2.2.1 = some x) {v : Value} (hv : fs[k]? = some v) (hdg : decode cc pc = .ok (.getfield index, 3))
    (kk : W p l e R s m args below meth c H locs cells slots Q (F0 m (pc + 3) ls (v :: rest))) : W p l e R s m args below meth c H locs cells slots Q (F0 m pc ls (.ref a :: rest)) := by
  obtain ⟨q0, h0⟩ := tp_at (f := f) ha
  rw [hf] at h0
  exact va_get hexec hb hta hin hown hK hP q0 h0 hc k hk hlink hsame hv hdg kk
theorem tp_getN {own ref C host : String} {T : u_T} {N ci index : Nat} (hexec : p.tables.exec = Jvm.exec) (hb : c.code = cc) (hta : ∀ w ∈ tl_L, w.before args s = true) (hin : ∀ w ∈ u_ws C T N, w ∈ tl_L) (hown : s.vm.findClass own = some m.cls) (hK : va_K D vwCl (tl_T cy) s) (hP : va_P D vwCl (va_pl L f) H) (ha : a ∈ L) {fs : List Value} (hf : f a = .inr (ci, fs)) (hc : vwCl[ci]? = some (C, T, N)) (k : Nat) (hk : k < N) (hlink : (Cond.fieldLinkNest own index ref (T k).2.1 (T k).2.2.1 host).before args s = true) (hsame : ∀ x, s.fieldFound? (T k).1 (T k).2.1 (T k).2.2.1 = some x → s.fieldFound? ref (T k).2.1 (T k).2.2.1 = some x) {v : Value} (hv : fs[k]? = some v) (hdg : decode cc pc = .ok (.getfield index, 3))
    (kk : W p l e R s m args below meth c H locs cells slots Q (F0 m (pc + 3) ls (v :: rest))) : W p l e R s m args below meth c H locs cells slots Q (F0 m pc ls (.ref a :: rest)) := by
  obtain ⟨q0, h0⟩ := tp_at (f := f) ha
  rw [hf] at h0
  exact va_getN hexec hb hta hin hown hK hP q0 h0 hc k hk hlink hsame hv hdg kk
theorem tp_put {own ref C : String} {T : u_T} {N ci index : Nat} (hexec : p.tables.exec = Jvm.exec) (hb : c.code = cc) (hta : ∀ w ∈ tl_L, w.before args s = true) (hin : ∀ w ∈ u_ws C T N, w ∈ tl_L) (ty0 : Nat → FieldType) (hty : ∀ k, k < N → parseFieldDescriptor (T k).2.2.1 = some (ty0 k)) (hnm : ∀ a, a < N → ∀ b, b < N → a ≠ b → (T a).2.1 ≠ (T b).2.1) (hown : s.vm.findClass own = some m.cls) (hK : va_K D vwCl (tl_T cy) s) (hP : va_P D vwCl (va_pl L f) H) (hD : va_D A (va_pl L f)) (hS : va_S A H0 H locs) (ha : a ∈ L) {fs : List Value} (hf : f a = .inr (ci, fs)) (hc : vwCl[ci]? = some (C, T, N)) (k : Nat) (hk : k < N) (hlink : (Cond.fieldLink own index ref (T k).2.1 (T k).2.2.1).before args s = true) (hsame : ∀ x, s.fieldFound? (T k).1 (T k).2.1 (T k).2.2.1 = some x → s.fieldFound? ref (T k).2.1 (T k).2.2.1 = some x) (hfin : (T k).2.2.2 = false) {ty : FieldType} {v : Value} (hd : parseFieldDescriptor (T k).2.2.1 = some ty) (hn : narrow ty v = v) (hfit : fits ty v = true) (hl : k < fs.length) (hdg : decode cc pc = .ok (.putfield index, 3))
    (kk : ∀ (H1 : Heap) (locs1 : List Loc), va_P D vwCl (va_pl L (va_up f a (.inr (ci, fs.set k v)))) H1 → va_D A (va_pl L (va_up f a (.inr (ci, fs.set k v)))) → va_S A H0 H1 locs1 → W p l e R s m args below meth c H1 locs1 cells slots Q (F0 m (pc + 3) ls rest)) : W p l e R s m args below meth c H locs cells slots Q (F0 m pc ls (v :: .ref a :: rest)) := by
  obtain ⟨q0, h0⟩ := tp_at (f := f) ha
  have hs := tp_set (e := .inr (ci, fs.set k v)) hD ha h0
  rw [hf] at h0
  refine va_put hexec hb hta hin ty0 hty hnm hown hK hP hD hS q0 h0 hc k hk hlink hsame hfin hd hn hfit hl hdg (fun H1 locs1 hP1 hD1 hS1 => ?_)
  rw [hs] at hP1 hD1
  exact kk H1 locs1 hP1 hD1 hS1
theorem tp_putN {own ref C host : String} {T : u_T} {N ci index : Nat} (hexec : p.tables.exec = Jvm.exec) (hb : c.code = cc) (hta : ∀ w ∈ tl_L, w.before args s = true) (hin : ∀ w ∈ u_ws C T N, w ∈ tl_L) (ty0 : Nat → FieldType) (hty : ∀ k, k < N → parseFieldDescriptor (T k).2.2.1 = some (ty0 k)) (hnm : ∀ a, a < N → ∀ b, b < N → a ≠ b → (T a).2.1 ≠ (T b).2.1) (hown : s.vm.findClass own = some m.cls) (hK : va_K D vwCl (tl_T cy) s) (hP : va_P D vwCl (va_pl L f) H) (hD : va_D A (va_pl L f)) (hS : va_S A H0 H locs) (ha : a ∈ L) {fs : List Value} (hf : f a = .inr (ci, fs)) (hc : vwCl[ci]? = some (C, T, N)) (k : Nat) (hk : k < N) (hlink : (Cond.fieldLinkNest own index ref (T k).2.1 (T k).2.2.1 host).before args s = true) (hsame : ∀ x, s.fieldFound? (T k).1 (T k).2.1 (T k).2.2.1 = some x → s.fieldFound? ref (T k).2.1 (T k).2.2.1 = some x) (hfin : (T k).2.2.2 = false) {ty : FieldType} {v : Value} (hd : parseFieldDescriptor (T k).2.2.1 = some ty) (hn : narrow ty v = v) (hfit : fits ty v = true) (hl : k < fs.length) (hdg : decode cc pc = .ok (.putfield index, 3))
    (kk : ∀ (H1 : Heap) (locs1 : List Loc), va_P D vwCl (va_pl L (va_up f a (.inr (ci, fs.set k v)))) H1 → va_D A (va_pl L (va_up f a (.inr (ci, fs.set k v)))) → va_S A H0 H1 locs1 → W p l e R s m args below meth c H1 locs1 cells slots Q (F0 m (pc + 3) ls rest)) : W p l e R s m args below meth c H locs cells slots Q (F0 m pc ls (v :: .ref a :: rest)) := by
  obtain ⟨q0, h0⟩ := tp_at (f := f) ha
  have hs := tp_set (e := .inr (ci, fs.set k v)) hD ha h0
  rw [hf] at h0
  refine va_putN hexec hb hta hin ty0 hty hnm hown hK hP hD hS q0 h0 hc k hk hlink hsame hfin hd hn hfit hl hdg (fun H1 locs1 hP1 hD1 hS1 => ?_)
  rw [hs] at hP1 hD1
  exact kk H1 locs1 hP1 hD1 hS1
theorem tp_alen (hexec : p.tables.exec = Jvm.exec) (hb : c.code = cc) (hK : va_K D vwCl (tl_T cy) s) (hP : va_P D vwCl (va_pl L f) H) (ha : a ∈ L) {t0 : Nat} {ty : FieldType} (ht : (tl_T cy)[t0]? = some (cy t0, ty)) {x : vp_A} (hf : f a = .inl (cy t0, x)) {v : Int32} (hv : Int32.ofNat x.1 = v) (hdg : decode cc pc = .ok (.arraylength, 1))
    (kk : W p l e R s m args below meth c H locs cells slots Q (F0 m (pc + 1) ls (.int v :: rest))) : W p l e R s m args below meth c H locs cells slots Q (F0 m pc ls (.ref a :: rest)) := by
  obtain ⟨q0, h0⟩ := tp_at (f := f) ha
  rw [hf] at h0
  exact va_alen hexec hb hK hP q0 t0 h0 ht hv hdg kk
theorem tp_iald (hexec : p.tables.exec = Jvm.exec) (hb : c.code = cc) (hK : va_K D vwCl (tl_T cy) s) (hP : va_P D vwCl (va_pl L f) H) (ha : a ∈ L) {n : Nat} {g : Nat → Int32} (hf : f a = .inl (cy 0, n, .inl g)) {i : Int32} (hin : vp_in i n) (hdg : decode cc pc = .ok (.iaload, 1))
    (kk : W p l e R s m args below meth c H locs cells slots Q (F0 m (pc + 1) ls (.int (g i.toNatClampNeg) :: rest))) : W p l e R s m args below meth c H locs cells slots Q (F0 m pc ls (.int i :: .ref a :: rest)) := by
  obtain ⟨q0, h0⟩ := tp_at (f := f) ha
  rw [hf] at h0
  exact va_iald hexec hb hK hP q0 0 h0 rfl hin hdg kk
theorem tp_zald (hexec : p.tables.exec = Jvm.exec) (hb : c.code = cc) (hK : va_K D vwCl (tl_T cy) s) (hP : va_P D vwCl (va_pl L f) H) (ha : a ∈ L) {n : Nat} {g : Nat → Int32} (hf : f a = .inl (cy 2, n, .inl g)) {i : Int32} (hin : vp_in i n) (hdg : decode cc pc = .ok (.baload, 1))
    (kk : W p l e R s m args below meth c H locs cells slots Q (F0 m (pc + 1) ls (.int (g i.toNatClampNeg) :: rest))) : W p l e R s m args below meth c H locs cells slots Q (F0 m pc ls (.int i :: .ref a :: rest)) := by
  obtain ⟨q0, h0⟩ := tp_at (f := f) ha
  rw [hf] at h0
  exact va_zald hexec hb hK hP q0 2 h0 rfl hin hdg kk
theorem tp_lald (hexec : p.tables.exec = Jvm.exec) (hb : c.code = cc) (hK : va_K D vwCl (tl_T cy) s) (hP : va_P D vwCl (va_pl L f) H) (ha : a ∈ L) {n : Nat} {g : Nat → Int64} (hf : f a = .inl (cy 1, n, .inr (.inl g))) {i : Int32} (hin : vp_in i n) (hdg : decode cc pc = .ok (.laload, 1))
    (kk : W p l e R s m args below meth c H locs cells slots Q (F0 m (pc + 1) ls (.long (g i.toNatClampNeg) :: rest))) : W p l e R s m args below meth c H locs cells slots Q (F0 m pc ls (.int i :: .ref a :: rest)) := by
  obtain ⟨q0, h0⟩ := tp_at (f := f) ha
  rw [hf] at h0
  exact va_lald hexec hb hK hP q0 1 h0 rfl hin hdg kk
theorem tp_aldq {t0 : Nat} {C : String} (ht : (tl_T cy)[t0]? = some (cy t0, .object C)) (hexec : p.tables.exec = Jvm.exec) (hb : c.code = cc) (hK : va_K D vwCl (tl_T cy) s) (hP : va_P D vwCl (va_pl L f) H) (ha : a ∈ L) {n : Nat} {g : Nat → Option Nat} (hf : f a = .inl (cy t0, n, .inr (.inr (.inr (.inr g))))) {i : Int32} (hin : vp_in i n) (hdg : decode cc pc = .ok (.aaload, 1))
    (kk : W p l e R s m args below meth c H locs cells slots Q (F0 m (pc + 1) ls (va_rf (g i.toNatClampNeg) :: rest))) : W p l e R s m args below meth c H locs cells slots Q (F0 m pc ls (.int i :: .ref a :: rest)) := by
  obtain ⟨q0, h0⟩ := tp_at (f := f) ha
  rw [hf] at h0
  exact va_aldq hexec hb hK hP q0 t0 h0 ht hin hdg kk
theorem tp_aldA (hexec : p.tables.exec = Jvm.exec) (hb : c.code = cc) (hK : va_K D vwCl (tl_T cy) s) (hP : va_P D vwCl (va_pl L f) H) (ha : a ∈ L) {n : Nat} {g : Nat → Option Nat} (hf : f a = .inl (cy 6, n, .inr (.inr (.inr (.inr g))))) {i : Int32} (hin : vp_in i n) (hdg : decode cc pc = .ok (.aaload, 1))
    (kk : W p l e R s m args below meth c H locs cells slots Q (F0 m (pc + 1) ls (va_rf (g i.toNatClampNeg) :: rest))) : W p l e R s m args below meth c H locs cells slots Q (F0 m pc ls (.int i :: .ref a :: rest)) := by
  obtain ⟨q0, h0⟩ := tp_at (f := f) ha
  rw [hf] at h0
  exact tl_aldA hexec hb hK hP q0 h0 hin hdg kk
theorem tp_iast (hexec : p.tables.exec = Jvm.exec) (hb : c.code = cc) (hK : va_K D vwCl (tl_T cy) s) (hP : va_P D vwCl (va_pl L f) H) (hD : va_D A (va_pl L f)) (hS : va_S A H0 H locs) (ha : a ∈ L) {n : Nat} {g : Nat → Int32} (hf : f a = .inl (cy 0, n, .inl g)) {i x : Int32} (hin : vp_in i n) (hdg : decode cc pc = .ok (.iastore, 1))
    (kk : ∀ (H1 : Heap) (locs1 : List Loc), va_P D vwCl (va_pl L (va_up f a (.inl (cy 0, n, .inl (upd g i.toNatClampNeg x))))) H1 → va_D A (va_pl L (va_up f a (.inl (cy 0, n, .inl (upd g i.toNatClampNeg x))))) → va_S A H0 H1 locs1 → W p l e R s m args below meth c H1 locs1 cells slots Q (F0 m (pc + 1) ls rest)) : W p l e R s m args below meth c H locs cells slots Q (F0 m pc ls (.int x :: .int i :: .ref a :: rest)) := by
  obtain ⟨q0, h0⟩ := tp_at (f := f) ha
  have hs := tp_set (e := .inl (cy 0, n, .inl (upd g i.toNatClampNeg x))) hD ha h0
  rw [hf] at h0
  refine va_iast hexec hb hK hP hD hS q0 0 h0 rfl hin hdg (fun H1 locs1 hP1 hD1 hS1 => ?_)
  rw [hs] at hP1 hD1
  exact kk H1 locs1 hP1 hD1 hS1
theorem tp_zast (hexec : p.tables.exec = Jvm.exec) (hb : c.code = cc) (hK : va_K D vwCl (tl_T cy) s) (hP : va_P D vwCl (va_pl L f) H) (hD : va_D A (va_pl L f)) (hS : va_S A H0 H locs) (ha : a ∈ L) {n : Nat} {g : Nat → Int32} (hf : f a = .inl (cy 2, n, .inl g)) {i x : Int32} (hin : vp_in i n) (hdg : decode cc pc = .ok (.bastore, 1))
    (kk : ∀ (H1 : Heap) (locs1 : List Loc), va_P D vwCl (va_pl L (va_up f a (.inl (cy 2, n, .inl (upd g i.toNatClampNeg (vp_nar .boolean x)))))) H1 → va_D A (va_pl L (va_up f a (.inl (cy 2, n, .inl (upd g i.toNatClampNeg (vp_nar .boolean x)))))) → va_S A H0 H1 locs1 → W p l e R s m args below meth c H1 locs1 cells slots Q (F0 m (pc + 1) ls rest)) : W p l e R s m args below meth c H locs cells slots Q (F0 m pc ls (.int x :: .int i :: .ref a :: rest)) := by
  obtain ⟨q0, h0⟩ := tp_at (f := f) ha
  have hs := tp_set (e := .inl (cy 2, n, .inl (upd g i.toNatClampNeg (vp_nar .boolean x)))) hD ha h0
  rw [hf] at h0
  refine va_zast hexec hb hK hP hD hS q0 2 h0 rfl hin hdg (fun H1 locs1 hP1 hD1 hS1 => ?_)
  rw [hs] at hP1 hD1
  exact kk H1 locs1 hP1 hD1 hS1
theorem tp_last (hexec : p.tables.exec = Jvm.exec) (hb : c.code = cc) (hK : va_K D vwCl (tl_T cy) s) (hP : va_P D vwCl (va_pl L f) H) (hD : va_D A (va_pl L f)) (hS : va_S A H0 H locs) (ha : a ∈ L) {n : Nat} {g : Nat → Int64} (hf : f a = .inl (cy 1, n, .inr (.inl g))) {i : Int32} {x : Int64} (hin : vp_in i n) (hdg : decode cc pc = .ok (.lastore, 1))
    (kk : ∀ (H1 : Heap) (locs1 : List Loc), va_P D vwCl (va_pl L (va_up f a (.inl (cy 1, n, .inr (.inl (vp_updL g i.toNatClampNeg x)))))) H1 → va_D A (va_pl L (va_up f a (.inl (cy 1, n, .inr (.inl (vp_updL g i.toNatClampNeg x)))))) → va_S A H0 H1 locs1 → W p l e R s m args below meth c H1 locs1 cells slots Q (F0 m (pc + 1) ls rest)) : W p l e R s m args below meth c H locs cells slots Q (F0 m pc ls (.long x :: .int i :: .ref a :: rest)) := by
  obtain ⟨q0, h0⟩ := tp_at (f := f) ha
  have hs := tp_set (e := .inl (cy 1, n, .inr (.inl (vp_updL g i.toNatClampNeg x)))) hD ha h0
  rw [hf] at h0
  refine va_last hexec hb hK hP hD hS q0 1 h0 rfl hin hdg (fun H1 locs1 hP1 hD1 hS1 => ?_)
  rw [hs] at hP1 hD1
  exact kk H1 locs1 hP1 hD1 hS1
end TP

def tp_pi (k : Nat) (x : Int32) : Prop := match k with
  | 19 => 0 ≤ x.toInt ∧ x.toInt ≤ 9999
  | 31 => 0 ≤ x.toInt ∧ x.toInt ≤ 299
  | _ => True
def tm_ro (k : Nat) : Nat := [40, 41, 42, 43, 44, 45, 46, 53, 47, 54, 55, 56, 48, 49, 50, 51, 52, 57, 58, 59, 60, 61, 62, 63, 64, 65, 66, 67, 68, 69, 70, 71].getD k 0
def tm_nu (k : Nat) : Nat := [7666, 400, 3, 8800, 22, 1056, 22, 144, 6, 22, 22, 22, 22, 22, 22, 22, 400, 64, 5, 300, 300, 42, 42, 300, 24, 24, 24, 8, 4, 4, 30664, 4].getD k 0
def tp_o_M (L : List Nat) (K : Nat → tk_K) (n w : Nat) (γ : Nat → Int) (e : va_E) : Prop := ∃ (r : Nat → Nat) (v : Nat → Int32) (q : Int64), e = .inr (12, [.ref (r 0), .ref (r 1), .int (v 0), .ref (r 2), .ref (r 3), .ref (r 4), .ref (r 5), .ref (r 6), .ref (r 7), .ref (r 8), .ref (r 9), .ref (r 10), .ref (r 11), .ref (r 12), .ref (r 13), .ref (r 14), .ref (r 15), .int (v 1), .int (v 2), .int (v 3), .int (v 4), .int (v 5), .int (v 6), .int (v 7), .ref (r 16), .int (v 8), .ref (r 17), .int (v 9), .ref (r 18), .long q, .ref (r 19), .ref (r 20), .int (v 10), .int (v 11), .int (v 12), .ref (r 21), .ref (r 22), .int (v 13), .ref (r 23), .int (v 14), .int (v 15), .ref (r 24), .ref (r 25), .ref (r 26), .ref (r 27), .ref (r 28), .ref (r 29), .ref (r 30), .ref (r 31)]) ∧ (∀ k : Nat, k < 32 → tp_r L K (tm_ro k) (tm_nu k) 0 (r k)) ∧ ∀ j : Nat, j < 16 → (v j).toInt = γ j
def tp_o_X (L : List Nat) (K : Nat → tk_K) (n w : Nat) (γ : Nat → Int) (e : va_E) : Prop := ∃ (x0 : Nat) (x1 : Nat) (x2 : Nat) (x3 : Nat) (x4 : Nat) (x5 : Nat) (x6 : Nat) (x7 : Nat) (x8 : Nat) (x9 : Nat) (x10 : Nat) (x11 : Nat) (x12 : Nat) (x13 : Nat) (x14 : Nat) (x15 : Nat), e = .inr (11, [.ref x0, .ref x1, .ref x2, .ref x3, .ref x4, .ref x5, .ref x6, .ref x7, .ref x8, .ref x9, .ref x10, .ref x11, .ref x12, .ref x13, .ref x14, .ref x15]) ∧ (tp_r L K 1 (0) 0 x0) ∧ (tp_r L K 12 (4) 0 x1) ∧ (tp_r L K 13 (6) 0 x2) ∧ (tp_r L K 13 (8) 0 x3) ∧ (tp_r L K 13 (8) 0 x4) ∧ (tp_r L K 15 (0) 0 x5) ∧ (tp_r L K 18 (0) 0 x6) ∧ (tp_r L K 22 (0) 0 x7) ∧ (tp_r L K 25 (0) 0 x8) ∧ (tp_r L K 27 (0) 0 x9) ∧ (tp_r L K 33 (0) 0 x10) ∧ (tp_r L K 36 (24) 0 x11) ∧ (tp_r L K 36 (24) 0 x12) ∧ (tp_r L K 37 (8) 0 x13) ∧ (tp_r L K 38 (10) 0 x14) ∧ (tp_r L K 37 (8) 0 x15)
def tp_o_BOOK (L : List Nat) (K : Nat → tk_K) (n w : Nat) (γ : Nat → Int) (e : va_E) : Prop := ∃ (x0 : Int32) (x1 : Nat) (x2 : Nat) (x3 : Nat) (x4 : Nat) (x5 : Nat) (x6 : Nat) (x7 : Nat) (x8 : Int32), e = .inr (0, [.int x0, .ref x1, .ref x2, .ref x3, .ref x4, .ref x5, .ref x6, .ref x7, .int x8]) ∧ (x0.toInt = γ 0) ∧ (tp_r L K 2 (4) w x1) ∧ (tp_r L K 3 (0) w x2) ∧ (tp_r L K 7 (40) w x3) ∧ (tp_r L K 7 (60) w x4) ∧ (tp_r L K 7 (10) w x5) ∧ (tp_r L K 9 (8) w x6) ∧ (tp_r L K 11 (400) w x7) ∧ (0 ≤ x8.toInt ∧ x8.toInt ≤ 400)
def tp_o_ROWS (L : List Nat) (K : Nat → tk_K) (n w : Nat) (γ : Nat → Int) (e : va_E) : Prop := ∃ (x0 : Int32) (x1 : Int32) (x2 : Nat) (x3 : Nat) (x4 : Nat) (x5 : Nat), e = .inr (4, [.int x0, .int x1, .ref x2, .ref x3, .ref x4, .ref x5]) ∧ (0 ≤ x0.toInt ∧ x0.toInt ≤ 24 ∧ x0.toInt = γ 0) ∧ (tp_r L K 4 (24) w x2) ∧ (tp_r L K 4 (24) w x3) ∧ (tp_r L K 4 (24) w x4) ∧ (tp_r L K 5 (24) w x5)
def tp_o_TABLE (L : List Nat) (K : Nat → tk_K) (n w : Nat) (γ : Nat → Int) (e : va_E) : Prop := ∃ (x0 : Int32) (x1 : Nat) (x2 : Int32), e = .inr (6, [.int x0, .ref x1, .int x2]) ∧ (x0.toInt = n) ∧ (tp_r L K 8 (4 * n) w x1) ∧ (0 ≤ x2.toInt ∧ x2.toInt ≤ n ∧ x2.toInt = γ 0)
def tp_o_HTABLE (L : List Nat) (K : Nat → tk_K) (n w : Nat) (γ : Nat → Int) (e : va_E) : Prop := ∃ (x0 : Int32) (x1 : Nat) (x2 : Int32), e = .inr (6, [.int x0, .ref x1, .int x2]) ∧ (x0.toInt = n) ∧ (tp_r L K 10 (4 * n) w x1) ∧ (0 ≤ x2.toInt ∧ x2.toInt ≤ n)
def tp_o_TEXTS (L : List Nat) (K : Nat → tk_K) (n w : Nat) (γ : Nat → Int) (e : va_E) : Prop := ∃ (x0 : Nat) (x1 : Int32), e = .inr (8, [.ref x0, .int x1]) ∧ (tp_r L K 14 (n) 0 x0) ∧ (0 ≤ x1.toInt ∧ x1.toInt ≤ 8)
def tp_o_PARSER (L : List Nat) (K : Nat → tk_K) (n w : Nat) (γ : Nat → Int) (e : va_E) : Prop := ∃ (x0 : Nat) (x1 : Nat) (x2 : Int32) (x3 : Int32) (x4 : Int32) (x5 : Int32), e = .inr (2, [.ref x0, .ref x1, .int x2, .int x3, .int x4, .int x5]) ∧ (tp_r L K 16 (0) 0 x0) ∧ (tp_r L K 18 (0) 0 x1)
def tp_o_TOKENS (L : List Nat) (K : Nat → tk_K) (n w : Nat) (γ : Nat → Int) (e : va_E) : Prop := ∃ (x0 : Nat) (x1 : Nat) (x2 : Nat) (x3 : Int32), e = .inr (9, [.ref x0, .ref x1, .ref x2, .int x3]) ∧ (tp_r L K 17 (401) 0 x0) ∧ (tp_r L K 17 (401) 0 x1) ∧ (tp_r L K 17 (401) 0 x2) ∧ (0 ≤ x3.toInt ∧ x3.toInt ≤ 401)
def tp_o_TEXT (L : List Nat) (K : Nat → tk_K) (n w : Nat) (γ : Nat → Int) (e : va_E) : Prop := ∃ (x0 : Int32) (x1 : Nat) (x2 : Nat) (x3 : Nat) (x4 : Nat) (x5 : Nat) (x6 : Nat) (x7 : Nat) (x8 : Int32), e = .inr (7, [.int x0, .ref x1, .ref x2, .ref x3, .ref x4, .ref x5, .ref x6, .ref x7, .int x8]) ∧ (0 ≤ x0.toInt ∧ x0.toInt ≤ 12) ∧ (tp_r L K 20 (12) 0 x1) ∧ (tp_r L K 19 (12) 0 x2) ∧ (tp_r L K 19 (12) 0 x3) ∧ (tp_r L K 20 (12) 0 x4) ∧ (tp_r L K 20 (12) 0 x5) ∧ (tp_r L K 20 (12) 0 x6) ∧ (tp_r L K 21 (400) 0 x7) ∧ (0 ≤ x8.toInt ∧ x8.toInt ≤ 400)
def tp_o_SUMS (L : List Nat) (K : Nat → tk_K) (n w : Nat) (γ : Nat → Int) (e : va_E) : Prop := ∃ (x0 : Nat) (x1 : Nat), e = .inr (5, [.ref x0, .ref x1]) ∧ (tp_r L K 23 (5) 0 x0) ∧ (tp_r L K 24 (60) 0 x1)
def tp_o_MAKER (L : List Nat) (K : Nat → tk_K) (n w : Nat) (γ : Nat → Int) (e : va_E) : Prop := ∃ (x0 : Nat) (x1 : Int32) (x2 : Int32) (x3 : Int32) (x4 : Int64), e = .inr (1, [.ref x0, .int x1, .int x2, .int x3, .long x4]) ∧ (tp_r L K 26 (300) 0 x0)
def tp_o_VIEW (L : List Nat) (K : Nat → tk_K) (n w : Nat) (γ : Nat → Int) (e : va_E) : Prop := ∃ (x0 : Nat) (x1 : Nat) (x2 : Nat) (x3 : Nat) (x4 : Nat) (x5 : Nat) (x6 : Nat) (x7 : Nat) (x8 : Nat) (x9 : Int32) (x10 : Int32) (x11 : Int32) (x12 : Int32) (x13 : Int32) (x14 : Int32) (x15 : Int32) (x16 : Int64) (x17 : Int64), e = .inr (10, [.ref x0, .ref x1, .ref x2, .ref x3, .ref x4, .ref x5, .ref x6, .ref x7, .ref x8, .int x9, .int x10, .int x11, .int x12, .int x13, .int x14, .int x15, .long x16, .long x17]) ∧ (tp_r L K 28 (300) 0 x0) ∧ (tp_r L K 28 (300) 0 x1) ∧ (tp_r L K 28 (300) 0 x2) ∧ (tp_r L K 29 (300) 0 x3) ∧ (tp_r L K 29 (300) 0 x4) ∧ (tp_r L K 30 (301) 0 x5) ∧ (tp_r L K 30 (301) 0 x6) ∧ (tp_r L K 31 (42) 0 x7) ∧ (tp_r L K 32 (42) 0 x8) ∧ (0 ≤ x10.toInt ∧ x10.toInt ≤ 9999) ∧ (0 ≤ x13.toInt ∧ x13.toInt ≤ 42)
def tp_o_RESTS (L : List Nat) (K : Nat → tk_K) (n w : Nat) (γ : Nat → Int) (e : va_E) : Prop := ∃ (x0 : Nat) (x1 : Nat), e = .inr (3, [.ref x0, .ref x1]) ∧ (tp_r L K 34 (99) 0 x0) ∧ (tp_r L K 35 (99) 0 x1)
def tp_ai (cy : Nat → ClassId) (k n : Nat) (e : va_E) : Prop := ∃ g : Nat → Int32, e = .inl (cy 0, n, .inl g) ∧ ∀ j : Nat, j < n → tp_pi k (g j)
def tp_gi (cy : Nat → ClassId) (n : Nat) (γ : Nat → Int) (e : va_E) : Prop := ∃ g : Nat → Int32, e = .inl (cy 0, n, .inl g) ∧ ∀ j : Nat, j < n → (g j).toInt = γ j
def tp_gz (cy : Nat → ClassId) (n : Nat) (γ : Nat → Int) (e : va_E) : Prop := ∃ g : Nat → Int32, e = .inl (cy 2, n, .inl g) ∧ ∀ j : Nat, j < n → (g j).toInt = γ j
def tp_g8 (cy : Nat → ClassId) (n : Nat) (γ : Nat → Int) (e : va_E) : Prop := ∃ g : Nat → Int32, e = .inl (cy 3, n, .inl g) ∧ ∀ j : Nat, j < n → (g j).toInt = γ j
def tp_az (cy : Nat → ClassId) (n : Nat) (e : va_E) : Prop := ∃ g : Nat → Int32, e = .inl (cy 2, n, .inl g)
def tp_aj (cy : Nat → ClassId) (n : Nat) (e : va_E) : Prop := ∃ g : Nat → Int64, e = .inl (cy 1, n, .inr (.inl g))
def tp_aq (cy : Nat → ClassId) (L : List Nat) (K : Nat → tk_K) (t k n : Nat) (e : va_E) : Prop := ∃ g : Nat → Option Nat, e = .inl (cy t, n, .inr (.inr (.inr (.inr g)))) ∧ ∀ j : Nat, j < n → ∀ b, g j = some b → tp_r L K k 0 0 b
def tp_ab (cy : Nat → ClassId) (L : List Nat) (K : Nat → tk_K) (n : Nat) (γ : Nat → Int) (e : va_E) : Prop := ∃ g : Nat → Option Nat, e = .inl (cy 4, n, .inr (.inr (.inr (.inr g)))) ∧ ∀ j : Nat, j < n → (∀ b, g j = some b → tp_r L K 1 0 (j + 1) b ∧ γ j = 1) ∧ (g j = none → γ j = 0)
def tp_aa (cy : Nat → ClassId) (L : List Nat) (K : Nat → tk_K) (n w : Nat) (e : va_E) : Prop := ∃ g : Nat → Option Nat, e = .inl (cy 6, n, .inr (.inr (.inr (.inr g)))) ∧ ∀ j : Nat, j < n → ∃ b, g j = some b ∧ tp_r L K 6 300 w b
/-- what a cell of a kind is -/
def tp_ok (cy : Nat → ClassId) (L : List Nat) (K : Nat → tk_K) (k n w : Nat) (γ : Nat → Int) (e : va_E) : Prop := match k with
  | 0 => tp_o_X L K n w γ e
  | 1 => tp_o_BOOK L K n w γ e
  | 2 => tp_gi cy (n) (γ) e
  | 3 => tp_o_ROWS L K n w γ e
  | 4 => tp_ai cy 4 (n) e
  | 5 => tp_aa cy L K (n) w e
  | 6 => tp_ai cy 6 (n) e
  | 7 => tp_o_TABLE L K n w γ e
  | 8 => tp_gi cy (n) (γ) e
  | 9 => tp_o_HTABLE L K n w γ e
  | 10 => tp_ai cy 10 (n) e
  | 11 => tp_ai cy 11 (n) e
  | 12 => tp_ab cy L K (n) (γ) e
  | 13 => tp_o_TEXTS L K n w γ e
  | 14 => tp_aq cy L K 5 18 (n) e
  | 15 => tp_o_PARSER L K n w γ e
  | 16 => tp_o_TOKENS L K n w γ e
  | 17 => tp_ai cy 17 (n) e
  | 18 => tp_o_TEXT L K n w γ e
  | 19 => tp_ai cy 19 (n) e
  | 20 => tp_ai cy 20 (n) e
  | 21 => tp_ai cy 21 (n) e
  | 22 => tp_o_SUMS L K n w γ e
  | 23 => tp_aj cy (n) e
  | 24 => tp_aj cy (n) e
  | 25 => tp_o_MAKER L K n w γ e
  | 26 => tp_ai cy 26 (n) e
  | 27 => tp_o_VIEW L K n w γ e
  | 28 => tp_az cy (n) e
  | 29 => tp_ai cy 29 (n) e
  | 30 => tp_ai cy 30 (n) e
  | 31 => tp_ai cy 31 (n) e
  | 32 => tp_ai cy 32 (n) e
  | 33 => tp_o_RESTS L K n w γ e
  | 34 => tp_aj cy (n) e
  | 35 => tp_ai cy 35 (n) e
  | 36 => tp_ai cy 36 (n) e
  | 37 => tp_ai cy 37 (n) e
  | 38 => tp_aj cy (n) e
  | 39 => tp_o_M L K n w γ e
  | 40 => tp_gi cy (n) (γ) e
  | 41 => tp_g8 cy (n) (γ) e
  | 42 => tp_gi cy (n) (γ) e
  | 43 => tp_gi cy (n) (γ) e
  | 44 => tp_gi cy (n) (γ) e
  | 45 => tp_gi cy (n) (γ) e
  | 46 => tp_gi cy (n) (γ) e
  | 47 => tp_gi cy (n) (γ) e
  | 48 => tp_gi cy (n) (γ) e
  | 49 => tp_gi cy (n) (γ) e
  | 50 => tp_gi cy (n) (γ) e
  | 51 => tp_gi cy (n) (γ) e
  | 52 => tp_gi cy (n) (γ) e
  | 53 => tp_ai cy 53 (n) e
  | 54 => tp_ai cy 54 (n) e
  | 55 => tp_ai cy 55 (n) e
  | 56 => tp_ai cy 56 (n) e
  | 57 => tp_aj cy (n) e
  | 58 => tp_aj cy (n) e
  | 59 => tp_gi cy (n) (γ) e
  | 60 => tp_gz cy (n) (γ) e
  | 61 => tp_gi cy (n) (γ) e
  | 62 => tp_aj cy (n) e
  | 63 => tp_aj cy (n) e
  | 64 => tp_aj cy (n) e
  | 65 => tp_az cy (n) e
  | 66 => tp_aj cy (n) e
  | 67 => tp_gi cy (n) (γ) e
  | 68 => tp_aj cy (n) e
  | 69 => tp_ai cy 69 (n) e
  | 70 => tp_gi cy (n) (γ) e
  | 71 => tp_gz cy (n) (γ) e
  | _ => True
def tk_t (k : Nat) : Bool := match k with
  | 1 => true
  | 2 => true
  | 3 => true
  | 7 => true
  | 8 => true
  | 12 => true
  | 39 => true
  | 40 => true
  | 41 => true
  | 42 => true
  | 43 => true
  | 44 => true
  | 45 => true
  | 46 => true
  | 47 => true
  | 48 => true
  | 49 => true
  | 50 => true
  | 51 => true
  | 52 => true
  | 59 => true
  | 60 => true
  | 61 => true
  | 67 => true
  | 70 => true
  | 71 => true
  | _ => false
def tp_I (cy : Nat → ClassId) (L : List Nat) (K : Nat → tk_K) (Γ : tk_G) (f : Nat → va_E) : Prop := ∀ a ∈ L, tp_ok cy L K (K a).1 (K a).2.1 (K a).2.2 (Γ (K a)) (f a)
/-- tracked kinds have one address each -/
def tp_U (L : List Nat) (K : Nat → tk_K) : Prop := ∀ a ∈ L, ∀ b ∈ L, K a = K b → tk_t (K a).1 = true → a = b
theorem tp_I.at {cy : Nat → ClassId} {L : List Nat} {K : Nat → tk_K} {Γ : tk_G} {f : Nat → va_E} {k n w a : Nat} (hI : tp_I cy L K Γ f) (h : tp_r L K k n w a) : tp_ok cy L K k n w (Γ (k, n, w)) (f a) := by
  have h1 := hI a h.1
  rw [h.2] at h1
  exact h1
theorem tp_I.set {cy : Nat → ClassId} {L : List Nat} {K : Nat → tk_K} {Γ : tk_G} {f : Nat → va_E} {k n w a : Nat} {e : va_E} (hI : tp_I cy L K Γ f) (h : tp_r L K k n w a) (he : tp_ok cy L K k n w (Γ (k, n, w)) e) : tp_I cy L K Γ (va_up f a e) := by
  intro b hb
  by_cases hba : b = a
  · subst hba
    rw [va_up_self, h.2]
    exact he
  · rw [va_up_ne _ _ hba]
    exact hI b hb
theorem tp_I.setG {cy : Nat → ClassId} {L : List Nat} {K : Nat → tk_K} {Γ : tk_G} {f : Nat → va_E} {k n w a : Nat} {γ : Nat → Int} {e : va_E} (hI : tp_I cy L K Γ f) (hU : tp_U L K) (ht : tk_t k = true) (h : tp_r L K k n w a) (he : tp_ok cy L K k n w γ e) : tp_I cy L K (tgc Γ (k, n, w) γ) (va_up f a e) := by
  intro b hb
  by_cases hba : b = a
  · subst hba
    rw [va_up_self, h.2, tgc_s]
    exact he
  · rw [va_up_ne _ _ hba, tgc_n (fun q => hba (hU b hb a h.1 (q.trans h.2.symm) (by rw [q]; exact ht)))]
    exact hI b hb
theorem tp_I.setg {cy : Nat → ClassId} {L : List Nat} {K : Nat → tk_K} {Γ : tk_G} {f : Nat → va_E} {k n w a j : Nat} {v : Int} {e : va_E} (hI : tp_I cy L K Γ f) (hU : tp_U L K) (ht : tk_t k = true) (h : tp_r L K k n w a) (he : tp_ok cy L K k n w (tgu (Γ (k, n, w)) j v) e) : tp_I cy L K (tg Γ (k, n, w) j v) (va_up f a e) := by
  rw [tg_c]
  exact tp_I.setG hI hU ht h he
theorem tp_fr {K : Nat → tk_K} {f g : Nat → va_E} {L : List Nat} {k n w a : Nat} {e : va_E} {ks : List Nat} (hf : ∀ b, (K b).1 ∉ ks → g b = f b) (h : tp_r L K k n w a) (hk : k ∈ ks) : ∀ b, (K b).1 ∉ ks → va_up g a e b = f b := by
  intro b hb
  rw [va_up_ne]
  · exact hf b hb
  · intro hba
    subst hba
    rw [h.2] at hb
    exact hb hk
theorem tp_fr2 {K : Nat → tk_K} {f g u : Nat → va_E} {ks ks2 : List Nat} (hf : ∀ b, (K b).1 ∉ ks → g b = f b) (hu : ∀ b, (K b).1 ∉ ks2 → u b = g b) (hk : ∀ k ∈ ks2, k ∈ ks) : ∀ b, (K b).1 ∉ ks → u b = f b := fun b hb => (hu b (fun h => hb (hk _ h))).trans (hf b hb)
theorem tp_un {L : List Nat} {K : Nat → tk_K} {f g : Nat → va_E} {k n w a : Nat} {ks : List Nat} (hf : ∀ b, (K b).1 ∉ ks → g b = f b) (h : tp_r L K k n w a) (hk : k ∉ ks) : g a = f a := hf a (by rw [h.2]; exact hk)
theorem tp_gi_upd {n i : Nat} {g : Nat → Int32} {γ : Nat → Int} {v : Int32} (h : ∀ j : Nat, j < n → (g j).toInt = γ j) : ∀ j : Nat, j < n → (upd g i v j).toInt = tgu γ i v.toInt j := by
  intro j hj
  by_cases e : j = i
  · rw [e, pk_us, tgu_s]
  · rw [pk_un e, tgu_n e]; exact h j hj
/-- a contract's start and end over the pool -/
def tp_P (D : va_G) (cy : Nat → ClassId) (L : List Nat) (K : Nat → tk_K) (Γ : tk_G) (f : Nat → va_E) (sz : Nat) (U : State) : Prop := U.heap.size = sz ∧ va_P D vwCl (va_pl L f) U.heap ∧ va_K D vwCl (tl_T cy) U ∧ L.Nodup ∧ tp_I cy L K Γ f ∧ tl_ok U ∧ tp_U L K
def tp_B (D : va_G) (cy : Nat → ClassId) (L : List Nat) (K : Nat → tk_K) (Γ : tk_G) (f : Nat → va_E) (ks : List Nat) (u : Nat → va_E) (t : State) : Prop := va_P D vwCl (va_pl L u) t.heap ∧ tp_I cy L K Γ u ∧ ∀ b, (K b).1 ∉ ks → u b = f b
theorem tp_P.blind {D : va_G} {cy : Nat → ClassId} {L : List Nat} {K : Nat → tk_K} {Γ : tk_G} {f : Nat → va_E} {sz : Nat} {As : List Value} : FrameBlind (va_Pc As (tp_P D cy L K Γ f sz)) := by
  intro a U g mk q
  obtain ⟨q0, q1, qP, qK, qD, qI, qN, qU⟩ := q
  exact ⟨q0, q1, qP, va_K.moved (u := U) (U := U.calling g mk a) (Vm.Alike.refl U.vm) qK, qD, qI, tl_ok.same (u := U) (U := U.calling g mk a) rfl qN, qU⟩
theorem tp_P.pre {D : va_G} {cy : Nat → ClassId} {L : List Nat} {K : Nat → tk_K} {Γ : tk_G} {f : Nat → va_E} {As : List Value} {s : State} {H : Heap} (hK : va_K D vwCl (tl_T cy) s) (hN : tl_ok s) (hL : L.Nodup) (hU : tp_U L K) (hI : tp_I cy L K Γ f) (hP : va_P D vwCl (va_pl L f) H) : PreS s H (va_Pc As (tp_P D cy L K Γ f H.size)) As :=
  ⟨tp_P.blind, fun U hU9 hW => ⟨rfl, by rw [hU9], by rw [hU9]; exact hP, va_K.moved hW.alike hK, hL, hI, tl_ok.warm hW hN, hU⟩⟩
theorem tp_recv {D : va_G} {cy : Nat → ClassId} {L : List Nat} {f : Nat → va_E} {s : State} {H : Heap} {a ci : Nat} {q : vw_C} {fs : List Value} (hK : va_K D vwCl (tl_T cy) s) (hP : va_P D vwCl (va_pl L f) H) (ha : a ∈ L) (hf : f a = .inr (ci, fs)) (hc : vwCl[ci]? = some q) : ∃ cell : Cell, H[a]? = some cell ∧ cell.vm.isStatics = false ∧ s.vm.findClass q.1 = some cell.cls := by
  obtain ⟨q0, h0⟩ := tp_at (f := f) ha
  rw [hf] at h0
  exact va_recv hK hP hc h0

theorem tp_pin {i : Int32} {n : Nat} (h : vp_in i n) : i.toNatClampNeg < n := Nat.not_le.mp fun q => h (Or.inr q)
theorem tp_pi_upd {k n i : Nat} {g : Nat → Int32} {v : Int32} (h : ∀ j : Nat, j < n → tp_pi k (g j)) (hv : tp_pi k v) : ∀ j : Nat, j < n → tp_pi k (upd g i v j) := by
  intro j hj
  by_cases e : j = i
  · rw [e, pk_us]; exact hv
  · rw [pk_un e]; exact h j hj
theorem tp_gi_cpy {n : Nat} {g g2 : Nat → Int32} {γ : Nat → Int} (h : ∀ j : Nat, j < n → (g j).toInt = γ j) : ∀ j : Nat, j < n → (va_cpy g g2 0 0 n j).toInt = γ j := by
  intro j hj
  have e : va_cpy g g2 0 0 n j = g j := by
    unfold va_cpy
    rw [if_pos ⟨Nat.zero_le _, by omega⟩]
    congr 1; omega
  rw [e]; exact h j hj
theorem tp_pi_cpy {k n : Nat} {g g2 : Nat → Int32} (h : ∀ j : Nat, j < n → tp_pi k (g j)) (h2 : ∀ j : Nat, j < n → tp_pi k (g2 j)) : ∀ j : Nat, j < n → tp_pi k (va_cpy g g2 0 0 n j) := by
  intro j hj
  have e : va_cpy g g2 0 0 n j = g j := by
    unfold va_cpy
    rw [if_pos ⟨Nat.zero_le _, by omega⟩]
    congr 1; omega
  rw [e]; exact h j hj
/-- a count that goes up as long as it is below a bound; the place that is given -/
def tm_up (m x : Int) : Int := if x < m then x + 1 else x
def tm_at (m x : Int) : Int := if x < m then x else -1
theorem tm_up_lt {m x : Int} (h : x < m) : tm_up m x = x + 1 := if_pos h
theorem tm_up_ge {m x : Int} (h : m ≤ x) : tm_up m x = x := if_neg (by omega)
theorem tm_at_lt {m x : Int} (h : x < m) : tm_at m x = x := if_pos h
theorem tm_at_ge {m x : Int} (h : m ≤ x) : tm_at m x = -1 := if_neg (by omega)
/-- another four in a table -/
def tm_row (γ : Nat → Int) (x : Int) (a b c d : Int) : Nat → Int := fun i => if i = (4 * x + 3).toNat then d else if i = (4 * x + 2).toNat then c else if i = (4 * x + 1).toNat then b else if i = (4 * x + 0).toNat then a else γ i
def tm_add (Γ : tk_G) (κ κc : tk_K) (m : Int) (a b c d : Int) : tk_G := if Γ κ 0 < m then tgc (tg Γ κ 0 (Γ κ 0 + 1)) κc (tm_row (Γ κc) (Γ κ 0) a b c d) else Γ
theorem tm_add_eq {Γ : tk_G} {κ κc : tk_K} {m x z a b c d : Int} (hne : ¬ κc = κ) (hx : Γ κ 0 = x) (hm : x < m) (hz : z = x + 1) : tg (tg (tg (tg (tg Γ κ 0 z) κc (4 * x + 0).toNat a) κc (4 * x + 1).toNat b) κc (4 * x + 2).toNat c) κc (4 * x + 3).toNat d = tm_add Γ κ κc m a b c d := by
  unfold tm_add
  rw [hx, if_pos hm, hz]
  funext κ2 i
  unfold tgc
  by_cases h : κ2 = κc
  · subst h
    rw [if_pos rfl]
    unfold tm_row
    unfold tg
    simp only [true_and, hne, false_and, if_false]
  · rw [if_neg h]
    unfold tg
    simp only [h, false_and, if_false]
def tm_c1 (Γ : tk_G) (w w2 : Nat) : tk_G := tg Γ (1, 0, w) 0 (Γ (1, 0, w2) 0)
def tm_c2 (Γ : tk_G) (w w2 : Nat) : tk_G := tgc Γ (2, 4, w) (Γ (2, 4, w2))
def tm_c3 (Γ : tk_G) (w w2 : Nat) : tk_G := tg Γ (3, 0, w) 0 (Γ (3, 0, w2) 0)
def tm_cT (Γ : tk_G) (n w w2 : Nat) : tk_G := tgc (tg Γ (7, n, w) 0 (Γ (7, n, w2) 0)) (8, 4 * n, w) (Γ (8, 4 * n, w2))
def tm_copy (Γ : tk_G) (w w2 : Nat) : tk_G := tm_cT (tm_cT (tm_cT (tm_c3 (tm_c2 (tm_c1 Γ w w2) w w2) w w2) 40 w w2) 60 w w2) 10 w w2
theorem tg_id {Γ : tk_G} {κ : tk_K} {j : Nat} {v : Int} (h : v = Γ κ j) : tg Γ κ j v = Γ := by
  funext κ2 i
  unfold tg
  by_cases h2 : κ2 = κ ∧ i = j
  · rw [if_pos h2, h2.1, h2.2]; exact h
  · rw [if_neg h2]
section TQ
variable {p : Program} {l : Launch} {e : Env} {R : Room} {s : State} {m : MethodId} {args : Array Value} {below : List Frame} {meth : Method} {c : Code} {H : Heap} {locs : List Loc} {cells slots : Nat} {Q : State → Prop}
variable {cc : ByteArray} {pc : Nat} {ls : Array Slot} {rest st0 As : List Value} {D : va_G} {A : Nat → Prop} {a b : Nat} {H0 : Heap} {cy : Nat → ClassId} {L : List Nat} {K : Nat → tk_K} {f : Nat → va_E} {Γ : tk_G}
variable {own C host : String} {idx i nL maxL n mc ms : Nat} {y : MethodName} {bytes : ByteArray} {ret : Option FieldType} {rm : Room} {Qc : Array Value → State → Outcome → State → Prop} {free : Addr → Prop} {B : State → Prop}
theorem tq_rS (S : CallFix p m c cc nL s args tl_L own) (hp : PreS s H (va_Pc As B) As) (k : tl_kS own idx y bytes maxL ret n) (hM : Met l y (tl_w y bytes maxL ret) rm (va_Pc As B) Qc mc ms free) (hrc : rm.cells = mc) (hrs : rm.slots = ms) (hR : rm.frames + 1 ≤ R.frames ∧ 8 + (maxL + 11) + rm.locals ≤ R.locals)
    (hn : As.length = n) (hsize : ls.size = nL) (hstack : st0 = As.reverse ++ rest) (hW : (rest.map fun v => v.category).sum ≤ 8) (hdg : decode cc pc = .ok (.invokestatic idx, 3)) (hf : cells + mc ≤ R.cells ∧ slots + ms ≤ R.slots) :
    va_Run p l e R s m args below meth c H locs cells slots mc ms (F0 m pc ls st0) rest (Qc As.toArray) free :=
  va_runS S hM ⟨tl_cb S.2.2.2.2 k.1 k.2.1 k.2.2.2.1 k.2.2.2.2 hrc hrs hR, S.2.2.2.2 _ k.2.2.1⟩ hp rfl hn hsize hstack (lv_room hW) hdg hf
theorem tq_rV (S : CallFix p m c cc nL s args tl_L own) (hp : PreS s H (va_Pc (.ref b :: As) B) (.ref b :: As)) (hrecv : ∃ cell : Cell, H[b]? = some cell ∧ cell.vm.isStatics = false ∧ s.vm.findClass C = some cell.cls) (k : tl_kV own idx C y bytes maxL ret n) (hM : Met l y (tl_w y bytes maxL ret) rm (va_Pc (.ref b :: As) B) Qc mc ms free) (hrc : rm.cells = mc) (hrs : rm.slots = ms) (hR : rm.frames + 1 ≤ R.frames ∧ 8 + (maxL + 11) + rm.locals ≤ R.locals)
    (hn : As.length = n) (hsize : ls.size = nL) (hstack : st0 = As.reverse ++ .ref b :: rest) (hW : (rest.map fun v => v.category).sum ≤ 8) (hdg : decode cc pc = .ok (.invokevirtual idx, 3)) (hf : cells + mc ≤ R.cells ∧ slots + ms ≤ R.slots) :
    va_Run p l e R s m args below meth c H locs cells slots mc ms (F0 m pc ls st0) rest (Qc (Value.ref b :: As).toArray) free :=
  va_runV S hM ⟨tl_cb S.2.2.2.2 k.1 k.2.1 k.2.2.2.2.1 k.2.2.2.2.2 hrc hrs hR, S.2.2.2.2 _ k.2.2.1, S.2.2.2.2 _ k.2.2.2.1⟩ ⟨hp.1, hrecv, hp.2⟩ rfl hn hsize hstack (lv_room hW) hdg hf
theorem tq_rVN (hN : tl_ok s) (S : CallFix p m c cc nL s args tl_L own) (hp : PreS s H (va_Pc (.ref b :: As) B) (.ref b :: As)) (hrecv : ∃ cell : Cell, H[b]? = some cell ∧ cell.vm.isStatics = false ∧ s.vm.findClass C = some cell.cls) (k : tl_kVN own idx C y host bytes maxL ret n i) (hM : Met l y (tl_w y bytes maxL ret) rm (va_Pc (.ref b :: As) B) Qc mc ms free) (hrc : rm.cells = mc) (hrs : rm.slots = ms) (hR : rm.frames + 1 ≤ R.frames ∧ 8 + (maxL + 11) + rm.locals ≤ R.locals)
    (hn : As.length = n) (hsize : ls.size = nL) (hstack : st0 = As.reverse ++ .ref b :: rest) (hW : (rest.map fun v => v.category).sum ≤ 8) (hdg : decode cc pc = .ok (.invokevirtual idx, 3)) (hf : cells + mc ≤ R.cells ∧ slots + ms ≤ R.slots) :
    va_Run p l e R s m args below meth c H locs cells slots mc ms (F0 m pc ls st0) rest (Qc (Value.ref b :: As).toArray) free :=
  va_runVN (host := host) S hM ⟨tl_cn S.2.2.2.2 hN k.1 k.2.1 k.2.2.2.2.1 k.2.2.2.2.2 hrc hrs hR, S.2.2.2.2 _ k.2.2.1, S.2.2.2.2 _ k.2.2.2.1⟩ ⟨hp.1, hrecv, hp.2⟩ rfl hn hsize hstack (lv_room hW) hdg hf
theorem tq_rSN (hN : tl_ok s) (S : CallFix p m c cc nL s args tl_L own) (hp : PreS s H (va_Pc As B) As) (k : tl_kSN own idx y host bytes maxL ret n i) (hM : Met l y (tl_w y bytes maxL ret) rm (va_Pc As B) Qc mc ms free) (hrc : rm.cells = mc) (hrs : rm.slots = ms) (hR : rm.frames + 1 ≤ R.frames ∧ 8 + (maxL + 11) + rm.locals ≤ R.locals)
    (hn : As.length = n) (hsize : ls.size = nL) (hstack : st0 = As.reverse ++ rest) (hW : (rest.map fun v => v.category).sum ≤ 8) (hdg : decode cc pc = .ok (.invokestatic idx, 3)) (hf : cells + mc ≤ R.cells ∧ slots + ms ≤ R.slots) :
    va_Run p l e R s m args below meth c H locs cells slots mc ms (F0 m pc ls st0) rest (Qc As.toArray) free :=
  va_runSN (host := host) S hM ⟨tl_cn S.2.2.2.2 hN k.1 k.2.1 k.2.2.2.1 k.2.2.2.2 hrc hrs hR, S.2.2.2.2 _ k.2.2.1, trivial⟩ hp rfl hn hsize hstack (lv_room hW) hdg hf
theorem tp_copyi (hexec : p.tables.exec = Jvm.exec) (hb : c.code = cc) (hml : c.maxLocals = ls.size) {index : Nat} (hown : s.vm.findClass own = some m.cls) (hlink : (Cond.methodLink own index arraycopyName).before args s = true) (hnat : (Cond.native arraycopyName).before args s = true) (hstat : (Cond.static arraycopyName).before args s = true) (hini : (Cond.initialized "java/lang/System").before args s = true) (hK : va_K D vwCl (tl_T cy) s) (hP : va_P D vwCl (va_pl L f) H) (hD : va_D A (va_pl L f)) (hS : va_S A H0 H locs) (ha : a ∈ L) (hab : b ∈ L) {N : Nat} {g g2 : Nat → Int32} (hf : f a = .inl (cy 0, N, .inl g)) (hf2 : f b = .inl (cy 0, N, .inl g2)) {k : Int32} (hk : k.toInt = N) (hframes : 1 ≤ R.frames) (hlocals : (rest.map fun v => v.category).sum + (nativeFrameWords "java/lang/System" "arraycopy" 5 + 11) ≤ R.locals) (hdg : decode cc pc = .ok (.invokestatic index, 3))
    (kk : ∀ (H1 : Heap) (locs1 : List Loc), va_P D vwCl (va_pl L (va_up f b (.inl (cy 0, N, .inl (va_cpy g g2 0 0 N))))) H1 → va_D A (va_pl L (va_up f b (.inl (cy 0, N, .inl (va_cpy g g2 0 0 N))))) → va_S A H0 H1 locs1 → W p l e R s m args below meth c H1 locs1 cells slots Q (F0 m (pc + 3) ls rest)) : W p l e R s m args below meth c H locs cells slots Q (F0 m pc ls (.int k :: .int 0 :: .ref b :: .int 0 :: .ref a :: rest)) := by
  have e1 : k.toNatClampNeg = N := by
    have h9 : k.toNatClampNeg = k.toInt.toNat := rfl
    omega
  have e0 : (0 : Int32).toNatClampNeg = 0 := rfl
  obtain ⟨q0, h0⟩ := tp_at (f := f) ha
  obtain ⟨q1, h1⟩ := tp_at (f := f) hab
  have hs := tp_set (e := .inl (cy 0, N, .inl (va_cpy g g2 0 0 N))) hD hab h1
  rw [hf] at h0
  rw [hf2] at h1
  have hneg : ¬ k < 0 := fun q => by
    have h9 : k.toInt < (0 : Int32).toInt := tl_lt q
    have h8 : (0 : Int32).toInt = 0 := rfl
    omega
  refine va_copyi hexec hb hml hown hlink hnat hstat hini hK hP hD hS q0 q1 0 0 h0 h1 rfl rfl rfl (by decide) (by decide) hneg (by rw [e1, e0]; omega) (by rw [e1, e0]; omega) (fun _ _ => rfl) hframes hlocals hdg (fun H1 locs1 hP1 hD1 hS1 => ?_)
  rw [e1, e0, hs] at hP1 hD1
  exact kk H1 locs1 hP1 hD1 hS1
theorem tq_start (hP : va_P D vwCl (va_pl L f) H) (hS : va_S A H0 H locs) {g : JFrame} (kk : ∀ (H : Heap) (locs : List Loc), va_P D vwCl (va_pl L f) H → va_S A H0 H locs → W p l e R s m args below meth c H locs cells slots Q g) : W p l e R s m args below meth c H locs cells slots Q g := kk H locs hP hS
theorem tq_ci {post : Int32 → (Nat → va_E) → Prop} {ks : List Nat} {a : Array Value} (hS : va_S A H0 H locs) (hF : ∀ q, tp_A L H.size q → A q)
    (hr : va_Run p l e R s m args below meth c H locs cells slots mc ms (F0 m pc ls st0) rest (va_Qi post (tp_B D cy L K Γ f ks) (tp_A L H.size) a) (tp_A L H.size))
    (kk : ∀ (r : Int32) (u : Nat → va_E) (H1 : Heap) (locs1 : List Loc), post r u → va_P D vwCl (va_pl L u) H1 → tp_I cy L K Γ u → (∀ b, (K b).1 ∉ ks → u b = f b) → va_S A H0 H1 locs1 → W p l e R s m args below meth c H1 locs1 (cells + mc) (slots + ms) Q (F0 m (pc + 3) ls (.int r :: rest))) : W p l e R s m args below meth c H locs cells slots Q (F0 m pc ls st0) := by
  refine va_calli hr hS (fun q _ h => hF q h) hF (fun r u t H1 locs1 ht hvm hw hB hz1 hk1 hS1 => ?_)
  obtain ⟨h1, h2, h3⟩ := hB
  rw [ht] at h1
  exact kk r u H1 locs1 hw h1 h2 h3 hS1
theorem tq_cl {post : Int64 → (Nat → va_E) → Prop} {ks : List Nat} {a : Array Value} (hS : va_S A H0 H locs) (hF : ∀ q, tp_A L H.size q → A q)
    (hr : va_Run p l e R s m args below meth c H locs cells slots mc ms (F0 m pc ls st0) rest (va_Ql post (tp_B D cy L K Γ f ks) (tp_A L H.size) a) (tp_A L H.size))
    (kk : ∀ (r : Int64) (u : Nat → va_E) (H1 : Heap) (locs1 : List Loc), post r u → va_P D vwCl (va_pl L u) H1 → tp_I cy L K Γ u → (∀ b, (K b).1 ∉ ks → u b = f b) → va_S A H0 H1 locs1 → W p l e R s m args below meth c H1 locs1 (cells + mc) (slots + ms) Q (F0 m (pc + 3) ls (.long r :: rest))) : W p l e R s m args below meth c H locs cells slots Q (F0 m pc ls st0) := by
  refine va_calll hr hS (fun q _ h => hF q h) hF (fun r u t H1 locs1 ht hvm hw hB hz1 hk1 hS1 => ?_)
  obtain ⟨h1, h2, h3⟩ := hB
  rw [ht] at h1
  exact kk r u H1 locs1 hw h1 h2 h3 hS1
theorem tq_cv {post : (Nat → va_E) → Prop} {ks : List Nat} {a : Array Value} (hS : va_S A H0 H locs) (hF : ∀ q, tp_A L H.size q → A q)
    (hr : va_Run p l e R s m args below meth c H locs cells slots mc ms (F0 m pc ls st0) rest (va_Qv post (tp_B D cy L K Γ f ks) (tp_A L H.size) a) (tp_A L H.size))
    (kk : ∀ (u : Nat → va_E) (H1 : Heap) (locs1 : List Loc), post u → va_P D vwCl (va_pl L u) H1 → tp_I cy L K Γ u → (∀ b, (K b).1 ∉ ks → u b = f b) → va_S A H0 H1 locs1 → W p l e R s m args below meth c H1 locs1 (cells + mc) (slots + ms) Q (F0 m (pc + 3) ls rest)) : W p l e R s m args below meth c H locs cells slots Q (F0 m pc ls st0) := by
  refine va_callv hr hS (fun q _ h => hF q h) hF (fun u t H1 locs1 ht hvm hw hB hz1 hk1 hS1 => ?_)
  obtain ⟨h1, h2, h3⟩ := hB
  rw [ht] at h1
  exact kk u H1 locs1 hw h1 h2 h3 hS1
end TQ
