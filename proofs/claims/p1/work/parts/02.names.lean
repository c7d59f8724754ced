/-! ===== BEGIN words of one list among another's, by their places ===== -/
theorem goodIn_r {big : List Cond} (ws : List Cond) (ps : List Nat) (hp : ws = ps.filterMap (fun i => big[i]?)) (h : ws.all goodWord = true) : GoodIn big ws := by
  intro w hw
  have h1 := List.all_eq_true.mp h w hw
  rw [hp] at hw
  obtain ⟨i, -, hi⟩ := List.mem_filterMap.mp hw
  have hm : w ∈ big := by first | exact List.mem_of_getElem? hi | exact List.getElem?_mem hi
  exact ⟨hm, good_of_word h1⟩
theorem goodIn_app {big a b : List Cond} (ha : GoodIn big a) (hb : GoodIn big b) : GoodIn big (a ++ b) := fun w h => (List.mem_append.mp h).elim (ha w) (hb w)
theorem goodIn_ca {big a b : List Cond} {c : Cond} (ha : GoodIn big (c :: a)) (hb : GoodIn big b) : GoodIn big (c :: (a ++ b)) := fun w h => (List.mem_cons.mp h).elim (fun e => ha w (List.mem_cons.mpr (Or.inl e))) (fun h => (List.mem_append.mp h).elim (fun h => ha w (List.mem_cons.mpr (Or.inr h))) (hb w))
theorem goodIn_sub {big ws : List Cond} (hm : ∀ w ∈ ws, w ∈ big) (h : ws.all goodWord = true) : GoodIn big ws := fun w hw => ⟨hm w hw, good_of_word (List.all_eq_true.mp h w hw)⟩
/-! ===== END ===== -/


def va_AOA (t : FieldType) (U : State) : Prop := (Cond.arrayOver (.array t)).before #[] U = true
theorem va_AOA.use {t : FieldType} {A : Array Value} {U : State} (h : va_AOA t U) : (Cond.arrayOver (.array t)).before A U = true := h
theorem va_AOA.of {t : FieldType} {A : Array Value} {U : State} (h : (Cond.arrayOver (.array t)).before A U = true) : va_AOA t U := h
theorem va_AOA.moved {t : FieldType} {u U : State} (hvm : u.vm.Alike U.vm) (h : va_AOA t u) : va_AOA t U := by
  obtain ⟨comp, c, k, h1, h2, h3, h4, h5⟩ := Cond.arrayOver_spec h
  obtain ⟨k', hk', he⟩ := hvm.2.2 _ _ h3
  have hi : (U.vm.classes.findIdx? fun (x : Class) => match x.kind with | .array component _ => component == comp | _ => false) = some c := by
    rw [← va_idx_bare]
    first | rw [hvm.bare_eq] | rw [← hvm.bare_eq]
    rw [va_idx_bare]
    exact h2
  have hkind : k'.kind = .array comp (.array t) := by rw [he]; exact h4
  have f1 := h1
  have f2 := h5
  rw [← hvm.findClass] at f1 f2
  unfold va_AOA Cond.before Cond.holds
  simp only [Cond.value]
  rw [f1, Option.bind_some]
  refine (congrArg (fun o : Option Nat => (o.bind (fun c => (U.vm.classes[c]?).map fun (k : Class) => match k.kind with | .array _ ty => decide (ty = FieldType.array t) && decide (U.vm.findClass ("[" ++ (FieldType.array t).toString) = some c) | _ => false) == some true)) hi).trans ?_
  simp [hk', hkind, f2]

/-! ===== BEGIN new T[n][m]: the outer array a place, the inner ones among the pooled ===== -/
/-- f, but v at every address of l -/
def vr_up {α : Type} (f : Nat → α) (l : List Nat) (v : α) : Nat → α := fun a => if a ∈ l then v else f a
theorem vr_up_in {α : Type} {f : Nat → α} {l : List Nat} {v : α} {a : Nat} (h : a ∈ l) : vr_up f l v a = v := if_pos h
theorem vr_up_ne {α : Type} {f : Nat → α} {l : List Nat} {v : α} {a : Nat} (h : a ∉ l) : vr_up f l v a = f a := if_neg h
theorem vr_rows {L l : List Nat} {f : Nat → va_E} {e : va_E} (h : ∀ a, a ∈ l → a ∉ L) : va_pl L f ++ l.map (fun a => (a, e)) = va_pl (L ++ l) (vr_up f l e) := by
  unfold va_pl
  rw [List.map_append]
  congr 1
  · apply List.map_congr_left
    intro a ha
    rw [vr_up_ne (fun q => h a q ha)]
  · apply List.map_congr_left
    intro a ha
    rw [vr_up_in ha]
theorem vr_lay {X rows : va_W} {x : Nat × va_E} {pl : va_W} {D : va_G} {cl : List vw_C} {H : Heap} (hP : va_P D cl (((X ++ pl) ++ [x]) ++ rows) H) : va_P D cl ((X ++ [x]) ++ (pl ++ rows)) H := by
  rw [List.append_assoc (X ++ pl)] at hP
  have h := va_P.swap hP
  rw [← List.append_assoc X] at h
  have h2 := va_P.swap h
  rw [List.append_assoc (X ++ [x])] at h2
  exact h2
theorem vr_layD {X rows : va_W} {x : Nat × va_E} {pl : va_W} {A : Nat → Prop} (hD : va_D A (((X ++ pl) ++ [x]) ++ rows)) : va_D A ((X ++ [x]) ++ (pl ++ rows)) := by
  rw [List.append_assoc (X ++ pl)] at hD
  have h := va_D.swap hD
  rw [← List.append_assoc X] at h
  have h2 := va_D.swap h
  rw [List.append_assoc (X ++ [x])] at h2
  exact h2
theorem vr_outer (c : ClassId) (N h0 : Nat) : ∀ i : Nat, Jvm.Free.Multi.outerC c N h0 i = arrV c N (fun j => va_rf (if j < i then some (h0 + 1 + j) else none))
  | 0 => by
    show ({ cls := c, slots := Array.replicate N .null, vm := .none } : Cell) = _
    rw [arrV_new]
    refine congrArg (arrV c N) (funext fun j => ?_)
    simp [va_rf]
  | i + 1 => by
    show (Jvm.Free.Multi.outerC c N h0 i).setSlot i (.ref (h0 + 1 + i)) = _
    rw [vr_outer c N h0 i, arrV_store]
    refine congrArg (arrV c N) (funext fun j => ?_)
    by_cases e : j = i
    · subst e
      simp [updV, va_rf]
    · by_cases h : j < i
      · simp [updV, e, h, Nat.lt_succ_of_lt h]
      · simp [updV, e, h, show ¬ j < i + 1 by omega]
section VGM
variable {p : Program} {l : Launch} {e : Env} {R : Room} {s : State} {m : MethodId} {args : Array Value} {below : List Frame} {meth : Method} {c : Code} {H : Heap} {locs : List Loc} {cells slots : Nat} {Q : State → Prop}
variable {cc : ByteArray} {pc : Nat} {ls : Array Slot} {rest : List Value} {D : va_G} {cl : List vw_C} {A : Nat → Prop} {a : Nat} {tys : List (ClassId × FieldType)} {ws : va_W} {H0 : Heap}
theorem va_mna {X : va_W} {L : List Nat} {f : Nat → va_E} {cc : ByteArray} (hexec : p.tables.exec = Jvm.exec) (hb : c.code = cc) {own : String} {index : Nat} {ty : FieldType} {cy : ClassId} (hown : s.vm.findClass own = some m.cls) (hclink : (Cond.classLink own index ("[" ++ (FieldType.array ty).toString)).before args s = true) (hover : va_AOA ty s) (harr : (Cond.arrayClass ty).before args s = true) (hcy : s.vm.findClass (FieldType.array ty).toString = some cy)
    (hK : va_K D cl tys s) (hP : va_P D cl (X ++ va_pl L f) H) (hD : va_D A (X ++ va_pl L f)) (hS : va_S A H0 H locs) (hA : ∀ q, H0.size ≤ q → A q) {n k : Int32} {N' K' : Nat} {z : vp_A} (hn : ¬ n < 0) (hk : ¬ k < 0) (hN : n.toNatClampNeg = N') (hM : k.toNatClampNeg = K')
    (hb1 : N' * 4 ≤ 536870912) (hb2 : K' * componentBytes ty ≤ 536870912) (hb3 : K' ≤ 536870912) (hdf : fits ty (defaultValue ty) = true) (hdd : (defaultValue ty).isDefault = true) (hcells : cells + (1 + N') ≤ R.cells) (hslots : slots + (N' + N' * K') ≤ R.slots) (hz : ∀ c : ClassId, Jvm.Free.Multi.innerC c K' (defaultValue ty) = vp_cell c z) (hdg : decode cc pc = .ok (.multianewarray index 2, 4))
    (kk : ∀ (q : Nat) (r : Nat → Nat) (cA : ClassId) (H1 : Heap), (∀ i j : Nat, i < N' → j < N' → r i = r j → i = j) → (∀ i : Nat, i < N' → r i ∉ L) → va_K D cl (tys ++ [(cA, .array ty)]) s →
      va_P D cl ((X ++ [(q, .inl (cA, N', .inr (.inr (.inr (.inr (fun i => if i < N' then some (r i) else none))))))]) ++ va_pl (L ++ (List.range N').map r) (vr_up f ((List.range N').map r) (.inl (cy, z)))) H1 → va_D A ((X ++ [(q, .inl (cA, N', .inr (.inr (.inr (.inr (fun i => if i < N' then some (r i) else none))))))]) ++ va_pl (L ++ (List.range N').map r) (vr_up f ((List.range N').map r) (.inl (cy, z)))) → va_S A H0 H1 locs →
      W p l e R s m args below meth c H1 locs (cells + 1 + N') (slots + N' + N' * K') Q (F0 m (pc + 4) ls (.ref q :: rest))) : W p l e R s m args below meth c H locs cells slots Q (F0 m pc ls (.int k :: .int n :: rest)) := by
  subst hN
  subst hM
  intro T hT Xs
  obtain ⟨vm₁, cA, comp, -, fA, fC, hO, -, X', step⟩ := Xs.multianewarray2F hexec hown hclink (va_AOA.use hover) harr (g := F0 m pc ls (.int k :: .int n :: rest)) rfl (by rw [hb]; exact hdg) rfl hn hk hb1 hb2 hb3 hdf hdd hcells hslots
  have ec : some cy = some comp := hcy.symm.trans fC
  cases ec
  generalize hF : Jvm.Free.Multi.fill (T.setVm vm₁) cA cy n.toNatClampNeg k.toNatClampNeg (defaultValue ty) n.toNatClampNeg = F at X' step
  have hTh : (T.setVm vm₁).heap = H := hT
  obtain ⟨f1, f2, -, -⟩ := Jvm.Free.Multi.fill_facts (T.setVm vm₁) cA cy n.toNatClampNeg k.toNatClampNeg (defaultValue ty) n.toNatClampNeg
  rw [hF, hTh] at f1 f2
  have hold : ∀ x : Nat, x < H.size → F.heap[x]? = H[x]? := fun x hx => by
    have := Jvm.Free.Multi.fill_old (T.setVm vm₁) cA cy n.toNatClampNeg k.toNatClampNeg (defaultValue ty) (a := x) (by rw [hTh]; exact hx) n.toNatClampNeg
    rw [hF, hTh] at this
    exact this
  have hrow : ∀ j : Nat, j < n.toNatClampNeg → F.heap[H.size + 1 + j]? = some (vp_cell cy z) := fun j hj => by
    have := Jvm.Free.Multi.fill_inner (T.setVm vm₁) cA cy n.toNatClampNeg k.toNatClampNeg (defaultValue ty) n.toNatClampNeg j hj
    rw [hF, hTh, hz] at this
    exact this
  have hout : Jvm.Free.Multi.outerC cA n.toNatClampNeg H.size n.toNatClampNeg = vp_cell cA (n.toNatClampNeg, .inr (.inr (.inr (.inr (fun i => if i < n.toNatClampNeg then some (H.size + 1 + i) else none))))) := by
    rw [vp_cell_q]
    exact vr_outer cA n.toNatClampNeg H.size n.toNatClampNeg
  rw [hout] at f2
  have hlt : ∀ a, a ∈ L → a < H.size := fun a ha => by
    obtain ⟨k9, hk9⟩ := va_pl_get (X := X) (f := f) ha
    exact (hP k9 _ hk9).lt
  have hnl : ∀ i : Nat, i < n.toNatClampNeg → H.size + 1 + i ∉ L := fun i _ h => by
    have := hlt _ h
    omega
  have hnm : ∀ a, a ∈ (List.range n.toNatClampNeg).map (fun i => H.size + 1 + i) → a ∉ L := fun a ha h => by
    obtain ⟨i, -, rfl⟩ := List.mem_map.mp ha
    have := hlt _ h
    omega
  have hP0 : va_P D cl (X ++ va_pl L f) F.heap := hP.kept (fun k9 x hx => hold x.1 ((hP k9 x hx).lt))
  have hP1 : va_P D cl ((X ++ va_pl L f) ++ [(H.size, .inl (cA, n.toNatClampNeg, .inr (.inr (.inr (.inr (fun i => if i < n.toNatClampNeg then some (H.size + 1 + i) else none))))))]) F.heap := hP0.app (fun k9 x hx => by
    have h0 : k9 < 1 := (List.getElem?_eq_some_iff.mp hx).1
    rw [show k9 = 0 by omega] at hx
    cases hx
    exact f2)
  have hP2 : va_P D cl (((X ++ va_pl L f) ++ [(H.size, .inl (cA, n.toNatClampNeg, .inr (.inr (.inr (.inr (fun i => if i < n.toNatClampNeg then some (H.size + 1 + i) else none))))))]) ++ ((List.range n.toNatClampNeg).map (fun i => H.size + 1 + i)).map (fun a => (a, .inl (cy, z)))) F.heap := hP1.app (fun k9 x hx => by
    obtain ⟨a, ha, rfl⟩ := List.mem_map.mp (List.mem_of_getElem? hx)
    obtain ⟨i, hi, rfl⟩ := List.mem_map.mp ha
    exact hrow i (List.mem_range.mp hi))
  have hD2 : va_D A (((X ++ va_pl L f) ++ [(H.size, .inl (cA, n.toNatClampNeg, .inr (.inr (.inr (.inr (fun i => if i < n.toNatClampNeg then some (H.size + 1 + i) else none))))))]) ++ ((List.range n.toNatClampNeg).map (fun i => H.size + 1 + i)).map (fun a => (a, .inl (cy, z)))) := by
    have hD1 := hD.push (e := .inl (cA, n.toNatClampNeg, .inr (.inr (.inr (.inr (fun i => if i < n.toNatClampNeg then some (H.size + 1 + i) else none)))))) hP rfl (hA _ hS.1)
    generalize hW1 : (X ++ va_pl L f) ++ [(H.size, .inl (cA, n.toNatClampNeg, .inr (.inr (.inr (.inr (fun i => if i < n.toNatClampNeg then some (H.size + 1 + i) else none))))))] = W1 at hD1 hP1 ⊢
    have hle : ∀ (k9 : Nat) (x : Nat × va_E), W1[k9]? = some x → x.1 ≤ H.size := fun k9 x hx => by
      rw [← hW1] at hx
      by_cases hl : k9 < (X ++ va_pl L f).length
      · rw [List.getElem?_append_left hl] at hx
        exact Nat.le_of_lt ((hP k9 x hx).lt)
      · rw [List.getElem?_append_right (by omega)] at hx
        have h0 : k9 - (X ++ va_pl L f).length < 1 := (List.getElem?_eq_some_iff.mp hx).1
        rw [show k9 - (X ++ va_pl L f).length = 0 by omega] at hx
        cases hx
        exact Nat.le_refl _
    have hr : ∀ (k9 : Nat) (x : Nat × va_E), (((List.range n.toNatClampNeg).map (fun i => H.size + 1 + i)).map (fun a => ((a, .inl (cy, z)) : Nat × va_E)))[k9]? = some x → x.1 = H.size + 1 + k9 := fun k9 x hx => by
      rw [List.getElem?_map, List.getElem?_map] at hx
      by_cases h9 : k9 < n.toNatClampNeg
      · rw [List.getElem?_range h9] at hx
        cases hx
        rfl
      · have hn0 : (List.range n.toNatClampNeg)[k9]? = none := List.getElem?_eq_none (by rw [List.length_range]; omega)
        rw [hn0] at hx
        cases hx
    refine ⟨fun i j x y hi hj hxy => ?_, fun k9 x hx => ?_⟩
    · by_cases h1 : i < W1.length <;> by_cases h2 : j < W1.length
      · rw [List.getElem?_append_left h1] at hi
        rw [List.getElem?_append_left h2] at hj
        exact hD1.1 i j x y hi hj hxy
      · rw [List.getElem?_append_left h1] at hi
        rw [List.getElem?_append_right (by omega)] at hj
        have := hle _ _ hi
        have := hr _ _ hj
        omega
      · rw [List.getElem?_append_right (by omega)] at hi
        rw [List.getElem?_append_left h2] at hj
        have := hle _ _ hj
        have := hr _ _ hi
        omega
      · rw [List.getElem?_append_right (by omega)] at hi hj
        have := hr _ _ hi
        have := hr _ _ hj
        omega
    · by_cases h1 : k9 < W1.length
      · rw [List.getElem?_append_left h1] at hx
        exact hD1.2 k9 x hx
      · rw [List.getElem?_append_right (by omega)] at hx
        have := hr _ _ hx
        exact hA _ (by have := hS.1; omega)
  have hAr : ArrOfT s cA (.array ty) := fun N9 z9 => by
    obtain ⟨-, k9, hk9, cm9, hkk9⟩ := (hO 0 0 0).1
    exact ⟨(fun q hq => by cases hq), k9, hk9, cm9, hkk9⟩
  have hK2 : va_K D cl (tys ++ [(cA, .array ty)]) s := ⟨hK.1, fun k9 x hx => by
    by_cases hl : k9 < tys.length
    · rw [List.getElem?_append_left hl] at hx
      exact hK.2 k9 x hx
    · rw [List.getElem?_append_right (by omega)] at hx
      have h0 : k9 - tys.length < 1 := (List.getElem?_eq_some_iff.mp hx).1
      rw [show k9 - tys.length = 0 by omega] at hx
      cases hx
      exact ⟨hAr, fA⟩⟩
  obtain ⟨t, a1, b1⟩ := kk H.size (fun i => H.size + 1 + i) cA F.heap (fun i j _ _ h => by have h9 : H.size + 1 + i = H.size + 1 + j := h; omega) hnl hK2 (by rw [← vr_rows hnm]; exact vr_lay hP2) (by rw [← vr_rows hnm]; exact vr_layD hD2) ⟨by rw [f1]; have := hS.1; omega, fun x h1 h2 => (hold x (Nat.lt_of_lt_of_le h1 hS.1)).trans (hS.2.1 x h1 h2), hS.2.2⟩ F rfl X'
  refine ⟨t, step t ?_, b1⟩
  have e : T.heap.size = H.size := by rw [hT]
  rw [e]
  exact a1
end VGM
/-! ===== END ===== -/

def RX0 : String := "ThinLine$Book"
def TX0 : u_T := fun k => match k with
  | 0 => ("ThinLine$Book", "now", "I", false)
  | 1 => ("ThinLine$Book", "told", "[I", true)
  | 2 => ("ThinLine$Book", "rows", "LThinLine$Rows;", true)
  | 3 => ("ThinLine$Book", "slips", "LThinLine$Table;", true)
  | 4 => ("ThinLine$Book", "lines", "LThinLine$Table;", true)
  | 5 => ("ThinLine$Book", "candidates", "LThinLine$Table;", true)
  | 6 => ("ThinLine$Book", "houses", "LThinLine$Table;", true)
  | 7 => ("ThinLine$Book", "tape", "[I", true)
  | _ => ("ThinLine$Book", "taped", "I", false)
def tyX0 : Nat → FieldType := fun k => match k with
  | 0 => .int
  | 1 => .array .int
  | 2 => .object "ThinLine$Rows"
  | 3 => .object "ThinLine$Table"
  | 4 => .object "ThinLine$Table"
  | 5 => .object "ThinLine$Table"
  | 6 => .object "ThinLine$Table"
  | 7 => .array .int
  | _ => .int
abbrev wsX00 : List Cond := u_ws RX0 TX0 9
theorem nmX0 : ∀ a, a < 9 → ∀ b, b < 9 → a ≠ b → (TX0 a).2.1 ≠ (TX0 b).2.1 := by decide +kernel
theorem tyX0_ok : ∀ k, k < 9 → parseFieldDescriptor (TX0 k).2.2.1 = some (tyX0 k) := by decide +kernel
abbrev cX0_init : ByteArray := prog_2_method_1_code
def yX0_init : MethodName := ⟨RX0, "<init>", "()V"⟩
abbrev cX0_copyFrom : ByteArray := prog_2_method_2_code
def yX0_copyFrom : MethodName := ⟨RX0, "copyFrom", "(LThinLine$Book;)V"⟩
abbrev cX0_append : ByteArray := prog_2_method_3_code
def yX0_append : MethodName := ⟨RX0, "append", "(I)V"⟩
abbrev cX0_byteAt : ByteArray := prog_2_method_4_code
def yX0_byteAt : MethodName := ⟨RX0, "byteAt", "(I)I"⟩
abbrev cX0_hasLine : ByteArray := prog_2_method_5_code
def yX0_hasLine : MethodName := ⟨RX0, "hasLine", "(II)Z"⟩
abbrev cX0_slipped : ByteArray := prog_2_method_6_code
def yX0_slipped : MethodName := ⟨RX0, "slipped", "(II)I"⟩
abbrev cX0_readRow : ByteArray := prog_2_method_7_code
def yX0_readRow : MethodName := ⟨RX0, "readRow", "(II[Z[I)V"⟩
abbrev cX0_takeOff : ByteArray := prog_2_method_8_code
def yX0_takeOff : MethodName := ⟨RX0, "takeOff", "(I[I)V"⟩
def RX1 : String := "ThinLine$Maker"
def TX1 : u_T := fun k => match k with
  | 0 => ("ThinLine$Maker", "eaten", "[I", true)
  | 1 => ("ThinLine$Maker", "period", "I", false)
  | 2 => ("ThinLine$Maker", "swing", "I", false)
  | 3 => ("ThinLine$Maker", "noise", "I", false)
  | _ => ("ThinLine$Maker", "x", "J", false)
def tyX1 : Nat → FieldType := fun k => match k with
  | 0 => .array .int
  | 1 => .int
  | 2 => .int
  | 3 => .int
  | _ => .long
abbrev wsX10 : List Cond := u_ws RX1 TX1 5
theorem nmX1 : ∀ a, a < 5 → ∀ b, b < 5 → a ≠ b → (TX1 a).2.1 ≠ (TX1 b).2.1 := by decide +kernel
theorem tyX1_ok : ∀ k, k < 5 → parseFieldDescriptor (TX1 k).2.2.1 = some (tyX1 k) := by decide +kernel
abbrev cX1_init : ByteArray := prog_3_method_1_code
def yX1_init : MethodName := ⟨RX1, "<init>", "()V"⟩
abbrev cX1_begin : ByteArray := prog_3_method_2_code
def yX1_begin : MethodName := ⟨RX1, "begin", "(LThinLine$Text;I)V"⟩
abbrev cX1_eatNothing : ByteArray := prog_3_method_3_code
def yX1_eatNothing : MethodName := ⟨RX1, "eatNothing", "()V"⟩
abbrev cX1_eat : ByteArray := prog_3_method_4_code
def yX1_eat : MethodName := ⟨RX1, "eat", "(LThinLine$Text;LThinLine$Table;)V"⟩
abbrev cX1_makeAt : ByteArray := prog_3_method_5_code
def yX1_makeAt : MethodName := ⟨RX1, "makeAt", "(LThinLine$Text;LThinLine$Sums;I)I"⟩
abbrev cX1_shineOf : ByteArray := prog_3_method_6_code
def yX1_shineOf : MethodName := ⟨RX1, "shineOf", "(LThinLine$Text;LThinLine$Sums;)J"⟩
abbrev cX1_swingAt : ByteArray := prog_3_method_7_code
def yX1_swingAt : MethodName := ⟨RX1, "swingAt", "(I)I"⟩
def RX2 : String := "ThinLine$Parser"
def TX2 : u_T := fun k => match k with
  | 0 => ("ThinLine$Parser", "tokens", "LThinLine$Tokens;", true)
  | 1 => ("ThinLine$Parser", "text", "LThinLine$Text;", false)
  | 2 => ("ThinLine$Parser", "sort", "I", false)
  | 3 => ("ThinLine$Parser", "at", "I", false)
  | 4 => ("ThinLine$Parser", "items", "I", false)
  | _ => ("ThinLine$Parser", "fault", "I", false)
def tyX2 : Nat → FieldType := fun k => match k with
  | 0 => .object "ThinLine$Tokens"
  | 1 => .object "ThinLine$Text"
  | 2 => .int
  | 3 => .int
  | 4 => .int
  | _ => .int
abbrev wsX20 : List Cond := u_ws RX2 TX2 6
theorem nmX2 : ∀ a, a < 6 → ∀ b, b < 6 → a ≠ b → (TX2 a).2.1 ≠ (TX2 b).2.1 := by decide +kernel
theorem tyX2_ok : ∀ k, k < 6 → parseFieldDescriptor (TX2 k).2.2.1 = some (tyX2 k) := by decide +kernel
abbrev cX2_init : ByteArray := prog_4_method_1_code
def yX2_init : MethodName := ⟨RX2, "<init>", "()V"⟩
abbrev cX2_parse : ByteArray := prog_4_method_2_code
def yX2_parse : MethodName := ⟨RX2, "parse", "(LThinLine$Book;ILThinLine$Text;)I"⟩
abbrev cX2_kindHere : ByteArray := prog_4_method_3_code
def yX2_kindHere : MethodName := ⟨RX2, "kindHere", "()I"⟩
abbrev cX2_valueHere : ByteArray := prog_4_method_4_code
def yX2_valueHere : MethodName := ⟨RX2, "valueHere", "()I"⟩
abbrev cX2_isWordHere : ByteArray := prog_4_method_5_code
def yX2_isWordHere : MethodName := ⟨RX2, "isWordHere", "(I)Z"⟩
abbrev cX2_faultHere : ByteArray := prog_4_method_6_code
def yX2_faultHere : MethodName := ⟨RX2, "faultHere", "(I)Z"⟩
abbrev cX2_isHead : ByteArray := prog_4_method_7_code
def yX2_isHead : MethodName := ⟨RX2, "isHead", "(I)Z"⟩
abbrev cX2_isOnce : ByteArray := prog_4_method_8_code
def yX2_isOnce : MethodName := ⟨RX2, "isOnce", "(I)Z"⟩
abbrev cX2_head : ByteArray := prog_4_method_9_code
def yX2_head : MethodName := ⟨RX2, "head", "()Z"⟩
abbrev cX2_body : ByteArray := prog_4_method_10_code
def yX2_body : MethodName := ⟨RX2, "body", "()Z"⟩
abbrev cX2_numbers : ByteArray := prog_4_method_11_code
def yX2_numbers : MethodName := ⟨RX2, "numbers", "(II)Z"⟩
abbrev cX2_number : ByteArray := prog_4_method_12_code
def yX2_number : MethodName := ⟨RX2, "number", "([IIII)Z"⟩
abbrev cX2_test : ByteArray := prog_4_method_13_code
def yX2_test : MethodName := ⟨RX2, "test", "(I)Z"⟩
abbrev cX2_fact : ByteArray := prog_4_method_14_code
def yX2_fact : MethodName := ⟨RX2, "fact", "(I)Z"⟩
abbrev cX2_inner : ByteArray := prog_4_method_15_code
def yX2_inner : MethodName := ⟨RX2, "inner", "(I)Z"⟩
abbrev cX2_sum : ByteArray := prog_4_method_16_code
def yX2_sum : MethodName := ⟨RX2, "sum", "()Z"⟩
abbrev cX2_value : ByteArray := prog_4_method_17_code
def yX2_value : MethodName := ⟨RX2, "value", "()Z"⟩
def RX3 : String := "ThinLine$Rests"
def TX3 : u_T := fun k => match k with
  | 0 => ("ThinLine$Rests", "left", "[J", true)
  | _ => ("ThinLine$Rests", "many", "[I", true)
def tyX3 : Nat → FieldType := fun k => match k with
  | 0 => .array .long
  | _ => .array .int
abbrev wsX30 : List Cond := u_ws RX3 TX3 2
theorem nmX3 : ∀ a, a < 2 → ∀ b, b < 2 → a ≠ b → (TX3 a).2.1 ≠ (TX3 b).2.1 := by decide +kernel
theorem tyX3_ok : ∀ k, k < 2 → parseFieldDescriptor (TX3 k).2.2.1 = some (tyX3 k) := by decide +kernel
abbrev cX3_init : ByteArray := prog_5_method_1_code
def yX3_init : MethodName := ⟨RX3, "<init>", "()V"⟩
abbrev cX3_gather : ByteArray := prog_5_method_2_code
def yX3_gather : MethodName := ⟨RX3, "gather", "(LThinLine$View;I)V"⟩
abbrev cX3_power : ByteArray := prog_5_method_3_code
def yX3_power : MethodName := ⟨RX3, "power", "(LThinLine$View;I)J"⟩
abbrev cX3_found : ByteArray := prog_5_method_4_code
def yX3_found : MethodName := ⟨RX3, "found", "(LThinLine$View;)I"⟩
abbrev cX3_meanAt : ByteArray := prog_5_method_5_code
def yX3_meanAt : MethodName := ⟨RX3, "meanAt", "(I)J"⟩
def RX4 : String := "ThinLine$Rows"
def TX4 : u_T := fun k => match k with
  | 0 => ("ThinLine$Rows", "size", "I", false)
  | 1 => ("ThinLine$Rows", "numbers", "I", false)
  | 2 => ("ThinLine$Rows", "glass", "[I", true)
  | 3 => ("ThinLine$Rows", "hour", "[I", true)
  | 4 => ("ThinLine$Rows", "known", "[I", true)
  | _ => ("ThinLine$Rows", "raw", "[[I", true)
def tyX4 : Nat → FieldType := fun k => match k with
  | 0 => .int
  | 1 => .int
  | 2 => .array .int
  | 3 => .array .int
  | 4 => .array .int
  | _ => .array (.array .int)
abbrev wsX40 : List Cond := u_ws RX4 TX4 6
theorem nmX4 : ∀ a, a < 6 → ∀ b, b < 6 → a ≠ b → (TX4 a).2.1 ≠ (TX4 b).2.1 := by decide +kernel
theorem tyX4_ok : ∀ k, k < 6 → parseFieldDescriptor (TX4 k).2.2.1 = some (tyX4 k) := by decide +kernel
abbrev cX4_init : ByteArray := prog_6_method_1_code
def yX4_init : MethodName := ⟨RX4, "<init>", "()V"⟩
abbrev cX4_has : ByteArray := prog_6_method_2_code
def yX4_has : MethodName := ⟨RX4, "has", "(I)Z"⟩
abbrev cX4_add : ByteArray := prog_6_method_3_code
def yX4_add : MethodName := ⟨RX4, "add", "(III)I"⟩
abbrev cX4_put : ByteArray := prog_6_method_4_code
def yX4_put : MethodName := ⟨RX4, "put", "(III)I"⟩
abbrev cX4_copyFrom : ByteArray := prog_6_method_5_code
def yX4_copyFrom : MethodName := ⟨RX4, "copyFrom", "(LThinLine$Rows;)V"⟩
def RX5 : String := "ThinLine$Sums"
def TX5 : u_T := fun k => match k with
  | 0 => ("ThinLine$Sums", "words", "[J", true)
  | _ => ("ThinLine$Sums", "stack", "[J", true)
def tyX5 : Nat → FieldType := fun k => match k with
  | 0 => .array .long
  | _ => .array .long
abbrev wsX50 : List Cond := u_ws RX5 TX5 2
theorem nmX5 : ∀ a, a < 2 → ∀ b, b < 2 → a ≠ b → (TX5 a).2.1 ≠ (TX5 b).2.1 := by decide +kernel
theorem tyX5_ok : ∀ k, k < 2 → parseFieldDescriptor (TX5 k).2.2.1 = some (tyX5 k) := by decide +kernel
abbrev cX5_init : ByteArray := prog_7_method_1_code
def yX5_init : MethodName := ⟨RX5, "<init>", "()V"⟩
abbrev cX5_setRow : ByteArray := prog_7_method_2_code
def yX5_setRow : MethodName := ⟨RX5, "setRow", "(LThinLine$Rows;I)V"⟩
abbrev cX5_setColour : ByteArray := prog_7_method_3_code
def yX5_setColour : MethodName := ⟨RX5, "setColour", "(I)V"⟩
abbrev cX5_setWeather : ByteArray := prog_7_method_4_code
def yX5_setWeather : MethodName := ⟨RX5, "setWeather", "(LThinLine$Book;)V"⟩
abbrev cX5_holds : ByteArray := prog_7_method_5_code
def yX5_holds : MethodName := ⟨RX5, "holds", "(LThinLine$Text;I)Z"⟩
abbrev cX5_sumOf : ByteArray := prog_7_method_6_code
def yX5_sumOf : MethodName := ⟨RX5, "sumOf", "(LThinLine$Text;I)J"⟩
abbrev cX5_worked : ByteArray := prog_7_method_7_code
def yX5_worked : MethodName := ⟨RX5, "worked", "(LThinLine$Text;II)J"⟩
abbrev cX5_wordAt : ByteArray := prog_7_method_8_code
def yX5_wordAt : MethodName := ⟨RX5, "wordAt", "(I)J"⟩
abbrev cX5_joined : ByteArray := prog_7_method_9_code
def yX5_joined : MethodName := ⟨RX5, "joined", "(IJJ)J"⟩
def RX6 : String := "ThinLine$Table"
def TX6 : u_T := fun k => match k with
  | 0 => ("ThinLine$Table", "most", "I", true)
  | 1 => ("ThinLine$Table", "cells", "[I", true)
  | _ => ("ThinLine$Table", "size", "I", false)
def tyX6 : Nat → FieldType := fun k => match k with
  | 0 => .int
  | 1 => .array .int
  | _ => .int
abbrev wsX60 : List Cond := u_ws RX6 TX6 3
theorem nmX6 : ∀ a, a < 3 → ∀ b, b < 3 → a ≠ b → (TX6 a).2.1 ≠ (TX6 b).2.1 := by decide +kernel
theorem tyX6_ok : ∀ k, k < 3 → parseFieldDescriptor (TX6 k).2.2.1 = some (tyX6 k) := by decide +kernel
abbrev cX6_init : ByteArray := prog_8_method_1_code
def yX6_init : MethodName := ⟨RX6, "<init>", "(I)V"⟩
abbrev cX6_has : ByteArray := prog_8_method_2_code
def yX6_has : MethodName := ⟨RX6, "has", "(I)Z"⟩
abbrev cX6_add : ByteArray := prog_8_method_3_code
def yX6_add : MethodName := ⟨RX6, "add", "(IIII)I"⟩
abbrev cX6_cell : ByteArray := prog_8_method_4_code
def yX6_cell : MethodName := ⟨RX6, "cell", "(II)I"⟩
abbrev cX6_set : ByteArray := prog_8_method_5_code
def yX6_set : MethodName := ⟨RX6, "set", "(III)V"⟩
abbrev cX6_copyFrom : ByteArray := prog_8_method_6_code
def yX6_copyFrom : MethodName := ⟨RX6, "copyFrom", "(LThinLine$Table;)V"⟩
def RX7 : String := "ThinLine$Text"
def TX7 : u_T := fun k => match k with
  | 0 => ("ThinLine$Text", "clauses", "I", false)
  | 1 => ("ThinLine$Text", "head", "[I", true)
  | 2 => ("ThinLine$Text", "first", "[I", true)
  | 3 => ("ThinLine$Text", "second", "[I", true)
  | 4 => ("ThinLine$Text", "sumAt", "[I", true)
  | 5 => ("ThinLine$Text", "testAt", "[I", true)
  | 6 => ("ThinLine$Text", "endAt", "[I", true)
  | 7 => ("ThinLine$Text", "steps", "[I", true)
  | _ => ("ThinLine$Text", "length", "I", false)
def tyX7 : Nat → FieldType := fun k => match k with
  | 0 => .int
  | 1 => .array .int
  | 2 => .array .int
  | 3 => .array .int
  | 4 => .array .int
  | 5 => .array .int
  | 6 => .array .int
  | 7 => .array .int
  | _ => .int
abbrev wsX70 : List Cond := u_ws RX7 TX7 9
theorem nmX7 : ∀ a, a < 9 → ∀ b, b < 9 → a ≠ b → (TX7 a).2.1 ≠ (TX7 b).2.1 := by decide +kernel
theorem tyX7_ok : ∀ k, k < 9 → parseFieldDescriptor (TX7 k).2.2.1 = some (tyX7 k) := by decide +kernel
abbrev cX7_init : ByteArray := prog_9_method_1_code
def yX7_init : MethodName := ⟨RX7, "<init>", "()V"⟩
abbrev cX7_wipe : ByteArray := prog_9_method_2_code
def yX7_wipe : MethodName := ⟨RX7, "wipe", "()V"⟩
abbrev cX7_step : ByteArray := prog_9_method_3_code
def yX7_step : MethodName := ⟨RX7, "step", "(II)V"⟩
abbrev cX7_open : ByteArray := prog_9_method_4_code
def yX7_open : MethodName := ⟨RX7, "open", "(I)V"⟩
abbrev cX7_clauseOf : ByteArray := prog_9_method_5_code
def yX7_clauseOf : MethodName := ⟨RX7, "clauseOf", "(I)I"⟩
abbrev cX7_firstOf : ByteArray := prog_9_method_6_code
def yX7_firstOf : MethodName := ⟨RX7, "firstOf", "(II)I"⟩
abbrev cX7_secondOf : ByteArray := prog_9_method_7_code
def yX7_secondOf : MethodName := ⟨RX7, "secondOf", "(II)I"⟩
def RX8 : String := "ThinLine$Texts"
def TX8 : u_T := fun k => match k with
  | 0 => ("ThinLine$Texts", "kept", "[LThinLine$Text;", true)
  | _ => ("ThinLine$Texts", "size", "I", false)
def tyX8 : Nat → FieldType := fun k => match k with
  | 0 => .array (.object "ThinLine$Text")
  | _ => .int
abbrev wsX80 : List Cond := u_ws RX8 TX8 2
theorem nmX8 : ∀ a, a < 2 → ∀ b, b < 2 → a ≠ b → (TX8 a).2.1 ≠ (TX8 b).2.1 := by decide +kernel
theorem tyX8_ok : ∀ k, k < 2 → parseFieldDescriptor (TX8 k).2.2.1 = some (tyX8 k) := by decide +kernel
abbrev cX8_init : ByteArray := prog_10_method_1_code
def yX8_init : MethodName := ⟨RX8, "<init>", "(I)V"⟩
abbrev cX8_isFull : ByteArray := prog_10_method_2_code
def yX8_isFull : MethodName := ⟨RX8, "isFull", "()Z"⟩
abbrev cX8_keep : ByteArray := prog_10_method_3_code
def yX8_keep : MethodName := ⟨RX8, "keep", "(LThinLine$Text;)I"⟩
abbrev cX8_at : ByteArray := prog_10_method_4_code
def yX8_at : MethodName := ⟨RX8, "at", "(I)LThinLine$Text;"⟩
def RX9 : String := "ThinLine$Tokens"
def TX9 : u_T := fun k => match k with
  | 0 => ("ThinLine$Tokens", "kind", "[I", true)
  | 1 => ("ThinLine$Tokens", "place", "[I", true)
  | 2 => ("ThinLine$Tokens", "value", "[I", true)
  | _ => ("ThinLine$Tokens", "size", "I", false)
def tyX9 : Nat → FieldType := fun k => match k with
  | 0 => .array .int
  | 1 => .array .int
  | 2 => .array .int
  | _ => .int
abbrev wsX90 : List Cond := u_ws RX9 TX9 4
theorem nmX9 : ∀ a, a < 4 → ∀ b, b < 4 → a ≠ b → (TX9 a).2.1 ≠ (TX9 b).2.1 := by decide +kernel
theorem tyX9_ok : ∀ k, k < 4 → parseFieldDescriptor (TX9 k).2.2.1 = some (tyX9 k) := by decide +kernel
abbrev cX9_init : ByteArray := prog_11_method_1_code
def yX9_init : MethodName := ⟨RX9, "<init>", "()V"⟩
abbrev cX9_cut : ByteArray := prog_11_method_2_code
def yX9_cut : MethodName := ⟨RX9, "cut", "(LThinLine$Book;)V"⟩
abbrev cX9_add : ByteArray := prog_11_method_3_code
def yX9_add : MethodName := ⟨RX9, "add", "(III)V"⟩
abbrev cX9_sortOf : ByteArray := prog_11_method_4_code
def yX9_sortOf : MethodName := ⟨RX9, "sortOf", "(I)I"⟩
abbrev cX9_numberIn : ByteArray := prog_11_method_5_code
def yX9_numberIn : MethodName := ⟨RX9, "numberIn", "(LThinLine$Book;II)I"⟩
abbrev cX9_wordIn : ByteArray := prog_11_method_6_code
def yX9_wordIn : MethodName := ⟨RX9, "wordIn", "(LThinLine$Book;II)I"⟩
abbrev cX9_isSpelled : ByteArray := prog_11_method_7_code
def yX9_isSpelled : MethodName := ⟨RX9, "isSpelled", "(LThinLine$Book;IILjava/lang/String;)Z"⟩
abbrev cX9_spelling : ByteArray := prog_11_method_8_code
def yX9_spelling : MethodName := ⟨RX9, "spelling", "(I)Ljava/lang/String;"⟩
def RX10 : String := "ThinLine$View"
def TX10 : u_T := fun k => match k with
  | 0 => ("ThinLine$View", "told", "[Z", true)
  | 1 => ("ThinLine$View", "skipped", "[Z", true)
  | 2 => ("ThinLine$View", "used", "[Z", true)
  | 3 => ("ThinLine$View", "seen", "[I", true)
  | 4 => ("ThinLine$View", "height", "[I", true)
  | 5 => ("ThinLine$View", "openAhead", "[I", true)
  | 6 => ("ThinLine$View", "sumAhead", "[I", true)
  | 7 => ("ThinLine$View", "knotColour", "[I", true)
  | 8 => ("ThinLine$View", "knotHeight", "[I", true)
  | 9 => ("ThinLine$View", "bends", "I", false)
  | 10 => ("ThinLine$View", "wide", "I", false)
  | 11 => ("ThinLine$View", "gapFrom", "I", false)
  | 12 => ("ThinLine$View", "gapTo", "I", false)
  | 13 => ("ThinLine$View", "knots", "I", false)
  | 14 => ("ThinLine$View", "gapCount", "I", false)
  | 15 => ("ThinLine$View", "usedCount", "I", false)
  | 16 => ("ThinLine$View", "gapLeft", "J", false)
  | _ => ("ThinLine$View", "usedLeft", "J", false)
def tyX10 : Nat → FieldType := fun k => match k with
  | 0 => .array .boolean
  | 1 => .array .boolean
  | 2 => .array .boolean
  | 3 => .array .int
  | 4 => .array .int
  | 5 => .array .int
  | 6 => .array .int
  | 7 => .array .int
  | 8 => .array .int
  | 9 => .int
  | 10 => .int
  | 11 => .int
  | 12 => .int
  | 13 => .int
  | 14 => .int
  | 15 => .int
  | 16 => .long
  | _ => .long
abbrev wsX100 : List Cond := u_ws RX10 TX10 18
theorem nmX10 : ∀ a, a < 18 → ∀ b, b < 18 → a ≠ b → (TX10 a).2.1 ≠ (TX10 b).2.1 := by decide +kernel
theorem tyX10_ok : ∀ k, k < 18 → parseFieldDescriptor (TX10 k).2.2.1 = some (tyX10 k) := by decide +kernel
abbrev cX10_init : ByteArray := prog_12_method_1_code
def yX10_init : MethodName := ⟨RX10, "<init>", "()V"⟩
abbrev cX10_skipBy : ByteArray := prog_12_method_2_code
def yX10_skipBy : MethodName := ⟨RX10, "skipBy", "(LThinLine$Text;LThinLine$Sums;)V"⟩
abbrev cX10_frameBy : ByteArray := prog_12_method_3_code
def yX10_frameBy : MethodName := ⟨RX10, "frameBy", "(LThinLine$Text;)V"⟩
abbrev cX10_gapLength : ByteArray := prog_12_method_4_code
def yX10_gapLength : MethodName := ⟨RX10, "gapLength", "()I"⟩
abbrev cX10_isInGap : ByteArray := prog_12_method_5_code
def yX10_isInGap : MethodName := ⟨RX10, "isInGap", "(I)Z"⟩
abbrev cX10_isTold : ByteArray := prog_12_method_6_code
def yX10_isTold : MethodName := ⟨RX10, "isTold", "(I)Z"⟩
abbrev cX10_isUsed : ByteArray := prog_12_method_7_code
def yX10_isUsed : MethodName := ⟨RX10, "isUsed", "(I)Z"⟩
abbrev cX10_leftAt : ByteArray := prog_12_method_8_code
def yX10_leftAt : MethodName := ⟨RX10, "leftAt", "(I)I"⟩
abbrev cX10_tally : ByteArray := prog_12_method_9_code
def yX10_tally : MethodName := ⟨RX10, "tally", "()V"⟩
abbrev cX10_moveTo : ByteArray := prog_12_method_10_code
def yX10_moveTo : MethodName := ⟨RX10, "moveTo", "(I)V"⟩
abbrev cX10_bendTo : ByteArray := prog_12_method_11_code
def yX10_bendTo : MethodName := ⟨RX10, "bendTo", "(I)V"⟩
abbrev cX10_lay : ByteArray := prog_12_method_12_code
def yX10_lay : MethodName := ⟨RX10, "lay", "()V"⟩
abbrev cX10_layKnots : ByteArray := prog_12_method_13_code
def yX10_layKnots : MethodName := ⟨RX10, "layKnots", "()V"⟩
abbrev cX10_besideGap : ByteArray := prog_12_method_14_code
def yX10_besideGap : MethodName := ⟨RX10, "besideGap", "([III)I"⟩
abbrev cX10_layHeights : ByteArray := prog_12_method_15_code
def yX10_layHeights : MethodName := ⟨RX10, "layHeights", "()V"⟩
abbrev cX10_layBetween : ByteArray := prog_12_method_16_code
def yX10_layBetween : MethodName := ⟨RX10, "layBetween", "(III)V"⟩
abbrev cX10_measure : ByteArray := prog_12_method_17_code
def yX10_measure : MethodName := ⟨RX10, "measure", "()V"⟩
abbrev cX10_isLaid : ByteArray := prog_12_method_18_code
def yX10_isLaid : MethodName := ⟨RX10, "isLaid", "()Z"⟩
abbrev cX10_hasDeep : ByteArray := prog_12_method_19_code
def yX10_hasDeep : MethodName := ⟨RX10, "hasDeep", "()Z"⟩
abbrev cX10_deepness : ByteArray := prog_12_method_20_code
def yX10_deepness : MethodName := ⟨RX10, "deepness", "()I"⟩
abbrev cX10_noisiness : ByteArray := prog_12_method_21_code
def yX10_noisiness : MethodName := ⟨RX10, "noisiness", "()J"⟩
abbrev cX10_scored : ByteArray := prog_12_method_22_code
def yX10_scored : MethodName := ⟨RX10, "scored", "()J"⟩
abbrev cX10_isNotBelow : ByteArray := prog_12_method_23_code
def yX10_isNotBelow : MethodName := ⟨RX10, "isNotBelow", "(J)Z"⟩
abbrev cX10_squares : ByteArray := prog_12_method_24_code
def yX10_squares : MethodName := ⟨RX10, "squares", "()J"⟩
def RX11 : String := "ThinLine"
def TX11 : u_T := fun k => match k with
  | 0 => ("ThinLine", "book", "LThinLine$Book;", true)
  | 1 => ("ThinLine", "images", "[LThinLine$Book;", true)
  | 2 => ("ThinLine", "laws", "LThinLine$Texts;", true)
  | 3 => ("ThinLine", "curves", "LThinLine$Texts;", true)
  | 4 => ("ThinLine", "ways", "LThinLine$Texts;", true)
  | 5 => ("ThinLine", "parser", "LThinLine$Parser;", true)
  | 6 => ("ThinLine", "draft", "LThinLine$Text;", false)
  | 7 => ("ThinLine", "sums", "LThinLine$Sums;", true)
  | 8 => ("ThinLine", "maker", "LThinLine$Maker;", true)
  | 9 => ("ThinLine", "view", "LThinLine$View;", true)
  | 10 => ("ThinLine", "rests", "LThinLine$Rests;", true)
  | 11 => ("ThinLine", "rowDeeps", "[I", true)
  | 12 => ("ThinLine", "sorted", "[I", true)
  | 13 => ("ThinLine", "firstWeeks", "[I", true)
  | 14 => ("ThinLine", "worths", "[J", true)
  | _ => ("ThinLine", "given", "[I", true)
def tyX11 : Nat → FieldType := fun k => match k with
  | 0 => .object "ThinLine$Book"
  | 1 => .array (.object "ThinLine$Book")
  | 2 => .object "ThinLine$Texts"
  | 3 => .object "ThinLine$Texts"
  | 4 => .object "ThinLine$Texts"
  | 5 => .object "ThinLine$Parser"
  | 6 => .object "ThinLine$Text"
  | 7 => .object "ThinLine$Sums"
  | 8 => .object "ThinLine$Maker"
  | 9 => .object "ThinLine$View"
  | 10 => .object "ThinLine$Rests"
  | 11 => .array .int
  | 12 => .array .int
  | 13 => .array .int
  | 14 => .array .long
  | _ => .array .int
abbrev wsX110 : List Cond := u_ws RX11 TX11 16
theorem nmX11 : ∀ a, a < 16 → ∀ b, b < 16 → a ≠ b → (TX11 a).2.1 ≠ (TX11 b).2.1 := by decide +kernel
theorem tyX11_ok : ∀ k, k < 16 → parseFieldDescriptor (TX11 k).2.2.1 = some (tyX11 k) := by decide +kernel
abbrev cX11_init : ByteArray := prog_1_method_1_code
def yX11_init : MethodName := ⟨RX11, "<init>", "()V"⟩
abbrev cX11_clock : ByteArray := prog_1_method_2_code
def yX11_clock : MethodName := ⟨RX11, "clock", "(I)Z"⟩
abbrev cX11_row : ByteArray := prog_1_method_3_code
def yX11_row : MethodName := ⟨RX11, "row", "(II)I"⟩
abbrev cX11_raw : ByteArray := prog_1_method_4_code
def yX11_raw : MethodName := ⟨RX11, "raw", "(III)I"⟩
abbrev cX11_read : ByteArray := prog_1_method_5_code
def yX11_read : MethodName := ⟨RX11, "read", "(II)I"⟩
abbrev cX11_slip : ByteArray := prog_1_method_6_code
def yX11_slip : MethodName := ⟨RX11, "slip", "(IIII)I"⟩
abbrev cX11_anew : ByteArray := prog_1_method_7_code
def yX11_anew : MethodName := ⟨RX11, "anew", "(II)I"⟩
abbrev cX11_line : ByteArray := prog_1_method_8_code
def yX11_line : MethodName := ⟨RX11, "line", "(III)I"⟩
abbrev cX11_feed : ByteArray := prog_1_method_9_code
def yX11_feed : MethodName := ⟨RX11, "feed", "(IIIII)I"⟩
abbrev cX11_end : ByteArray := prog_1_method_10_code
def yX11_end : MethodName := ⟨RX11, "end", "(I)I"⟩
abbrev cX11_text : ByteArray := prog_1_method_11_code
def yX11_text : MethodName := ⟨RX11, "text", "(I)I"⟩
abbrev cX11_shelfOf : ByteArray := prog_1_method_12_code
def yX11_shelfOf : MethodName := ⟨RX11, "shelfOf", "(I)LThinLine$Texts;"⟩
abbrev cX11_make : ByteArray := prog_1_method_13_code
def yX11_make : MethodName := ⟨RX11, "make", "(IIIII)I"⟩
abbrev cX11_look : ByteArray := prog_1_method_14_code
def yX11_look : MethodName := ⟨RX11, "look", "(III)Z"⟩
abbrev cX11_curve : ByteArray := prog_1_method_15_code
def yX11_curve : MethodName := ⟨RX11, "curve", "(IIII)I"⟩
abbrev cX11_deep : ByteArray := prog_1_method_16_code
def yX11_deep : MethodName := ⟨RX11, "deep", "(III)J"⟩
abbrev cX11_moved : ByteArray := prog_1_method_17_code
def yX11_moved : MethodName := ⟨RX11, "moved", "(III)J"⟩
abbrev cX11_elsewhere : ByteArray := prog_1_method_18_code
def yX11_elsewhere : MethodName := ⟨RX11, "elsewhere", "(III)I"⟩
abbrev cX11_deepest : ByteArray := prog_1_method_19_code
def yX11_deepest : MethodName := ⟨RX11, "deepest", "(III)J"⟩
abbrev cX11_drawn : ByteArray := prog_1_method_20_code
def yX11_drawn : MethodName := ⟨RX11, "drawn", "(IIIII)I"⟩
abbrev cX11_bent : ByteArray := prog_1_method_21_code
def yX11_bent : MethodName := ⟨RX11, "bent", "(III)J"⟩
abbrev cX11_best : ByteArray := prog_1_method_22_code
def yX11_best : MethodName := ⟨RX11, "best", "(IIII)J"⟩
abbrev cX11_taken : ByteArray := prog_1_method_23_code
def yX11_taken : MethodName := ⟨RX11, "taken", "(IIII)I"⟩
abbrev cX11_apart : ByteArray := prog_1_method_24_code
def yX11_apart : MethodName := ⟨RX11, "apart", "(III)I"⟩
abbrev cX11_stuff : ByteArray := prog_1_method_25_code
def yX11_stuff : MethodName := ⟨RX11, "stuff", "(IIII)J"⟩
abbrev cX11_amountOf : ByteArray := prog_1_method_26_code
def yX11_amountOf : MethodName := ⟨RX11, "amountOf", "(I)J"⟩
abbrev cX11_isElse : ByteArray := prog_1_method_27_code
def yX11_isElse : MethodName := ⟨RX11, "isElse", "(II)Z"⟩
abbrev cX11_elseOf : ByteArray := prog_1_method_28_code
def yX11_elseOf : MethodName := ⟨RX11, "elseOf", "(I)I"⟩
abbrev cX11_thereOf : ByteArray := prog_1_method_29_code
def yX11_thereOf : MethodName := ⟨RX11, "thereOf", "(IJ)I"⟩
abbrev cX11_boundOf : ByteArray := prog_1_method_30_code
def yX11_boundOf : MethodName := ⟨RX11, "boundOf", "(I)J"⟩
abbrev cX11_likeliest : ByteArray := prog_1_method_31_code
def yX11_likeliest : MethodName := ⟨RX11, "likeliest", "(II)I"⟩
abbrev cX11_findDeeps : ByteArray := prog_1_method_32_code
def yX11_findDeeps : MethodName := ⟨RX11, "findDeeps", "(I)V"⟩
abbrev cX11_isKnown : ByteArray := prog_1_method_33_code
def yX11_isKnown : MethodName := ⟨RX11, "isKnown", "(II)Z"⟩
abbrev cX11_together : ByteArray := prog_1_method_34_code
def yX11_together : MethodName := ⟨RX11, "together", "(IIII)I"⟩
abbrev cX11_commonDivisor : ByteArray := prog_1_method_35_code
def yX11_commonDivisor : MethodName := ⟨RX11, "commonDivisor", "(II)I"⟩
abbrev cX11_hour : ByteArray := prog_1_method_36_code
def yX11_hour : MethodName := ⟨RX11, "hour", "(III)I"⟩
abbrev cX11_isPair : ByteArray := prog_1_method_37_code
def yX11_isPair : MethodName := ⟨RX11, "isPair", "(II)Z"⟩
abbrev cX11_findSaid : ByteArray := prog_1_method_38_code
def yX11_findSaid : MethodName := ⟨RX11, "findSaid", "(II)V"⟩
abbrev cX11_begunUpTo : ByteArray := prog_1_method_39_code
def yX11_begunUpTo : MethodName := ⟨RX11, "begunUpTo", "(I)I"⟩
abbrev cX11_said : ByteArray := prog_1_method_40_code
def yX11_said : MethodName := ⟨RX11, "said", "(III)I"⟩
abbrev cX11_weeks : ByteArray := prog_1_method_41_code
def yX11_weeks : MethodName := ⟨RX11, "weeks", "(IIIIII)I"⟩
abbrev cX11_odd : ByteArray := prog_1_method_42_code
def yX11_odd : MethodName := ⟨RX11, "odd", "(II)I"⟩
abbrev cX11_sortIn : ByteArray := prog_1_method_43_code
def yX11_sortIn : MethodName := ⟨RX11, "sortIn", "(II)V"⟩
abbrev cX11_farthestFrom : ByteArray := prog_1_method_44_code
def yX11_farthestFrom : MethodName := ⟨RX11, "farthestFrom", "(II)I"⟩
abbrev cX11_ripple : ByteArray := prog_1_method_45_code
def yX11_ripple : MethodName := ⟨RX11, "ripple", "(III)J"⟩
abbrev cX11_smooth : ByteArray := prog_1_method_46_code
def yX11_smooth : MethodName := ⟨RX11, "smooth", "(II)I"⟩
abbrev cX11_without : ByteArray := prog_1_method_47_code
def yX11_without : MethodName := ⟨RX11, "without", "(III)I"⟩
abbrev cX11_weightiest : ByteArray := prog_1_method_48_code
def yX11_weightiest : MethodName := ⟨RX11, "weightiest", "(II)I"⟩
abbrev cX11_house : ByteArray := prog_1_method_49_code
def yX11_house : MethodName := ⟨RX11, "house", "(III)I"⟩
abbrev cX11_firstOf : ByteArray := prog_1_method_50_code
def yX11_firstOf : MethodName := ⟨RX11, "firstOf", "(I)I"⟩
abbrev cX11_findHouses : ByteArray := prog_1_method_51_code
def yX11_findHouses : MethodName := ⟨RX11, "findHouses", "()V"⟩
abbrev cX11_says : ByteArray := prog_1_method_52_code
def yX11_says : MethodName := ⟨RX11, "says", "(II)I"⟩
abbrev cX11_agreed : ByteArray := prog_1_method_53_code
def yX11_agreed : MethodName := ⟨RX11, "agreed", "(I)I"⟩
abbrev cX11_alone : ByteArray := prog_1_method_54_code
def yX11_alone : MethodName := ⟨RX11, "alone", "(I)I"⟩
abbrev cX11_candidate : ByteArray := prog_1_method_55_code
def yX11_candidate : MethodName := ⟨RX11, "candidate", "(II)I"⟩
abbrev cX11_meanNoise : ByteArray := prog_1_method_56_code
def yX11_meanNoise : MethodName := ⟨RX11, "meanNoise", "(II)J"⟩
abbrev cX11_findWorths : ByteArray := prog_1_method_57_code
def yX11_findWorths : MethodName := ⟨RX11, "findWorths", "(I)V"⟩
abbrev cX11_hoursOf : ByteArray := prog_1_method_58_code
def yX11_hoursOf : MethodName := ⟨RX11, "hoursOf", "(I)I"⟩
abbrev cX11_worthOf : ByteArray := prog_1_method_59_code
def yX11_worthOf : MethodName := ⟨RX11, "worthOf", "(I)J"⟩
abbrev cX11_next : ByteArray := prog_1_method_60_code
def yX11_next : MethodName := ⟨RX11, "next", "(III)J"⟩
abbrev cX11_told : ByteArray := prog_1_method_61_code
def yX11_told : MethodName := ⟨RX11, "told", "(II)I"⟩
abbrev cX11_givenBy : ByteArray := prog_1_method_62_code
def yX11_givenBy : MethodName := ⟨RX11, "givenBy", "(LThinLine$Text;)I"⟩
abbrev cX11_findGiven : ByteArray := prog_1_method_63_code
def yX11_findGiven : MethodName := ⟨RX11, "findGiven", "()J"⟩
abbrev cX11_gives : ByteArray := prog_1_method_64_code
def yX11_gives : MethodName := ⟨RX11, "gives", "(I)I"⟩
abbrev cX11_brief : ByteArray := prog_1_method_65_code
def yX11_brief : MethodName := ⟨RX11, "brief", "(I)I"⟩
abbrev cX11_fewest : ByteArray := prog_1_method_66_code
def yX11_fewest : MethodName := ⟨RX11, "fewest", "(II)I"⟩
abbrev cX11_givenTogether : ByteArray := prog_1_method_67_code
def yX11_givenTogether : MethodName := ⟨RX11, "givenTogether", "(I)J"⟩
abbrev cX11_count : ByteArray := prog_1_method_68_code
def yX11_count : MethodName := ⟨RX11, "count", "(I)I"⟩
abbrev cX11_image : ByteArray := prog_1_method_69_code
def yX11_image : MethodName := ⟨RX11, "image", "(I)I"⟩
abbrev cX11_back : ByteArray := prog_1_method_70_code
def yX11_back : MethodName := ⟨RX11, "back", "(I)I"⟩
abbrev cX11_isIn : ByteArray := prog_1_method_71_code
def yX11_isIn : MethodName := ⟨RX11, "isIn", "(III)Z"⟩
abbrev cX11_isWeek : ByteArray := prog_1_method_72_code
def yX11_isWeek : MethodName := ⟨RX11, "isWeek", "(I)Z"⟩
abbrev cX11_isColour : ByteArray := prog_1_method_73_code
def yX11_isColour : MethodName := ⟨RX11, "isColour", "(I)Z"⟩
abbrev cX11_isGlass : ByteArray := prog_1_method_74_code
def yX11_isGlass : MethodName := ⟨RX11, "isGlass", "(I)Z"⟩
abbrev cX11_isStuff : ByteArray := prog_1_method_75_code
def yX11_isStuff : MethodName := ⟨RX11, "isStuff", "(I)Z"⟩
abbrev cX11_isBar : ByteArray := prog_1_method_76_code
def yX11_isBar : MethodName := ⟨RX11, "isBar", "(I)Z"⟩
abbrev cX11_isNeed : ByteArray := prog_1_method_77_code
def yX11_isNeed : MethodName := ⟨RX11, "isNeed", "(I)Z"⟩
abbrev cX11_isSpan : ByteArray := prog_1_method_78_code
def yX11_isSpan : MethodName := ⟨RX11, "isSpan", "(II)Z"⟩
abbrev cX11_held : ByteArray := prog_1_method_79_code
def yX11_held : MethodName := ⟨RX11, "held", "(JJJ)J"⟩
def RX12 : String := "ThinLineModel"
def TX12 : u_T := fun k => match k with
  | 0 => ("ThinLineModel", "said", "[I", true)
  | 1 => ("ThinLineModel", "tape", "[B", true)
  | 2 => ("ThinLineModel", "taped", "I", false)
  | 3 => ("ThinLineModel", "texts", "[I", true)
  | 4 => ("ThinLineModel", "sign", "[I", true)
  | 5 => ("ThinLineModel", "length", "[I", true)
  | 6 => ("ThinLineModel", "clause", "[I", true)
  | 7 => ("ThinLineModel", "clauses", "[I", true)
  | 8 => ("ThinLineModel", "eats", "[I", true)
  | 9 => ("ThinLineModel", "eaters", "[I", true)
  | 10 => ("ThinLineModel", "beat", "[I", true)
  | 11 => ("ThinLineModel", "high", "[I", true)
  | 12 => ("ThinLineModel", "noise", "[I", true)
  | 13 => ("ThinLineModel", "bends", "[I", true)
  | 14 => ("ThinLineModel", "gapFrom", "[I", true)
  | 15 => ("ThinLineModel", "gapTo", "[I", true)
  | 16 => ("ThinLineModel", "wide", "[I", true)
  | 17 => ("ThinLineModel", "next", "I", false)
  | 18 => ("ThinLineModel", "wrong", "I", false)
  | 19 => ("ThinLineModel", "number", "I", false)
  | 20 => ("ThinLineModel", "text", "I", false)
  | 21 => ("ThinLineModel", "made", "I", false)
  | 22 => ("ThinLineModel", "deep", "I", false)
  | 23 => ("ThinLineModel", "lines", "I", false)
  | 24 => ("ThinLineModel", "open", "[I", true)
  | 25 => ("ThinLineModel", "opened", "I", false)
  | 26 => ("ThinLineModel", "stack", "[J", true)
  | 27 => ("ThinLineModel", "top", "I", false)
  | 28 => ("ThinLineModel", "word", "[J", true)
  | 29 => ("ThinLineModel", "seedNow", "J", false)
  | 30 => ("ThinLineModel", "look", "[I", true)
  | 31 => ("ThinLineModel", "isUsed", "[Z", true)
  | 32 => ("ThinLineModel", "usedMany", "I", false)
  | 33 => ("ThinLineModel", "gapNow", "I", false)
  | 34 => ("ThinLineModel", "gapEnd", "I", false)
  | 35 => ("ThinLineModel", "knotAt", "[I", true)
  | 36 => ("ThinLineModel", "knotHigh", "[J", true)
  | 37 => ("ThinLineModel", "knots", "I", false)
  | 38 => ("ThinLineModel", "left", "[J", true)
  | 39 => ("ThinLineModel", "gapMany", "I", false)
  | 40 => ("ThinLineModel", "isDeep", "Z", false)
  | 41 => ("ThinLineModel", "deepRow", "[J", true)
  | 42 => ("ThinLineModel", "hasDeep", "[Z", true)
  | 43 => ("ThinLineModel", "scoreRow", "[J", true)
  | 44 => ("ThinLineModel", "firstSaid", "[I", true)
  | 45 => ("ThinLineModel", "noiseOf", "[J", true)
  | 46 => ("ThinLineModel", "noiseMany", "[I", true)
  | 47 => ("ThinLineModel", "images", "[I", true)
  | _ => ("ThinLineModel", "isMade", "[Z", true)
def tyX12 : Nat → FieldType := fun k => match k with
  | 0 => .array .int
  | 1 => .array .byte
  | 2 => .int
  | 3 => .array .int
  | 4 => .array .int
  | 5 => .array .int
  | 6 => .array .int
  | 7 => .array .int
  | 8 => .array .int
  | 9 => .array .int
  | 10 => .array .int
  | 11 => .array .int
  | 12 => .array .int
  | 13 => .array .int
  | 14 => .array .int
  | 15 => .array .int
  | 16 => .array .int
  | 17 => .int
  | 18 => .int
  | 19 => .int
  | 20 => .int
  | 21 => .int
  | 22 => .int
  | 23 => .int
  | 24 => .array .int
  | 25 => .int
  | 26 => .array .long
  | 27 => .int
  | 28 => .array .long
  | 29 => .long
  | 30 => .array .int
  | 31 => .array .boolean
  | 32 => .int
  | 33 => .int
  | 34 => .int
  | 35 => .array .int
  | 36 => .array .long
  | 37 => .int
  | 38 => .array .long
  | 39 => .int
  | 40 => .boolean
  | 41 => .array .long
  | 42 => .array .boolean
  | 43 => .array .long
  | 44 => .array .int
  | 45 => .array .long
  | 46 => .array .int
  | 47 => .array .int
  | _ => .array .boolean
abbrev wsX120 : List Cond := u_ws RX12 TX12 49
theorem nmX12 : ∀ a, a < 49 → ∀ b, b < 49 → a ≠ b → (TX12 a).2.1 ≠ (TX12 b).2.1 := by decide +kernel
theorem tyX12_ok : ∀ k, k < 49 → parseFieldDescriptor (TX12 k).2.2.1 = some (tyX12 k) := by decide +kernel
abbrev cX12_init : ByteArray := prog_14_method_1_code
def yX12_init : MethodName := ⟨RX12, "<init>", "()V"⟩
abbrev cX12_in : ByteArray := prog_14_method_2_code
def yX12_in : MethodName := ⟨RX12, "in", "(JJJ)Z"⟩
abbrev cX12_held : ByteArray := prog_14_method_3_code
def yX12_held : MethodName := ⟨RX12, "held", "(JJJ)J"⟩
abbrev cX12_down : ByteArray := prog_14_method_4_code
def yX12_down : MethodName := ⟨RX12, "down", "(JJ)J"⟩
abbrev cX12_size : ByteArray := prog_14_method_5_code
def yX12_size : MethodName := ⟨RX12, "size", "(J)J"⟩
abbrev cX12_isRow : ByteArray := prog_14_method_6_code
def yX12_isRow : MethodName := ⟨RX12, "isRow", "(I)Z"⟩
abbrev cX12_isColour : ByteArray := prog_14_method_7_code
def yX12_isColour : MethodName := ⟨RX12, "isColour", "(I)Z"⟩
abbrev cX12_isWeek : ByteArray := prog_14_method_8_code
def yX12_isWeek : MethodName := ⟨RX12, "isWeek", "(I)Z"⟩
abbrev cX12_rowOf : ByteArray := prog_14_method_9_code
def yX12_rowOf : MethodName := ⟨RX12, "rowOf", "(II)I"⟩
abbrev cX12_lineOf : ByteArray := prog_14_method_10_code
def yX12_lineOf : MethodName := ⟨RX12, "lineOf", "(II)I"⟩
abbrev cX12_clock : ByteArray := prog_14_method_11_code
def yX12_clock : MethodName := ⟨RX12, "clock", "(I)Z"⟩
abbrev cX12_row : ByteArray := prog_14_method_12_code
def yX12_row : MethodName := ⟨RX12, "row", "(II)I"⟩
abbrev cX12_raw : ByteArray := prog_14_method_13_code
def yX12_raw : MethodName := ⟨RX12, "raw", "(III)I"⟩
abbrev cX12_readAt : ByteArray := prog_14_method_14_code
def yX12_readAt : MethodName := ⟨RX12, "readAt", "(II)I"⟩
abbrev cX12_read : ByteArray := prog_14_method_15_code
def yX12_read : MethodName := ⟨RX12, "read", "(II)I"⟩
abbrev cX12_slip : ByteArray := prog_14_method_16_code
def yX12_slip : MethodName := ⟨RX12, "slip", "(IIII)I"⟩
abbrev cX12_anew : ByteArray := prog_14_method_17_code
def yX12_anew : MethodName := ⟨RX12, "anew", "(II)I"⟩
abbrev cX12_depthOf : ByteArray := prog_14_method_18_code
def yX12_depthOf : MethodName := ⟨RX12, "depthOf", "(II)I"⟩
abbrev cX12_line : ByteArray := prog_14_method_19_code
def yX12_line : MethodName := ⟨RX12, "line", "(III)I"⟩
abbrev cX12_four : ByteArray := prog_14_method_20_code
def yX12_four : MethodName := ⟨RX12, "four", "(I)V"⟩
abbrev cX12_feed : ByteArray := prog_14_method_21_code
def yX12_feed : MethodName := ⟨RX12, "feed", "(IIIII)I"⟩
abbrev cX12_end : ByteArray := prog_14_method_22_code
def yX12_end : MethodName := ⟨RX12, "end", "(I)I"⟩
abbrev cX12_fails : ByteArray := prog_14_method_23_code
def yX12_fails : MethodName := ⟨RX12, "fails", "(II)Z"⟩
abbrev cX12_see : ByteArray := prog_14_method_24_code
def yX12_see : MethodName := ⟨RX12, "see", "()I"⟩
abbrev cX12_isDigit : ByteArray := prog_14_method_25_code
def yX12_isDigit : MethodName := ⟨RX12, "isDigit", "(I)Z"⟩
abbrev cX12_isLetter : ByteArray := prog_14_method_26_code
def yX12_isLetter : MethodName := ⟨RX12, "isLetter", "(I)Z"⟩
abbrev cX12_isWord : ByteArray := prog_14_method_27_code
def yX12_isWord : MethodName := ⟨RX12, "isWord", "(J)Z"⟩
abbrev cX12_passWord : ByteArray := prog_14_method_28_code
def yX12_passWord : MethodName := ⟨RX12, "passWord", "()V"⟩
abbrev cX12_takesWord : ByteArray := prog_14_method_29_code
def yX12_takesWord : MethodName := ⟨RX12, "takesWord", "(J)Z"⟩
abbrev cX12_numberHere : ByteArray := prog_14_method_30_code
def yX12_numberHere : MethodName := ⟨RX12, "numberHere", "(II)Z"⟩
abbrev cX12_kindOf : ByteArray := prog_14_method_31_code
def yX12_kindOf : MethodName := ⟨RX12, "kindOf", "(I)I"⟩
abbrev cX12_wordHere : ByteArray := prog_14_method_32_code
def yX12_wordHere : MethodName := ⟨RX12, "wordHere", "()I"⟩
abbrev cX12_puts : ByteArray := prog_14_method_33_code
def yX12_puts : MethodName := ⟨RX12, "puts", "(II)V"⟩
abbrev cX12_makes : ByteArray := prog_14_method_34_code
def yX12_makes : MethodName := ⟨RX12, "makes", "(I)Z"⟩
abbrev cX12_opens : ByteArray := prog_14_method_35_code
def yX12_opens : MethodName := ⟨RX12, "opens", "(I)Z"⟩
abbrev cX12_strength : ByteArray := prog_14_method_36_code
def yX12_strength : MethodName := ⟨RX12, "strength", "(I)I"⟩
abbrev cX12_settles : ByteArray := prog_14_method_37_code
def yX12_settles : MethodName := ⟨RX12, "settles", "(I)V"⟩
abbrev cX12_value : ByteArray := prog_14_method_38_code
def yX12_value : MethodName := ⟨RX12, "value", "()Z"⟩
abbrev cX12_term : ByteArray := prog_14_method_39_code
def yX12_term : MethodName := ⟨RX12, "term", "()Z"⟩
abbrev cX12_sum : ByteArray := prog_14_method_40_code
def yX12_sum : MethodName := ⟨RX12, "sum", "()Z"⟩
abbrev cX12_compare : ByteArray := prog_14_method_41_code
def yX12_compare : MethodName := ⟨RX12, "compare", "()Z"⟩
abbrev cX12_fact : ByteArray := prog_14_method_42_code
def yX12_fact : MethodName := ⟨RX12, "fact", "()Z"⟩
abbrev cX12_isInside : ByteArray := prog_14_method_43_code
def yX12_isInside : MethodName := ⟨RX12, "isInside", "()Z"⟩
abbrev cX12_closes : ByteArray := prog_14_method_44_code
def yX12_closes : MethodName := ⟨RX12, "closes", "()V"⟩
abbrev cX12_tested : ByteArray := prog_14_method_45_code
def yX12_tested : MethodName := ⟨RX12, "tested", "()Z"⟩
abbrev cX12_clauseOf : ByteArray := prog_14_method_46_code
def yX12_clauseOf : MethodName := ⟨RX12, "clauseOf", "(Z)Z"⟩
abbrev cX12_sets : ByteArray := prog_14_method_47_code
def yX12_sets : MethodName := ⟨RX12, "sets", "([IIII)Z"⟩
abbrev cX12_eaten : ByteArray := prog_14_method_48_code
def yX12_eaten : MethodName := ⟨RX12, "eaten", "()Z"⟩
abbrev cX12_rippled : ByteArray := prog_14_method_49_code
def yX12_rippled : MethodName := ⟨RX12, "rippled", "(I)Z"⟩
abbrev cX12_gapped : ByteArray := prog_14_method_50_code
def yX12_gapped : MethodName := ⟨RX12, "gapped", "(I)Z"⟩
abbrev cX12_clauseHere : ByteArray := prog_14_method_51_code
def yX12_clauseHere : MethodName := ⟨RX12, "clauseHere", "()Z"⟩
abbrev cX12_mostOf : ByteArray := prog_14_method_52_code
def yX12_mostOf : MethodName := ⟨RX12, "mostOf", "(I)I"⟩
abbrev cX12_firstOf : ByteArray := prog_14_method_53_code
def yX12_firstOf : MethodName := ⟨RX12, "firstOf", "(I)I"⟩
abbrev cX12_text : ByteArray := prog_14_method_54_code
def yX12_text : MethodName := ⟨RX12, "text", "(I)I"⟩
abbrev cX12_isText : ByteArray := prog_14_method_55_code
def yX12_isText : MethodName := ⟨RX12, "isText", "(II)Z"⟩
abbrev cX12_push : ByteArray := prog_14_method_56_code
def yX12_push : MethodName := ⟨RX12, "push", "(J)V"⟩
abbrev cX12_pop : ByteArray := prog_14_method_57_code
def yX12_pop : MethodName := ⟨RX12, "pop", "()J"⟩
abbrev cX12_one : ByteArray := prog_14_method_58_code
def yX12_one : MethodName := ⟨RX12, "one", "(IJJ)J"⟩
abbrev cX12_reckons : ByteArray := prog_14_method_59_code
def yX12_reckons : MethodName := ⟨RX12, "reckons", "(III)J"⟩
abbrev cX12_isHolding : ByteArray := prog_14_method_60_code
def yX12_isHolding : MethodName := ⟨RX12, "isHolding", "(II)Z"⟩
abbrev cX12_summed : ByteArray := prog_14_method_61_code
def yX12_summed : MethodName := ⟨RX12, "summed", "(II)J"⟩
abbrev cX12_words : ByteArray := prog_14_method_62_code
def yX12_words : MethodName := ⟨RX12, "words", "(II)V"⟩
abbrev cX12_makesAt : ByteArray := prog_14_method_63_code
def yX12_makesAt : MethodName := ⟨RX12, "makesAt", "(IIIZ)I"⟩
abbrev cX12_make : ByteArray := prog_14_method_64_code
def yX12_make : MethodName := ⟨RX12, "make", "(IIIII)I"⟩
abbrev cX12_lifts : ByteArray := prog_14_method_65_code
def yX12_lifts : MethodName := ⟨RX12, "lifts", "(I)V"⟩
abbrev cX12_uses : ByteArray := prog_14_method_66_code
def yX12_uses : MethodName := ⟨RX12, "uses", "(IIII)V"⟩
abbrev cX12_bows : ByteArray := prog_14_method_67_code
def yX12_bows : MethodName := ⟨RX12, "bows", "(II)Z"⟩
abbrev cX12_heightAt : ByteArray := prog_14_method_68_code
def yX12_heightAt : MethodName := ⟨RX12, "heightAt", "(I)J"⟩
abbrev cX12_deepNow : ByteArray := prog_14_method_69_code
def yX12_deepNow : MethodName := ⟨RX12, "deepNow", "()J"⟩
abbrev cX12_noiseNow : ByteArray := prog_14_method_70_code
def yX12_noiseNow : MethodName := ⟨RX12, "noiseNow", "()J"⟩
abbrev cX12_scoreNow : ByteArray := prog_14_method_71_code
def yX12_scoreNow : MethodName := ⟨RX12, "scoreNow", "(IIIII)J"⟩
abbrev cX12_own : ByteArray := prog_14_method_72_code
def yX12_own : MethodName := ⟨RX12, "own", "(II)J"⟩
abbrev cX12_scoreOf : ByteArray := prog_14_method_73_code
def yX12_scoreOf : MethodName := ⟨RX12, "scoreOf", "(II)J"⟩
abbrev cX12_canAsk : ByteArray := prog_14_method_74_code
def yX12_canAsk : MethodName := ⟨RX12, "canAsk", "(II)Z"⟩
abbrev cX12_curve : ByteArray := prog_14_method_75_code
def yX12_curve : MethodName := ⟨RX12, "curve", "(IIII)I"⟩
abbrev cX12_deep : ByteArray := prog_14_method_76_code
def yX12_deep : MethodName := ⟨RX12, "deep", "(III)J"⟩
abbrev cX12_lengthOf : ByteArray := prog_14_method_77_code
def yX12_lengthOf : MethodName := ⟨RX12, "lengthOf", "(I)I"⟩
abbrev cX12_movedTo : ByteArray := prog_14_method_78_code
def yX12_movedTo : MethodName := ⟨RX12, "movedTo", "(III)J"⟩
abbrev cX12_moved : ByteArray := prog_14_method_79_code
def yX12_moved : MethodName := ⟨RX12, "moved", "(III)J"⟩
abbrev cX12_elsewhere : ByteArray := prog_14_method_80_code
def yX12_elsewhere : MethodName := ⟨RX12, "elsewhere", "(III)I"⟩
abbrev cX12_drawn : ByteArray := prog_14_method_81_code
def yX12_drawn : MethodName := ⟨RX12, "drawn", "(IIIII)I"⟩
abbrev cX12_bent : ByteArray := prog_14_method_82_code
def yX12_bent : MethodName := ⟨RX12, "bent", "(III)J"⟩
abbrev cX12_best : ByteArray := prog_14_method_83_code
def yX12_best : MethodName := ⟨RX12, "best", "(IIII)J"⟩
abbrev cX12_taken : ByteArray := prog_14_method_84_code
def yX12_taken : MethodName := ⟨RX12, "taken", "(IIII)I"⟩
abbrev cX12_apart : ByteArray := prog_14_method_85_code
def yX12_apart : MethodName := ⟨RX12, "apart", "(III)I"⟩
abbrev cX12_amountOf : ByteArray := prog_14_method_86_code
def yX12_amountOf : MethodName := ⟨RX12, "amountOf", "(I)J"⟩
abbrev cX12_isElse : ByteArray := prog_14_method_87_code
def yX12_isElse : MethodName := ⟨RX12, "isElse", "(II)Z"⟩
abbrev cX12_elses : ByteArray := prog_14_method_88_code
def yX12_elses : MethodName := ⟨RX12, "elses", "(I)I"⟩
abbrev cX12_theres : ByteArray := prog_14_method_89_code
def yX12_theres : MethodName := ⟨RX12, "theres", "(I)I"⟩
abbrev cX12_boundOf : ByteArray := prog_14_method_90_code
def yX12_boundOf : MethodName := ⟨RX12, "boundOf", "(I)J"⟩
abbrev cX12_stuff : ByteArray := prog_14_method_91_code
def yX12_stuff : MethodName := ⟨RX12, "stuff", "(IIII)J"⟩
abbrev cX12_likeliest : ByteArray := prog_14_method_92_code
def yX12_likeliest : MethodName := ⟨RX12, "likeliest", "(II)I"⟩
abbrev cX12_isKnown : ByteArray := prog_14_method_93_code
def yX12_isKnown : MethodName := ⟨RX12, "isKnown", "(II)Z"⟩
abbrev cX12_rows : ByteArray := prog_14_method_94_code
def yX12_rows : MethodName := ⟨RX12, "rows", "(I)V"⟩
abbrev cX12_divisor : ByteArray := prog_14_method_95_code
def yX12_divisor : MethodName := ⟨RX12, "divisor", "(JJ)J"⟩
abbrev cX12_together : ByteArray := prog_14_method_96_code
def yX12_together : MethodName := ⟨RX12, "together", "(IIII)I"⟩
abbrev cX12_hour : ByteArray := prog_14_method_97_code
def yX12_hour : MethodName := ⟨RX12, "hour", "(III)I"⟩
abbrev cX12_saidIn : ByteArray := prog_14_method_98_code
def yX12_saidIn : MethodName := ⟨RX12, "saidIn", "(II)I"⟩
abbrev cX12_said : ByteArray := prog_14_method_99_code
def yX12_said : MethodName := ⟨RX12, "said", "(III)I"⟩
abbrev cX12_weeks : ByteArray := prog_14_method_100_code
def yX12_weeks : MethodName := ⟨RX12, "weeks", "(IIIIII)I"⟩
abbrev cX12_powerOf : ByteArray := prog_14_method_101_code
def yX12_powerOf : MethodName := ⟨RX12, "powerOf", "(I)J"⟩
abbrev cX12_periodNow : ByteArray := prog_14_method_102_code
def yX12_periodNow : MethodName := ⟨RX12, "periodNow", "()I"⟩
abbrev cX12_ripple : ByteArray := prog_14_method_103_code
def yX12_ripple : MethodName := ⟨RX12, "ripple", "(III)J"⟩
abbrev cX12_meanLeft : ByteArray := prog_14_method_104_code
def yX12_meanLeft : MethodName := ⟨RX12, "meanLeft", "(II)J"⟩
abbrev cX12_smooth : ByteArray := prog_14_method_105_code
def yX12_smooth : MethodName := ⟨RX12, "smooth", "(II)I"⟩
abbrev cX12_deepWithout : ByteArray := prog_14_method_106_code
def yX12_deepWithout : MethodName := ⟨RX12, "deepWithout", "(III)J"⟩
abbrev cX12_without : ByteArray := prog_14_method_107_code
def yX12_without : MethodName := ⟨RX12, "without", "(III)I"⟩
abbrev cX12_weightiest : ByteArray := prog_14_method_108_code
def yX12_weightiest : MethodName := ⟨RX12, "weightiest", "(II)I"⟩
abbrev cX12_deepest : ByteArray := prog_14_method_109_code
def yX12_deepest : MethodName := ⟨RX12, "deepest", "(III)J"⟩
abbrev cX12_house : ByteArray := prog_14_method_110_code
def yX12_house : MethodName := ⟨RX12, "house", "(III)I"⟩
abbrev cX12_firsts : ByteArray := prog_14_method_111_code
def yX12_firsts : MethodName := ⟨RX12, "firsts", "()V"⟩
abbrev cX12_says : ByteArray := prog_14_method_112_code
def yX12_says : MethodName := ⟨RX12, "says", "(II)I"⟩
abbrev cX12_sayers : ByteArray := prog_14_method_113_code
def yX12_sayers : MethodName := ⟨RX12, "sayers", "(I)I"⟩
abbrev cX12_agreed : ByteArray := prog_14_method_114_code
def yX12_agreed : MethodName := ⟨RX12, "agreed", "(I)I"⟩
abbrev cX12_alone : ByteArray := prog_14_method_115_code
def yX12_alone : MethodName := ⟨RX12, "alone", "(I)I"⟩
abbrev cX12_odd : ByteArray := prog_14_method_116_code
def yX12_odd : MethodName := ⟨RX12, "odd", "(II)I"⟩
abbrev cX12_candidate : ByteArray := prog_14_method_117_code
def yX12_candidate : MethodName := ⟨RX12, "candidate", "(II)I"⟩
abbrev cX12_noises : ByteArray := prog_14_method_118_code
def yX12_noises : MethodName := ⟨RX12, "noises", "(I)V"⟩
abbrev cX12_worthOf : ByteArray := prog_14_method_119_code
def yX12_worthOf : MethodName := ⟨RX12, "worthOf", "(I)J"⟩
abbrev cX12_next : ByteArray := prog_14_method_120_code
def yX12_next : MethodName := ⟨RX12, "next", "(III)J"⟩
abbrev cX12_told : ByteArray := prog_14_method_121_code
def yX12_told : MethodName := ⟨RX12, "told", "(II)I"⟩
abbrev cX12_givesOf : ByteArray := prog_14_method_122_code
def yX12_givesOf : MethodName := ⟨RX12, "givesOf", "(I)I"⟩
abbrev cX12_gives : ByteArray := prog_14_method_123_code
def yX12_gives : MethodName := ⟨RX12, "gives", "(I)I"⟩
abbrev cX12_givenBy : ByteArray := prog_14_method_124_code
def yX12_givenBy : MethodName := ⟨RX12, "givenBy", "(I)I"⟩
abbrev cX12_brief : ByteArray := prog_14_method_125_code
def yX12_brief : MethodName := ⟨RX12, "brief", "(I)I"⟩
abbrev cX12_bits : ByteArray := prog_14_method_126_code
def yX12_bits : MethodName := ⟨RX12, "bits", "(I)I"⟩
abbrev cX12_fewest : ByteArray := prog_14_method_127_code
def yX12_fewest : MethodName := ⟨RX12, "fewest", "(II)I"⟩
abbrev cX12_count : ByteArray := prog_14_method_128_code
def yX12_count : MethodName := ⟨RX12, "count", "(I)I"⟩
abbrev cX12_image : ByteArray := prog_14_method_129_code
def yX12_image : MethodName := ⟨RX12, "image", "(I)I"⟩
abbrev cX12_back : ByteArray := prog_14_method_130_code
def yX12_back : MethodName := ⟨RX12, "back", "(I)I"⟩
def RJx145de : String := "java/io/Serializable"
def RJx9f9b0 : String := "java/lang/CharSequence"
def RJxb160c : String := "java/lang/Comparable"
def RJ6 : String := "java/lang/Integer"
abbrev cJ6_bitCount_0f7a4 : ByteArray := prog_15_method_49_code
def yJ6_bitCount_0f7a4 : MethodName := ⟨RJ6, "bitCount", "(I)I"⟩
def RJ9 : String := "java/lang/Math"
abbrev cJ9_floorDiv_7cf53 : ByteArray := prog_16_method_47_code
def yJ9_floorDiv_7cf53 : MethodName := ⟨RJ9, "floorDiv", "(II)I"⟩
abbrev cJ9_floorDiv_f86c9 : ByteArray := prog_16_method_49_code
def yJ9_floorDiv_f86c9 : MethodName := ⟨RJ9, "floorDiv", "(JJ)J"⟩
abbrev cJ9_abs_0f7a4 : ByteArray := prog_16_method_59_code
def yJ9_abs_0f7a4 : MethodName := ⟨RJ9, "abs", "(I)I"⟩
abbrev cJ9_max_7cf53 : ByteArray := prog_16_method_65_code
def yJ9_max_7cf53 : MethodName := ⟨RJ9, "max", "(II)I"⟩
abbrev cJ9_max_f86c9 : ByteArray := prog_16_method_66_code
def yJ9_max_f86c9 : MethodName := ⟨RJ9, "max", "(JJ)J"⟩
abbrev cJ9_min_7cf53 : ByteArray := prog_16_method_69_code
def yJ9_min_7cf53 : MethodName := ⟨RJ9, "min", "(II)I"⟩
abbrev cJ9_min_f86c9 : ByteArray := prog_16_method_70_code
def yJ9_min_f86c9 : MethodName := ⟨RJ9, "min", "(JJ)J"⟩
def RJ0 : String := "java/lang/String"
abbrev cJ0_length_8abf5 : ByteArray := prog_17_method_54_code
def yJ0_length_8abf5 : MethodName := ⟨RJ0, "length", "()I"⟩
abbrev cJ0_charAt_5068e : ByteArray := prog_17_method_56_code
def yJ0_charAt_5068e : MethodName := ⟨RJ0, "charAt", "(I)C"⟩
abbrev cJ0_coder_7d493 : ByteArray := prog_17_method_152_code
def yJ0_coder_7d493 : MethodName := ⟨RJ0, "coder", "()B"⟩
abbrev cJ0_isLatin1_aae02 : ByteArray := prog_17_method_154_code
def yJ0_isLatin1_aae02 : MethodName := ⟨RJ0, "isLatin1", "()Z"⟩
abbrev cJ0_checkIndex_df160 : ByteArray := prog_17_method_155_code
def yJ0_checkIndex_df160 : MethodName := ⟨RJ0, "checkIndex", "(II)V"⟩
def RJ1 : String := "java/lang/StringLatin1"
abbrev cJ1_charAt_3b067 : ByteArray := prog_18_method_2_code
def yJ1_charAt_3b067 : MethodName := ⟨RJ1, "charAt", "([BI)C"⟩
def RJ2 : String := "java/lang/StringUTF16"
abbrev cJ2_getChar_3b067 : ByteArray := prog_19_method_5_code
def yJ2_getChar_3b067 : MethodName := ⟨RJ2, "getChar", "([BI)C"⟩
abbrev cJ2_length_9d52b : ByteArray := prog_19_method_6_code
def yJ2_length_9d52b : MethodName := ⟨RJ2, "length", "([B)I"⟩
abbrev cJ2_charAt_3b067 : ByteArray := prog_19_method_83_code
def yJ2_charAt_3b067 : MethodName := ⟨RJ2, "charAt", "([BI)C"⟩
abbrev cJ2_checkIndex_2214a : ByteArray := prog_19_method_91_code
def yJ2_checkIndex_2214a : MethodName := ⟨RJ2, "checkIndex", "(I[B)V"⟩
def RJ10 : String := "java/lang/System"
def RJxfd54e : String := "java/lang/constant/Constable"
def RJx3cf43 : String := "java/lang/constant/ConstantDesc"
def RJ7 : String := "java/util/Arrays"
abbrev cJ7_fill_d0a16 : ByteArray := prog_21_method_101_code
def yJ7_fill_d0a16 : MethodName := ⟨RJ7, "fill", "([JJ)V"⟩
abbrev cJ7_fill_53178 : ByteArray := prog_21_method_103_code
def yJ7_fill_53178 : MethodName := ⟨RJ7, "fill", "([II)V"⟩
def RJ3 : String := "jdk/internal/util/Preconditions"
abbrev cJ3_checkIndex_8e157 : ByteArray := prog_22_method_11_code
def yJ3_checkIndex_8e157 : MethodName := ⟨RJ3, "checkIndex", "(IILjava/util/function/BiFunction;)I"⟩
def RL : String := "ThinLineLaw"
abbrev cL_law : ByteArray := code
def yL_law : MethodName := ⟨RL, "law", "([I)Z"⟩
def wsL_law_r1 : List Cond := [Cond.classLink RL 7 RX11, Cond.instantiable RX11 16, Cond.initialized RX11, Cond.classLink RL 10 RX12, Cond.instantiable RX12 49, Cond.initialized RX12, Cond.methodLink RL 9 yX11_init, Cond.instanceMethod yX11_init, Cond.code yX11_init cX11_init 1 none, Cond.methodLink RX11 1 objectInit, Cond.instanceMethod objectInit, Cond.code objectInit ⟨#[0xb1]⟩ 1 none, Cond.classLink RX11 7 RX0, Cond.instantiable RX0 9, Cond.initialized RX0, Cond.fieldLink RX11 10 "ThinLine" "book" "LThinLine$Book;", Cond.fieldLink RX11 16 "ThinLine" "images" "[LThinLine$Book;", Cond.classLink RX11 20 RX8, Cond.instantiable RX8 2, Cond.initialized RX8, Cond.fieldLink RX11 25 "ThinLine" "laws" "LThinLine$Texts;", Cond.fieldLink RX11 29 "ThinLine" "curves" "LThinLine$Texts;", Cond.fieldLink RX11 32 "ThinLine" "ways" "LThinLine$Texts;", Cond.classLink RX11 35 RX2]
def wsL_law_r2 : List Cond := [Cond.instantiable RX2 6, Cond.initialized RX2, Cond.fieldLink RX11 38 "ThinLine" "parser" "LThinLine$Parser;", Cond.classLink RX11 42 RX7, Cond.instantiable RX7 9, Cond.initialized RX7, Cond.fieldLink RX11 45 "ThinLine" "draft" "LThinLine$Text;", Cond.classLink RX11 49 RX5, Cond.instantiable RX5 2, Cond.initialized RX5, Cond.fieldLink RX11 52 "ThinLine" "sums" "LThinLine$Sums;", Cond.classLink RX11 56 RX1, Cond.instantiable RX1 5, Cond.initialized RX1, Cond.fieldLink RX11 59 "ThinLine" "maker" "LThinLine$Maker;", Cond.classLink RX11 63 RX10, Cond.instantiable RX10 18, Cond.initialized RX10, Cond.fieldLink RX11 66 "ThinLine" "view" "LThinLine$View;", Cond.classLink RX11 70 RX3, Cond.instantiable RX3 2, Cond.initialized RX3, Cond.fieldLink RX11 73 "ThinLine" "rests" "LThinLine$Rests;", Cond.arrayClass .int]
def wsL_law_r3 : List Cond := [Cond.fieldLink RX11 77 "ThinLine" "rowDeeps" "[I", Cond.fieldLink RX11 81 "ThinLine" "sorted" "[I", Cond.fieldLink RX11 84 "ThinLine" "firstWeeks" "[I", Cond.arrayClass .long, Cond.fieldLink RX11 87 "ThinLine" "worths" "[J", Cond.fieldLink RX11 91 "ThinLine" "given" "[I", Cond.instanceMethod yX0_init, Cond.code yX0_init cX0_init 1 none, Cond.methodLink RX0 3 objectInit, Cond.fieldLink RX0 9 "ThinLine$Book" "told" "[I", Cond.classLink RX0 15 RX4, Cond.instantiable RX4 6, Cond.initialized RX4, Cond.fieldLink RX0 18 "ThinLine$Book" "rows" "LThinLine$Rows;", Cond.classLink RX0 22 RX6, Cond.instantiable RX6 3, Cond.initialized RX6, Cond.fieldLink RX0 27 "ThinLine$Book" "slips" "LThinLine$Table;", Cond.fieldLink RX0 31 "ThinLine$Book" "lines" "LThinLine$Table;", Cond.fieldLink RX0 34 "ThinLine$Book" "candidates" "LThinLine$Table;", Cond.fieldLink RX0 37 "ThinLine$Book" "houses" "LThinLine$Table;", Cond.fieldLink RX0 40 "ThinLine$Book" "tape" "[I", Cond.instanceMethod yX4_init, Cond.code yX4_init cX4_init 1 none]
def wsL_law_r4 : List Cond := [Cond.methodLink RX4 3 objectInit, Cond.fieldLink RX4 9 "ThinLine$Rows" "glass" "[I", Cond.fieldLink RX4 15 "ThinLine$Rows" "hour" "[I", Cond.fieldLink RX4 18 "ThinLine$Rows" "known" "[I", Cond.classLink RX4 21 "[[I", Cond.fieldLink RX4 23 "ThinLine$Rows" "raw" "[[I", Cond.instanceMethod yX6_init, Cond.code yX6_init cX6_init 2 none, Cond.methodLink RX6 3 objectInit, Cond.methodLink RX6 9 Lib.Math.max.name, Cond.static Lib.Math.max.name, Cond.initialized "java/lang/Math", Cond.code Lib.Math.max.name Lib.Math.max.code 2 (some .int), Cond.fieldLink RX6 15 "ThinLine$Table" "most" "I", Cond.fieldLink RX6 21 "ThinLine$Table" "cells" "[I", Cond.instanceMethod yX8_init, Cond.code yX8_init cX8_init 2 none, Cond.methodLink RX8 3 objectInit, Cond.methodLink RX8 9 Lib.Math.max.name, Cond.classLink RX8 15 RX7, Cond.fieldLink RX8 17 "ThinLine$Texts" "kept" "[LThinLine$Text;", Cond.instanceMethod yX2_init, Cond.code yX2_init cX2_init 1 none, Cond.methodLink RX2 3 objectInit]
def wsL_law_r5 : List Cond := [Cond.classLink RX2 9 RX9, Cond.instantiable RX9 4, Cond.initialized RX9, Cond.fieldLink RX2 12 "ThinLine$Parser" "tokens" "LThinLine$Tokens;", Cond.classLink RX2 18 RX7, Cond.fieldLink RX2 21 "ThinLine$Parser" "text" "LThinLine$Text;", Cond.instanceMethod yX9_init, Cond.code yX9_init cX9_init 1 none, Cond.methodLink RX9 3 objectInit, Cond.fieldLink RX9 9 "ThinLine$Tokens" "kind" "[I", Cond.fieldLink RX9 15 "ThinLine$Tokens" "place" "[I", Cond.fieldLink RX9 18 "ThinLine$Tokens" "value" "[I", Cond.instanceMethod yX7_init, Cond.code yX7_init cX7_init 1 none, Cond.methodLink RX7 3 objectInit, Cond.fieldLink RX7 9 "ThinLine$Text" "head" "[I", Cond.fieldLink RX7 15 "ThinLine$Text" "first" "[I", Cond.fieldLink RX7 18 "ThinLine$Text" "second" "[I", Cond.fieldLink RX7 21 "ThinLine$Text" "sumAt" "[I", Cond.fieldLink RX7 24 "ThinLine$Text" "testAt" "[I", Cond.fieldLink RX7 27 "ThinLine$Text" "endAt" "[I", Cond.fieldLink RX7 30 "ThinLine$Text" "steps" "[I", Cond.instanceMethod yX5_init, Cond.code yX5_init cX5_init 1 none]
def wsL_law_r6 : List Cond := [Cond.methodLink RX5 3 objectInit, Cond.fieldLink RX5 9 "ThinLine$Sums" "words" "[J", Cond.fieldLink RX5 15 "ThinLine$Sums" "stack" "[J", Cond.instanceMethod yX1_init, Cond.code yX1_init cX1_init 1 none, Cond.methodLink RX1 3 objectInit, Cond.fieldLink RX1 9 "ThinLine$Maker" "eaten" "[I", Cond.instanceMethod yX10_init, Cond.code yX10_init cX10_init 1 none, Cond.methodLink RX10 3 objectInit, Cond.arrayClass .boolean, Cond.fieldLink RX10 9 "ThinLine$View" "told" "[Z", Cond.fieldLink RX10 15 "ThinLine$View" "skipped" "[Z", Cond.fieldLink RX10 18 "ThinLine$View" "used" "[Z", Cond.fieldLink RX10 21 "ThinLine$View" "seen" "[I", Cond.fieldLink RX10 25 "ThinLine$View" "height" "[I", Cond.fieldLink RX10 28 "ThinLine$View" "openAhead" "[I", Cond.fieldLink RX10 31 "ThinLine$View" "sumAhead" "[I", Cond.fieldLink RX10 34 "ThinLine$View" "knotColour" "[I", Cond.fieldLink RX10 37 "ThinLine$View" "knotHeight" "[I", Cond.instanceMethod yX3_init, Cond.code yX3_init cX3_init 1 none, Cond.methodLink RX3 3 objectInit, Cond.fieldLink RX3 9 "ThinLine$Rests" "left" "[J"]
def wsL_law_r7 : List Cond := [Cond.fieldLink RX3 15 "ThinLine$Rests" "many" "[I", Cond.methodLink RL 12 yX12_init, Cond.instanceMethod yX12_init, Cond.code yX12_init cX12_init 2 none, Cond.methodLink RX12 1 objectInit, Cond.fieldLink RX12 7 "ThinLineModel" "said" "[I", Cond.arrayClass .byte, Cond.fieldLink RX12 13 "ThinLineModel" "tape" "[B", Cond.fieldLink RX12 17 "ThinLineModel" "texts" "[I", Cond.fieldLink RX12 20 "ThinLineModel" "sign" "[I", Cond.fieldLink RX12 23 "ThinLineModel" "length" "[I", Cond.fieldLink RX12 26 "ThinLineModel" "clause" "[I", Cond.fieldLink RX12 29 "ThinLineModel" "clauses" "[I", Cond.fieldLink RX12 32 "ThinLineModel" "eats" "[I", Cond.fieldLink RX12 35 "ThinLineModel" "eaters" "[I", Cond.fieldLink RX12 38 "ThinLineModel" "beat" "[I", Cond.fieldLink RX12 41 "ThinLineModel" "high" "[I", Cond.fieldLink RX12 44 "ThinLineModel" "noise" "[I", Cond.fieldLink RX12 47 "ThinLineModel" "bends" "[I", Cond.fieldLink RX12 50 "ThinLineModel" "gapFrom" "[I", Cond.fieldLink RX12 53 "ThinLineModel" "gapTo" "[I", Cond.fieldLink RX12 56 "ThinLineModel" "wide" "[I", Cond.fieldLink RX12 59 "ThinLineModel" "open" "[I", Cond.fieldLink RX12 62 "ThinLineModel" "stack" "[J"]
def wsL_law_r8 : List Cond := [Cond.fieldLink RX12 66 "ThinLineModel" "word" "[J", Cond.fieldLink RX12 69 "ThinLineModel" "look" "[I", Cond.fieldLink RX12 72 "ThinLineModel" "isUsed" "[Z", Cond.fieldLink RX12 76 "ThinLineModel" "knotAt" "[I", Cond.fieldLink RX12 79 "ThinLineModel" "knotHigh" "[J", Cond.fieldLink RX12 82 "ThinLineModel" "left" "[J", Cond.fieldLink RX12 85 "ThinLineModel" "deepRow" "[J", Cond.fieldLink RX12 88 "ThinLineModel" "hasDeep" "[Z", Cond.fieldLink RX12 91 "ThinLineModel" "scoreRow" "[J", Cond.fieldLink RX12 94 "ThinLineModel" "firstSaid" "[I", Cond.fieldLink RX12 97 "ThinLineModel" "noiseOf" "[J", Cond.fieldLink RX12 100 "ThinLineModel" "noiseMany" "[I", Cond.fieldLink RX12 103 "ThinLineModel" "images" "[I", Cond.fieldLink RX12 106 "ThinLineModel" "isMade" "[Z", Cond.constant RX12 109 (-1000000), Cond.methodLink RL 13 yX11_clock, Cond.instanceMethod yX11_clock, Cond.selects RX11 yX11_clock yX11_clock, Cond.code yX11_clock cX11_clock 2 (some .boolean), Cond.methodLink RX11 94 yX11_isWeek, Cond.static yX11_isWeek, Cond.code yX11_isWeek cX11_isWeek 1 (some .boolean), Cond.methodLink RX11 105 yX11_isIn, Cond.static yX11_isIn]
def wsL_law_r9 : List Cond := [Cond.code yX11_isIn cX11_isIn 3 (some .boolean), Cond.methodLink RL 17 yX12_clock, Cond.instanceMethod yX12_clock, Cond.selects RX12 yX12_clock yX12_clock, Cond.code yX12_clock cX12_clock 2 (some .boolean), Cond.constantLong RX12 110 (399), Cond.methodLink RX12 112 yX12_in, Cond.static yX12_in, Cond.code yX12_in cX12_in 6 (some .boolean), Cond.methodLink RL 18 yX11_row, Cond.instanceMethod yX11_row, Cond.selects RX11 yX11_row yX11_row, Cond.code yX11_row cX11_row 3 (some .int), Cond.methodLink RX11 102 yX11_isGlass, Cond.static yX11_isGlass, Cond.code yX11_isGlass cX11_isGlass 1 (some .boolean), Cond.instanceMethod yX4_add, Cond.selects RX4 yX4_add yX4_add, Cond.code yX4_add cX4_add 4 (some .int), Cond.fieldLink RX4 26 "ThinLine$Rows" "size" "I", Cond.constant RX4 30 (-1000000), Cond.methodLink RX4 31 yJ7_fill_53178, Cond.static yJ7_fill_53178, Cond.initialized RJ7]
def wsL_law_r10 : List Cond := [Cond.code yJ7_fill_53178 cJ7_fill_53178 4 none, Cond.methodLink RL 22 yX12_row, Cond.instanceMethod yX12_row, Cond.selects RX12 yX12_row yX12_row, Cond.code yX12_row cX12_row 5 (some .int), Cond.constantLong RX12 116 (3), Cond.constantLong RX12 118 (999), Cond.methodLink RL 23 yX11_raw, Cond.instanceMethod yX11_raw, Cond.selects RX11 yX11_raw yX11_raw, Cond.code yX11_raw cX11_raw 5 (some .int), Cond.constant RX11 119 (-1000000), Cond.constant RX11 120 (-100000), Cond.constant RX11 121 (100000), Cond.constant RX11 128 (-2000000), Cond.instanceMethod yX4_has, Cond.selects RX4 yX4_has yX4_has, Cond.code yX4_has cX4_has 2 (some .boolean), Cond.methodLink RX11 125 yX11_isColour, Cond.static yX11_isColour, Cond.code yX11_isColour cX11_isColour 1 (some .boolean), Cond.instanceMethod yX4_put, Cond.selects RX4 yX4_put yX4_put, Cond.code yX4_put cX4_put 5 (some .int)]
def wsL_law_r11 : List Cond := [Cond.fieldLink RX4 44 "ThinLine$Rows" "numbers" "I", Cond.methodLink RX4 37 yX4_has, Cond.methodLink RL 27 yX12_raw, Cond.instanceMethod yX12_raw, Cond.selects RX12 yX12_raw yX12_raw, Cond.code yX12_raw cX12_raw 5 (some .int), Cond.constantLong RX12 127 (-100000), Cond.constantLong RX12 129 (100000), Cond.constant RX12 131 (-2000000), Cond.methodLink RX12 120 yX12_isRow, Cond.instanceMethod yX12_isRow, Cond.selects RX12 yX12_isRow yX12_isRow, Cond.code yX12_isRow cX12_isRow 2 (some .boolean), Cond.methodLink RX12 124 yX12_isColour, Cond.static yX12_isColour, Cond.code yX12_isColour cX12_isColour 1 (some .boolean), Cond.methodLink RL 28 yX11_read, Cond.instanceMethod yX11_read, Cond.selects RX11 yX11_read yX11_read, Cond.code yX11_read cX11_read 4 (some .int), Cond.instanceMethod yX0_slipped, Cond.selects RX0 yX0_slipped yX0_slipped, Cond.code yX0_slipped cX0_slipped 6 (some .int), Cond.instanceMethod yX6_cell]
def wsL_law_r12 : List Cond := [Cond.selects RX6 yX6_cell yX6_cell, Cond.code yX6_cell cX6_cell 4 (some .int), Cond.fieldLink RX6 25 "ThinLine$Table" "size" "I", Cond.methodLink RL 31 yX12_read, Cond.instanceMethod yX12_read, Cond.selects RX12 yX12_read yX12_read, Cond.code yX12_read cX12_read 3 (some .int), Cond.methodLink RX12 136 yX12_readAt, Cond.instanceMethod yX12_readAt, Cond.selects RX12 yX12_readAt yX12_readAt, Cond.code yX12_readAt cX12_readAt 6 (some .int), Cond.methodLink RX12 132 yX12_rowOf, Cond.instanceMethod yX12_rowOf, Cond.selects RX12 yX12_rowOf yX12_rowOf, Cond.code yX12_rowOf cX12_rowOf 3 (some .int), Cond.methodLink RL 32 yX11_slip, Cond.instanceMethod yX11_slip, Cond.selects RX11 yX11_slip yX11_slip, Cond.code yX11_slip cX11_slip 5 (some .int), Cond.methodLink RX11 143 yX11_isSpan, Cond.static yX11_isSpan, Cond.code yX11_isSpan cX11_isSpan 2 (some .boolean), Cond.instanceMethod yX6_add, Cond.selects RX6 yX6_add yX6_add]
def wsL_law_r13 : List Cond := [Cond.code yX6_add cX6_add 6 (some .int), Cond.methodLink RX6 28 yX6_set, Cond.instanceMethod yX6_set, Cond.selects RX6 yX6_set yX6_set, Cond.code yX6_set cX6_set 4 none, Cond.methodLink RX6 32 yX6_has, Cond.instanceMethod yX6_has, Cond.selects RX6 yX6_has yX6_has, Cond.code yX6_has cX6_has 2 (some .boolean), Cond.methodLink RL 36 yX12_slip, Cond.instanceMethod yX12_slip, Cond.selects RX12 yX12_slip yX12_slip, Cond.code yX12_slip cX12_slip 6 (some .int), Cond.constantLong RX12 139 (-9999), Cond.constantLong RX12 141 (9999), Cond.methodLink RL 37 yX11_anew, Cond.instanceMethod yX11_anew, Cond.selects RX11 yX11_anew yX11_anew, Cond.code yX11_anew cX11_anew 4 (some .int), Cond.methodLink RL 40 yX12_anew, Cond.instanceMethod yX12_anew, Cond.selects RX12 yX12_anew yX12_anew, Cond.code yX12_anew cX12_anew 4 (some .int), Cond.methodLink RL 41 yX11_line]
def wsL_law_r14 : List Cond := [Cond.instanceMethod yX11_line, Cond.selects RX11 yX11_line yX11_line, Cond.code yX11_line cX11_line 4 (some .int), Cond.methodLink RX11 164 yX11_isStuff, Cond.static yX11_isStuff, Cond.code yX11_isStuff cX11_isStuff 1 (some .boolean), Cond.instanceMethod yX0_hasLine, Cond.selects RX0 yX0_hasLine yX0_hasLine, Cond.code yX0_hasLine cX0_hasLine 5 (some .boolean), Cond.methodLink RL 44 yX12_line, Cond.instanceMethod yX12_line, Cond.selects RX12 yX12_line yX12_line, Cond.code yX12_line cX12_line 5 (some .int), Cond.constantLong RX12 146 (11), Cond.constantLong RX12 148 (1000), Cond.methodLink RX12 150 yX12_depthOf, Cond.instanceMethod yX12_depthOf, Cond.selects RX12 yX12_depthOf yX12_depthOf, Cond.code yX12_depthOf cX12_depthOf 4 (some .int), Cond.methodLink RX12 143 yX12_lineOf, Cond.instanceMethod yX12_lineOf, Cond.selects RX12 yX12_lineOf yX12_lineOf, Cond.code yX12_lineOf cX12_lineOf 3 (some .int), Cond.methodLink RL 45 yX11_feed]
def wsL_law_r15 : List Cond := [Cond.instanceMethod yX11_feed, Cond.selects RX11 yX11_feed yX11_feed, Cond.code yX11_feed cX11_feed 6 (some .int), Cond.instanceMethod yX0_append, Cond.selects RX0 yX0_append yX0_append, Cond.code yX0_append cX0_append 3 none, Cond.fieldLink RX0 60 "ThinLine$Book" "taped" "I", Cond.methodLink RL 49 yX12_feed, Cond.instanceMethod yX12_feed, Cond.selects RX12 yX12_feed yX12_feed, Cond.code yX12_feed cX12_feed 6 (some .int), Cond.fieldLink RX12 153 "ThinLineModel" "taped" "I", Cond.methodLink RX12 157 yX12_four, Cond.instanceMethod yX12_four, Cond.selects RX12 yX12_four yX12_four, Cond.code yX12_four cX12_four 3 none, Cond.methodLink RL 50 yX11_end, Cond.instanceMethod yX11_end, Cond.selects RX11 yX11_end yX11_end, Cond.code yX11_end cX11_end 2 (some .int), Cond.methodLink RL 54 yX12_end, Cond.instanceMethod yX12_end, Cond.selects RX12 yX12_end yX12_end, Cond.code yX12_end cX12_end 2 (some .int)]
def wsL_law_r16 : List Cond := [Cond.methodLink RL 55 yX11_text, Cond.instanceMethod yX11_text, Cond.selects RX11 yX11_text yX11_text, Cond.code yX11_text cX11_text 5 (some .int), Cond.methodLink RX11 182 yX11_shelfOf, Cond.instanceMethod yX11_shelfOf, Cond.selects RX11 yX11_shelfOf yX11_shelfOf, Cond.code yX11_shelfOf cX11_shelfOf 2 (some (.object "ThinLine$Texts")), Cond.instanceMethod yX8_isFull, Cond.selects RX8 yX8_isFull yX8_isFull, Cond.code yX8_isFull cX8_isFull 1 (some .boolean), Cond.fieldLink RX8 23 "ThinLine$Texts" "size" "I", Cond.instanceMethod yX7_wipe, Cond.selects RX7 yX7_wipe yX7_wipe, Cond.code yX7_wipe cX7_wipe 1 none, Cond.fieldLink RX7 33 "ThinLine$Text" "clauses" "I", Cond.fieldLink RX7 37 "ThinLine$Text" "length" "I", Cond.instanceMethod yX2_parse, Cond.selects RX2 yX2_parse yX2_parse, Cond.code yX2_parse cX2_parse 5 (some .int), Cond.fieldLink RX2 29 "ThinLine$Parser" "sort" "I", Cond.fieldLink RX2 33 "ThinLine$Parser" "at" "I", Cond.fieldLink RX2 36 "ThinLine$Parser" "items" "I", Cond.fieldLink RX2 39 "ThinLine$Parser" "fault" "I"]
def wsL_law_r17 : List Cond := [Cond.instanceMethod yX9_cut, Cond.selects RX9 yX9_cut yX9_cut, Cond.code yX9_cut cX9_cut 5 none, Cond.fieldLink RX9 21 "ThinLine$Tokens" "size" "I", Cond.instanceMethod yX0_byteAt, Cond.selects RX0 yX0_byteAt yX0_byteAt, Cond.code yX0_byteAt cX0_byteAt 2 (some .int), Cond.methodLink RX9 34 yX9_sortOf, Cond.static yX9_sortOf, Cond.code yX9_sortOf cX9_sortOf 1 (some .int), Cond.methodLink RX9 37 yX9_numberIn, Cond.static yX9_numberIn, Cond.code yX9_numberIn cX9_numberIn 5 (some .int), Cond.methodLink RX9 41 yX9_wordIn, Cond.static yX9_wordIn, Cond.code yX9_wordIn cX9_wordIn 4 (some .int), Cond.methodLink RX9 48 yX9_spelling, Cond.static yX9_spelling, Cond.code yX9_spelling cX9_spelling 1 (some (.object "java/lang/String")), Cond.methodLink RX9 52 yX9_isSpelled, Cond.static yX9_isSpelled, Cond.code yX9_isSpelled cX9_isSpelled 6 (some .boolean), Cond.methodLink RX9 56 yJ0_length_8abf5, Cond.instanceMethod yJ0_length_8abf5]
def wsL_law_r18 : List Cond := [Cond.selects RJ0 yJ0_length_8abf5 yJ0_length_8abf5, Cond.initialized RJ0, Cond.code yJ0_length_8abf5 cJ0_length_8abf5 1 (some .int), Cond.fieldLink RJ0 9 "java/lang/String" "value" "[B", Cond.methodLink RJ0 335 yJ0_coder_7d493, Cond.instanceMethod yJ0_coder_7d493, Cond.selects RJ0 yJ0_coder_7d493 yJ0_coder_7d493, Cond.code yJ0_coder_7d493 cJ0_coder_7d493 1 (some .byte), Cond.fieldLink RJ0 38 "java/lang/String" "COMPACT_STRINGS" "Z", Cond.fieldLink RJ0 15 "java/lang/String" "coder" "B", Cond.methodLink RX9 62 yJ0_charAt_5068e, Cond.instanceMethod yJ0_charAt_5068e, Cond.selects RJ0 yJ0_charAt_5068e yJ0_charAt_5068e, Cond.code yJ0_charAt_5068e cJ0_charAt_5068e 2 (some .char), Cond.methodLink RJ0 492 yJ0_isLatin1_aae02, Cond.instanceMethod yJ0_isLatin1_aae02, Cond.selects RJ0 yJ0_isLatin1_aae02 yJ0_isLatin1_aae02, Cond.code yJ0_isLatin1_aae02 cJ0_isLatin1_aae02 1 (some .boolean), Cond.methodLink RJ0 495 yJ1_charAt_3b067, Cond.static yJ1_charAt_3b067, Cond.initialized RJ1, Cond.code yJ1_charAt_3b067 cJ1_charAt_3b067 2 (some .char), Cond.methodLink RJ1 9 yJ0_checkIndex_df160, Cond.static yJ0_checkIndex_df160]
def wsL_law_r19 : List Cond := [Cond.code yJ0_checkIndex_df160 cJ0_checkIndex_df160 2 none, Cond.fieldLink RJ0 1053 "jdk/internal/util/Preconditions" "SIOOBE_FORMATTER" "Ljava/util/function/BiFunction;", Cond.methodLink RJ0 1059 yJ3_checkIndex_8e157, Cond.static yJ3_checkIndex_8e157, Cond.initialized RJ3, Cond.code yJ3_checkIndex_8e157 cJ3_checkIndex_8e157 3 (some .int), Cond.methodLink RJ0 498 yJ2_charAt_3b067, Cond.static yJ2_charAt_3b067, Cond.initialized RJ2, Cond.code yJ2_charAt_3b067 cJ2_charAt_3b067 2 (some .char), Cond.methodLink RJ2 67 yJ2_checkIndex_2214a, Cond.static yJ2_checkIndex_2214a, Cond.code yJ2_checkIndex_2214a cJ2_checkIndex_2214a 2 none, Cond.methodLink RJ2 48 yJ2_length_9d52b, Cond.static yJ2_length_9d52b, Cond.code yJ2_length_9d52b cJ2_length_9d52b 1 (some .int), Cond.methodLink RJ2 414 yJ0_checkIndex_df160, Cond.methodLink RJ2 71 yJ2_getChar_3b067, Cond.static yJ2_getChar_3b067, Cond.code yJ2_getChar_3b067 cJ2_getChar_3b067 2 (some .char), Cond.fieldLink RJ2 44 "java/lang/StringUTF16" "$assertionsDisabled" "Z", Cond.fieldLink RJ2 59 "java/lang/StringUTF16" "HI_BYTE_SHIFT" "I", Cond.fieldLink RJ2 63 "java/lang/StringUTF16" "LO_BYTE_SHIFT" "I", Cond.methodLink RX9 44 yX9_add]
def wsL_law_r20 : List Cond := [Cond.instanceMethod yX9_add, Cond.selects RX9 yX9_add yX9_add, Cond.code yX9_add cX9_add 4 none, Cond.methodLink RX2 42 yX2_head, Cond.instanceMethod yX2_head, Cond.selects RX2 yX2_head yX2_head, Cond.code yX2_head cX2_head 3 (some .boolean), Cond.methodLink RX2 67 yX2_valueHere, Cond.instanceMethod yX2_valueHere, Cond.selects RX2 yX2_valueHere yX2_valueHere, Cond.code yX2_valueHere cX2_valueHere 1 (some .int), Cond.methodLink RX2 49 yX2_kindHere, Cond.instanceMethod yX2_kindHere, Cond.selects RX2 yX2_kindHere yX2_kindHere, Cond.code yX2_kindHere cX2_kindHere 1 (some .int), Cond.methodLink RX2 73 yX2_isHead, Cond.instanceMethod yX2_isHead, Cond.selects RX2 yX2_isHead yX2_isHead, Cond.code yX2_isHead cX2_isHead 2 (some .boolean), Cond.methodLink RX2 53 yX2_faultHere, Cond.instanceMethod yX2_faultHere, Cond.selects RX2 yX2_faultHere yX2_faultHere, Cond.code yX2_faultHere cX2_faultHere 3 (some .boolean), Cond.methodLink RX2 79 yX2_isOnce]
def wsL_law_r21 : List Cond := [Cond.static yX2_isOnce, Cond.code yX2_isOnce cX2_isOnce 1 (some .boolean), Cond.instanceMethod yX7_clauseOf, Cond.selects RX7 yX7_clauseOf yX7_clauseOf, Cond.code yX7_clauseOf cX7_clauseOf 3 (some .int), Cond.instanceMethod yX7_open, Cond.selects RX7 yX7_open yX7_open, Cond.code yX7_open cX7_open 2 none, Cond.methodLink RX2 46 yX2_body, Cond.instanceMethod yX2_body, Cond.selects RX2 yX2_body yX2_body, Cond.code yX2_body cX2_body 4 (some .boolean), Cond.methodLink RX2 90 Lib.Math.max.name, Cond.methodLink RX2 98 yX2_test, Cond.instanceMethod yX2_test, Cond.selects RX2 yX2_test yX2_test, Cond.code yX2_test cX2_test 5 (some .boolean), Cond.methodLink RX2 130 yX2_fact, Cond.instanceMethod yX2_fact, Cond.selects RX2 yX2_fact yX2_fact, Cond.methodLink RX2 110 yX2_isWordHere, Cond.instanceMethod yX2_isWordHere, Cond.selects RX2 yX2_isWordHere yX2_isWordHere, Cond.code yX2_isWordHere cX2_isWordHere 2 (some .boolean)]
def wsL_law_r22 : List Cond := [Cond.instanceMethod yX7_step, Cond.selects RX7 yX7_step yX7_step, Cond.code yX7_step cX7_step 3 none, Cond.code yX2_fact cX2_fact 3 (some .boolean), Cond.methodLink RX2 137 yX2_inner, Cond.instanceMethod yX2_inner, Cond.selects RX2 yX2_inner yX2_inner, Cond.methodLink RX2 101 yX2_sum, Cond.instanceMethod yX2_sum, Cond.selects RX2 yX2_sum yX2_sum, Cond.code yX2_sum cX2_sum 5 (some .boolean), Cond.methodLink RX2 140 yX2_value, Cond.instanceMethod yX2_value, Cond.selects RX2 yX2_value yX2_value, Cond.code yX2_value cX2_value 6 (some .boolean), Cond.code yX2_inner cX2_inner 4 (some .boolean), Cond.methodLink RX2 113 yX2_numbers, Cond.instanceMethod yX2_numbers, Cond.selects RX2 yX2_numbers yX2_numbers, Cond.code yX2_numbers cX2_numbers 3 (some .boolean), Cond.methodLink RX2 123 yX2_number, Cond.instanceMethod yX2_number, Cond.selects RX2 yX2_number yX2_number, Cond.code yX2_number cX2_number 6 (some .boolean)]
def wsL_law_r23 : List Cond := [Cond.instanceMethod yX8_keep, Cond.selects RX8 yX8_keep yX8_keep, Cond.code yX8_keep cX8_keep 2 (some .int), Cond.methodLink RX8 27 yX8_isFull, Cond.methodLink RL 58 yX12_text, Cond.instanceMethod yX12_text, Cond.selects RX12 yX12_text yX12_text, Cond.code yX12_text cX12_text 3 (some .int), Cond.constantLong RX12 322 (2), Cond.fieldLink RX12 191 "ThinLineModel" "text" "I", Cond.fieldLink RX12 306 "ThinLineModel" "lines" "I", Cond.fieldLink RX12 164 "ThinLineModel" "next" "I", Cond.fieldLink RX12 161 "ThinLineModel" "wrong" "I", Cond.fieldLink RX12 216 "ThinLineModel" "made" "I", Cond.methodLink RX12 324 yX12_mostOf, Cond.static yX12_mostOf, Cond.code yX12_mostOf cX12_mostOf 1 (some .int), Cond.methodLink RX12 327 yX12_firstOf, Cond.static yX12_firstOf, Cond.code yX12_firstOf cX12_firstOf 1 (some .int), Cond.methodLink RX12 330 yX12_clauseHere, Cond.instanceMethod yX12_clauseHere, Cond.selects RX12 yX12_clauseHere yX12_clauseHere, Cond.code yX12_clauseHere cX12_clauseHere 4 (some .boolean)]
def wsL_law_r24 : List Cond := [Cond.constantLong RX12 288 (495672979045), Cond.constantLong RX12 290 (125797183548517), Cond.constantLong RX12 292 (474315584357), Cond.constantLong RX12 294 (1700885619), Cond.constantLong RX12 296 (422608528499), Cond.constantLong RX12 298 (6775152), Cond.constantLong RX12 300 (2003395685), Cond.constantLong RX12 302 (1936419184), Cond.constantLong RX12 304 (444150998387), Cond.methodLink RX12 167 yX12_see, Cond.instanceMethod yX12_see, Cond.selects RX12 yX12_see yX12_see, Cond.code yX12_see cX12_see 1 (some .int), Cond.methodLink RX12 194 yX12_kindOf, Cond.instanceMethod yX12_kindOf, Cond.selects RX12 yX12_kindOf yX12_kindOf, Cond.code yX12_kindOf cX12_kindOf 2 (some .int), Cond.methodLink RX12 174 yX12_isWord, Cond.instanceMethod yX12_isWord, Cond.selects RX12 yX12_isWord yX12_isWord, Cond.code yX12_isWord cX12_isWord 6 (some .boolean), Cond.methodLink RX12 171 yX12_isLetter, Cond.instanceMethod yX12_isLetter, Cond.selects RX12 yX12_isLetter yX12_isLetter]
def wsL_law_r25 : List Cond := [Cond.code yX12_isLetter cX12_isLetter 2 (some .boolean), Cond.methodLink RX12 184 yX12_fails, Cond.instanceMethod yX12_fails, Cond.selects RX12 yX12_fails yX12_fails, Cond.code yX12_fails cX12_fails 3 (some .boolean), Cond.methodLink RX12 309 yX12_rippled, Cond.instanceMethod yX12_rippled, Cond.selects RX12 yX12_rippled yX12_rippled, Cond.code yX12_rippled cX12_rippled 2 (some .boolean), Cond.fieldLink RX12 188 "ThinLineModel" "number" "I", Cond.methodLink RX12 284 yX12_sets, Cond.instanceMethod yX12_sets, Cond.selects RX12 yX12_sets yX12_sets, Cond.code yX12_sets cX12_sets 5 (some .boolean), Cond.methodLink RX12 178 yX12_passWord, Cond.instanceMethod yX12_passWord, Cond.selects RX12 yX12_passWord yX12_passWord, Cond.code yX12_passWord cX12_passWord 1 none, Cond.methodLink RX12 233 yX12_numberHere, Cond.instanceMethod yX12_numberHere, Cond.selects RX12 yX12_numberHere yX12_numberHere, Cond.code yX12_numberHere cX12_numberHere 5 (some .boolean), Cond.methodLink RX12 181 yX12_isDigit, Cond.instanceMethod yX12_isDigit]
def wsL_law_r26 : List Cond := [Cond.selects RX12 yX12_isDigit yX12_isDigit, Cond.code yX12_isDigit cX12_isDigit 2 (some .boolean), Cond.methodLink RX12 312 yX12_eaten, Cond.instanceMethod yX12_eaten, Cond.selects RX12 yX12_eaten yX12_eaten, Cond.code yX12_eaten cX12_eaten 2 (some .boolean), Cond.methodLink RX12 315 yX12_gapped, Cond.instanceMethod yX12_gapped, Cond.selects RX12 yX12_gapped yX12_gapped, Cond.code yX12_gapped cX12_gapped 2 (some .boolean), Cond.methodLink RX12 318 yX12_clauseOf, Cond.instanceMethod yX12_clauseOf, Cond.selects RX12 yX12_clauseOf yX12_clauseOf, Cond.code yX12_clauseOf cX12_clauseOf 3 (some .boolean), Cond.constantLong RX12 276 (26982), Cond.methodLink RX12 249 yX12_sum, Cond.instanceMethod yX12_sum, Cond.selects RX12 yX12_sum yX12_sum, Cond.code yX12_sum cX12_sum 2 (some .boolean), Cond.methodLink RX12 246 yX12_term, Cond.instanceMethod yX12_term, Cond.selects RX12 yX12_term yX12_term, Cond.code yX12_term cX12_term 2 (some .boolean), Cond.methodLink RX12 242 yX12_value]
def wsL_law_r27 : List Cond := [Cond.instanceMethod yX12_value, Cond.selects RX12 yX12_value yX12_value, Cond.code yX12_value cX12_value 3 (some .boolean), Cond.constant RX12 232 (99999), Cond.methodLink RX12 236 yX12_makes, Cond.instanceMethod yX12_makes, Cond.selects RX12 yX12_makes yX12_makes, Cond.code yX12_makes cX12_makes 2 (some .boolean), Cond.methodLink RX12 228 yX12_puts, Cond.instanceMethod yX12_puts, Cond.selects RX12 yX12_puts yX12_puts, Cond.code yX12_puts cX12_puts 3 none, Cond.methodLink RX12 239 yX12_wordHere, Cond.instanceMethod yX12_wordHere, Cond.selects RX12 yX12_wordHere yX12_wordHere, Cond.code yX12_wordHere cX12_wordHere 1 (some .int), Cond.constantLong RX12 198 (109330211763570), Cond.constantLong RX12 200 (444199957363), Cond.constantLong RX12 202 (1752135026), Cond.constantLong RX12 204 (7499639), Cond.constantLong RX12 206 (465624852596), Cond.constantLong RX12 208 (1751474548), Cond.constantLong RX12 210 (495874699885), Cond.constantLong RX12 212 (1717660780)]
def wsL_law_r28 : List Cond := [Cond.constantLong RX12 214 (2003133803), Cond.methodLink RX12 278 yX12_takesWord, Cond.instanceMethod yX12_takesWord, Cond.selects RX12 yX12_takesWord yX12_takesWord, Cond.code yX12_takesWord cX12_takesWord 3 (some .boolean), Cond.methodLink RX12 281 yX12_tested, Cond.instanceMethod yX12_tested, Cond.selects RX12 yX12_tested yX12_tested, Cond.code yX12_tested cX12_tested 3 (some .boolean), Cond.fieldLink RX12 222 "ThinLineModel" "opened" "I", Cond.fieldLink RX12 219 "ThinLineModel" "deep" "I", Cond.constantLong RX12 272 (6385252), Cond.constantLong RX12 274 (28530), Cond.methodLink RX12 266 yX12_fact, Cond.instanceMethod yX12_fact, Cond.selects RX12 yX12_fact yX12_fact, Cond.code yX12_fact cX12_fact 3 (some .boolean), Cond.constantLong RX12 252 (7237492), Cond.methodLink RX12 254 yX12_opens, Cond.instanceMethod yX12_opens, Cond.selects RX12 yX12_opens yX12_opens, Cond.code yX12_opens cX12_opens 2 (some .boolean), Cond.methodLink RX12 257 yX12_compare, Cond.instanceMethod yX12_compare]
def wsL_law_r29 : List Cond := [Cond.selects RX12 yX12_compare yX12_compare, Cond.code yX12_compare cX12_compare 5 (some .boolean), Cond.methodLink RX12 269 yX12_closes, Cond.instanceMethod yX12_closes, Cond.selects RX12 yX12_closes yX12_closes, Cond.code yX12_closes cX12_closes 1 none, Cond.methodLink RX12 260 yX12_settles, Cond.instanceMethod yX12_settles, Cond.selects RX12 yX12_settles yX12_settles, Cond.code yX12_settles cX12_settles 2 none, Cond.methodLink RX12 225 yX12_strength, Cond.static yX12_strength, Cond.code yX12_strength cX12_strength 1 (some .int), Cond.methodLink RX12 263 yX12_isInside, Cond.instanceMethod yX12_isInside, Cond.selects RX12 yX12_isInside yX12_isInside, Cond.code yX12_isInside cX12_isInside 2 (some .boolean), Cond.methodLink RL 59 yX11_make, Cond.instanceMethod yX11_make, Cond.selects RX11 yX11_make yX11_make, Cond.code yX11_make cX11_make 8 (some .int), Cond.instanceMethod yX8_at, Cond.selects RX8 yX8_at yX8_at, Cond.code yX8_at cX8_at 2 (some (.object "ThinLine$Text"))]
def wsL_law_r30 : List Cond := [Cond.instanceMethod yX5_setRow, Cond.selects RX5 yX5_setRow yX5_setRow, Cond.code yX5_setRow cX5_setRow 3 none, Cond.instanceMethod yX1_begin, Cond.selects RX1 yX1_begin yX1_begin, Cond.code yX1_begin cX1_begin 3 none, Cond.fieldLink RX1 21 "ThinLine$Maker" "period" "I", Cond.fieldLink RX1 28 "ThinLine$Maker" "swing" "I", Cond.fieldLink RX1 31 "ThinLine$Maker" "noise" "I", Cond.fieldLink RX1 34 "ThinLine$Maker" "x" "J", Cond.instanceMethod yX7_firstOf, Cond.selects RX7 yX7_firstOf yX7_firstOf, Cond.code yX7_firstOf cX7_firstOf 4 (some .int), Cond.methodLink RX7 40 yX7_clauseOf, Cond.instanceMethod yX7_secondOf, Cond.selects RX7 yX7_secondOf yX7_secondOf, Cond.code yX7_secondOf cX7_secondOf 4 (some .int), Cond.instanceMethod yX1_eat, Cond.selects RX1 yX1_eat yX1_eat, Cond.code yX1_eat cX1_eat 6 none, Cond.methodLink RX1 44 yX1_eatNothing, Cond.instanceMethod yX1_eatNothing, Cond.selects RX1 yX1_eatNothing yX1_eatNothing, Cond.code yX1_eatNothing cX1_eatNothing 1 none]
def wsL_law_r31 : List Cond := [Cond.methodLink RX1 38 yJ7_fill_53178, Cond.instanceMethod yX1_makeAt, Cond.selects RX1 yX1_makeAt yX1_makeAt, Cond.code yX1_makeAt cX1_makeAt 6 (some .int), Cond.constantLong RX1 83 (-50000), Cond.constantLong RX1 85 (50000), Cond.constantLong RX1 95 (1103515245), Cond.constantLong RX1 97 (12345), Cond.constantLong RX1 99 (2147483648), Cond.constantLong RX1 101 (65536), Cond.constantLong RX1 103 (2), Cond.constantLong RX1 105 (-100000), Cond.constantLong RX1 107 (100000), Cond.instanceMethod yX5_setColour, Cond.selects RX5 yX5_setColour yX5_setColour, Cond.code yX5_setColour cX5_setColour 2 none, Cond.methodLink RX1 79 yX1_shineOf, Cond.static yX1_shineOf, Cond.code yX1_shineOf cX1_shineOf 3 (some .long), Cond.instanceMethod yX5_holds, Cond.selects RX5 yX5_holds yX5_holds, Cond.code yX5_holds cX5_holds 5 (some .boolean), Cond.methodLink RX5 48 yX5_worked, Cond.instanceMethod yX5_worked]
def wsL_law_r32 : List Cond := [Cond.selects RX5 yX5_worked yX5_worked, Cond.code yX5_worked cX5_worked 8 (some .long), Cond.methodLink RX5 55 Lib.Math.max.name, Cond.methodLink RX5 64 yX5_wordAt, Cond.instanceMethod yX5_wordAt, Cond.selects RX5 yX5_wordAt yX5_wordAt, Cond.code yX5_wordAt cX5_wordAt 2 (some .long), Cond.methodLink RX5 68 yX5_joined, Cond.static yX5_joined, Cond.code yX5_joined cX5_joined 5 (some .long), Cond.instanceMethod yX5_sumOf, Cond.selects RX5 yX5_sumOf yX5_sumOf, Cond.code yX5_sumOf cX5_sumOf 3 (some .long), Cond.static yX11_held, Cond.code yX11_held cX11_held 6 (some .long), Cond.methodLink RX11 362 Lib.MathLoose.min_long.x, Cond.static Lib.MathLoose.min_long.x, Cond.code Lib.MathLoose.min_long.x Lib.MathLoose.min_long.code 4 (some .long), Cond.methodLink RX11 360 Lib.MathLoose.max_long.x, Cond.static Lib.MathLoose.max_long.x, Cond.code Lib.MathLoose.max_long.x Lib.MathLoose.max_long.code 4 (some .long), Cond.methodLink RX1 91 yX1_swingAt, Cond.instanceMethod yX1_swingAt, Cond.selects RX1 yX1_swingAt yX1_swingAt]
def wsL_law_r33 : List Cond := [Cond.code yX1_swingAt cX1_swingAt 3 (some .int), Cond.methodLink RX1 117 Lib.Math.min.name, Cond.static Lib.Math.min.name, Cond.code Lib.Math.min.name Lib.Math.min.code 2 (some .int), Cond.methodLink RL 62 yX12_make, Cond.instanceMethod yX12_make, Cond.selects RX12 yX12_make yX12_make, Cond.code yX12_make cX12_make 7 (some .int), Cond.fieldLink RX12 370 "ThinLineModel" "seedNow" "J", Cond.methodLink RX12 382 yX12_isText, Cond.instanceMethod yX12_isText, Cond.selects RX12 yX12_isText yX12_isText, Cond.code yX12_isText cX12_isText 3 (some .boolean), Cond.methodLink RX12 385 yX12_makesAt, Cond.instanceMethod yX12_makesAt, Cond.selects RX12 yX12_makesAt yX12_makesAt, Cond.code yX12_makesAt cX12_makesAt 10 (some .int), Cond.constantLong RX12 362 (-50000), Cond.constantLong RX12 364 (50000), Cond.constantLong RX12 374 (1103515245), Cond.constantLong RX12 376 (12345), Cond.constantLong RX12 378 (2147483648), Cond.constantLong RX12 380 (65536), Cond.methodLink RX12 352 yX12_words]
def wsL_law_r34 : List Cond := [Cond.instanceMethod yX12_words, Cond.selects RX12 yX12_words yX12_words, Cond.code yX12_words cX12_words 3 none, Cond.methodLink RX12 355 yX12_isHolding, Cond.instanceMethod yX12_isHolding, Cond.selects RX12 yX12_isHolding yX12_isHolding, Cond.code yX12_isHolding cX12_isHolding 4 (some .boolean), Cond.methodLink RX12 348 yX12_reckons, Cond.instanceMethod yX12_reckons, Cond.selects RX12 yX12_reckons yX12_reckons, Cond.code yX12_reckons cX12_reckons 11 (some .long), Cond.fieldLink RX12 333 "ThinLineModel" "top" "I", Cond.methodLink RX12 336 yX12_push, Cond.instanceMethod yX12_push, Cond.selects RX12 yX12_push yX12_push, Cond.code yX12_push cX12_push 3 none, Cond.methodLink RX12 340 yX12_pop, Cond.instanceMethod yX12_pop, Cond.selects RX12 yX12_pop yX12_pop, Cond.code yX12_pop cX12_pop 1 (some .long), Cond.methodLink RX12 344 yX12_one, Cond.static yX12_one, Cond.code yX12_one cX12_one 5 (some .long), Cond.methodLink RX12 358 yX12_summed]
def wsL_law_r35 : List Cond := [Cond.instanceMethod yX12_summed, Cond.selects RX12 yX12_summed yX12_summed, Cond.code yX12_summed cX12_summed 3 (some .long), Cond.methodLink RX12 366 yX12_held, Cond.static yX12_held, Cond.code yX12_held cX12_held 6 (some .long), Cond.methodLink RL 63 yX11_curve, Cond.instanceMethod yX11_curve, Cond.selects RX11 yX11_curve yX11_curve, Cond.code yX11_curve cX11_curve 5 (some .int), Cond.methodLink RX11 246 yX11_look, Cond.instanceMethod yX11_look, Cond.selects RX11 yX11_look yX11_look, Cond.code yX11_look cX11_look 5 (some .boolean), Cond.instanceMethod yX0_readRow, Cond.selects RX0 yX0_readRow yX0_readRow, Cond.code yX0_readRow cX0_readRow 7 none, Cond.constant RX0 78 (-1000000), Cond.methodLink RX0 82 yX0_takeOff, Cond.instanceMethod yX0_takeOff, Cond.selects RX0 yX0_takeOff yX0_takeOff, Cond.code yX0_takeOff cX0_takeOff 6 none, Cond.methodLink RX0 86 Lib.Math.min.name, Cond.methodLink RX0 91 Lib.Math.max.name]
def wsL_law_r36 : List Cond := [Cond.instanceMethod yX10_skipBy, Cond.selects RX10 yX10_skipBy yX10_skipBy, Cond.code yX10_skipBy cX10_skipBy 5 none, Cond.instanceMethod yX10_frameBy, Cond.selects RX10 yX10_frameBy yX10_frameBy, Cond.code yX10_frameBy cX10_frameBy 2 none, Cond.fieldLink RX10 69 "ThinLine$View" "bends" "I", Cond.fieldLink RX10 72 "ThinLine$View" "wide" "I", Cond.fieldLink RX10 75 "ThinLine$View" "gapFrom" "I", Cond.fieldLink RX10 81 "ThinLine$View" "gapTo" "I", Cond.instanceMethod yX10_tally, Cond.selects RX10 yX10_tally yX10_tally, Cond.code yX10_tally cX10_tally 3 none, Cond.instanceMethod yX10_lay, Cond.selects RX10 yX10_lay yX10_lay, Cond.code yX10_lay cX10_lay 1 none, Cond.methodLink RX10 91 yX10_layKnots, Cond.instanceMethod yX10_layKnots, Cond.selects RX10 yX10_layKnots yX10_layKnots, Cond.code yX10_layKnots cX10_layKnots 7 none, Cond.fieldLink RX10 100 "ThinLine$View" "knots" "I", Cond.methodLink RX10 103 Lib.Math.max.name, Cond.methodLink RX10 108 Lib.Math.min.name, Cond.methodLink RX10 111 yX10_besideGap]
def wsL_law_r37 : List Cond := [Cond.instanceMethod yX10_besideGap, Cond.selects RX10 yX10_besideGap yX10_besideGap, Cond.code yX10_besideGap cX10_besideGap 7 (some .int), Cond.methodLink RX10 115 yJ9_floorDiv_7cf53, Cond.static yJ9_floorDiv_7cf53, Cond.initialized RJ9, Cond.code yJ9_floorDiv_7cf53 cJ9_floorDiv_7cf53 3 (some .int), Cond.methodLink RX10 94 yX10_layHeights, Cond.instanceMethod yX10_layHeights, Cond.selects RX10 yX10_layHeights yX10_layHeights, Cond.code yX10_layHeights cX10_layHeights 2 none, Cond.methodLink RX10 118 yX10_layBetween, Cond.instanceMethod yX10_layBetween, Cond.selects RX10 yX10_layBetween yX10_layBetween, Cond.code yX10_layBetween cX10_layBetween 7 none, Cond.methodLink RX10 97 yX10_measure, Cond.instanceMethod yX10_measure, Cond.selects RX10 yX10_measure yX10_measure, Cond.code yX10_measure cX10_measure 4 none, Cond.fieldLink RX10 122 "ThinLine$View" "gapCount" "I", Cond.fieldLink RX10 125 "ThinLine$View" "usedCount" "I", Cond.fieldLink RX10 128 "ThinLine$View" "gapLeft" "J", Cond.fieldLink RX10 132 "ThinLine$View" "usedLeft" "J", Cond.methodLink RX10 135 Lib.Math.abs.name]
def wsL_law_r38 : List Cond := [Cond.static Lib.Math.abs.name, Cond.code Lib.Math.abs.name Lib.Math.abs.code 1 (some .int), Cond.instanceMethod yX10_isUsed, Cond.selects RX10 yX10_isUsed yX10_isUsed, Cond.code yX10_isUsed cX10_isUsed 2 (some .boolean), Cond.instanceMethod yX10_isLaid, Cond.selects RX10 yX10_isLaid yX10_isLaid, Cond.code yX10_isLaid cX10_isLaid 1 (some .boolean), Cond.instanceMethod yX10_leftAt, Cond.selects RX10 yX10_leftAt yX10_leftAt, Cond.code yX10_leftAt cX10_leftAt 2 (some .int), Cond.methodLink RL 66 yX12_curve, Cond.instanceMethod yX12_curve, Cond.selects RX12 yX12_curve yX12_curve, Cond.code yX12_curve cX12_curve 5 (some .int), Cond.fieldLink RX12 398 "ThinLineModel" "knots" "I", Cond.methodLink RX12 447 yX12_canAsk, Cond.instanceMethod yX12_canAsk, Cond.selects RX12 yX12_canAsk yX12_canAsk, Cond.code yX12_canAsk cX12_canAsk 3 (some .boolean), Cond.methodLink RX12 450 yX12_scoreOf, Cond.instanceMethod yX12_scoreOf, Cond.selects RX12 yX12_scoreOf yX12_scoreOf, Cond.code yX12_scoreOf cX12_scoreOf 3 (some .long)]
def wsL_law_r39 : List Cond := [Cond.methodLink RX12 441 yX12_lifts, Cond.instanceMethod yX12_lifts, Cond.selects RX12 yX12_lifts yX12_lifts, Cond.code yX12_lifts cX12_lifts 3 none, Cond.methodLink RX12 444 yX12_own, Cond.instanceMethod yX12_own, Cond.selects RX12 yX12_own yX12_own, Cond.code yX12_own cX12_own 4 (some .long), Cond.methodLink RX12 437 yX12_scoreNow, Cond.instanceMethod yX12_scoreNow, Cond.selects RX12 yX12_scoreNow yX12_scoreNow, Cond.code yX12_scoreNow cX12_scoreNow 8 (some .long), Cond.fieldLink RX12 425 "ThinLineModel" "isDeep" "Z", Cond.constantLong RX12 429 (-1000000000), Cond.fieldLink RX12 411 "ThinLineModel" "gapMany" "I", Cond.methodLink RX12 418 yX12_uses, Cond.instanceMethod yX12_uses, Cond.selects RX12 yX12_uses yX12_uses, Cond.code yX12_uses cX12_uses 9 none, Cond.fieldLink RX12 389 "ThinLineModel" "gapNow" "I", Cond.fieldLink RX12 392 "ThinLineModel" "gapEnd" "I", Cond.fieldLink RX12 395 "ThinLineModel" "usedMany" "I", Cond.methodLink RX12 422 yX12_bows, Cond.instanceMethod yX12_bows]
def wsL_law_r40 : List Cond := [Cond.selects RX12 yX12_bows yX12_bows, Cond.code yX12_bows cX12_bows 10 (some .boolean), Cond.constantLong RX12 405 (-1000000), Cond.methodLink RX12 401 yX12_down, Cond.static yX12_down, Cond.code yX12_down cX12_down 6 (some .long), Cond.methodLink RX12 407 yX12_heightAt, Cond.instanceMethod yX12_heightAt, Cond.selects RX12 yX12_heightAt yX12_heightAt, Cond.code yX12_heightAt cX12_heightAt 3 (some .long), Cond.methodLink RX12 431 yX12_deepNow, Cond.instanceMethod yX12_deepNow, Cond.selects RX12 yX12_deepNow yX12_deepNow, Cond.code yX12_deepNow cX12_deepNow 4 (some .long), Cond.methodLink RX12 434 yX12_noiseNow, Cond.instanceMethod yX12_noiseNow, Cond.selects RX12 yX12_noiseNow yX12_noiseNow, Cond.code yX12_noiseNow cX12_noiseNow 5 (some .long), Cond.methodLink RX12 414 yX12_size, Cond.static yX12_size, Cond.code yX12_size cX12_size 2 (some .long), Cond.methodLink RL 67 yX11_deep, Cond.instanceMethod yX11_deep, Cond.selects RX11 yX11_deep yX11_deep]
def wsL_law_r41 : List Cond := [Cond.code yX11_deep cX11_deep 4 (some .long), Cond.constantLong RX11 262 (-2000000000), Cond.constantLong RX11 272 (-1), Cond.instanceMethod yX10_deepness, Cond.selects RX10 yX10_deepness yX10_deepness, Cond.code yX10_deepness cX10_deepness 1 (some .int), Cond.constant RX10 146 (-1000000), Cond.methodLink RX10 139 yX10_hasDeep, Cond.instanceMethod yX10_hasDeep, Cond.selects RX10 yX10_hasDeep yX10_hasDeep, Cond.code yX10_hasDeep cX10_hasDeep 1 (some .boolean), Cond.methodLink RX10 143 yJ9_floorDiv_f86c9, Cond.static yJ9_floorDiv_f86c9, Cond.code yJ9_floorDiv_f86c9 cJ9_floorDiv_f86c9 6 (some .long), Cond.instanceMethod yX10_noisiness, Cond.selects RX10 yX10_noisiness yX10_noisiness, Cond.code yX10_noisiness cX10_noisiness 2 (some .long), Cond.methodLink RX10 147 Lib.MathLoose.max_long.x, Cond.instanceMethod yX10_scored, Cond.selects RX10 yX10_scored yX10_scored, Cond.code yX10_scored cX10_scored 1 (some .long), Cond.constantLong RX10 149 (1000), Cond.constantLong RX10 159 (-1000000000), Cond.methodLink RX10 151 yX10_deepness]
def wsL_law_r42 : List Cond := [Cond.methodLink RX10 155 yX10_noisiness, Cond.methodLink RL 71 yX12_deep, Cond.instanceMethod yX12_deep, Cond.selects RX12 yX12_deep yX12_deep, Cond.code yX12_deep cX12_deep 6 (some .long), Cond.constantLong RX12 453 (4), Cond.constantLong RX12 455 (-2000000000), Cond.constantLong RX12 457 (-1), Cond.methodLink RL 72 yX11_moved, Cond.instanceMethod yX11_moved, Cond.selects RX11 yX11_moved yX11_moved, Cond.code yX11_moved cX11_moved 4 (some .long), Cond.instanceMethod yX10_gapLength, Cond.selects RX10 yX10_gapLength yX10_gapLength, Cond.code yX10_gapLength cX10_gapLength 1 (some .int), Cond.instanceMethod yX10_moveTo, Cond.selects RX10 yX10_moveTo yX10_moveTo, Cond.code yX10_moveTo cX10_moveTo 2 none, Cond.methodLink RX10 88 yX10_lay, Cond.methodLink RL 75 yX12_moved, Cond.instanceMethod yX12_moved, Cond.selects RX12 yX12_moved yX12_moved, Cond.code yX12_moved cX12_moved 4 (some .long), Cond.methodLink RX12 459 yX12_lengthOf]
def wsL_law_r43 : List Cond := [Cond.instanceMethod yX12_lengthOf, Cond.selects RX12 yX12_lengthOf yX12_lengthOf, Cond.code yX12_lengthOf cX12_lengthOf 2 (some .int), Cond.methodLink RX12 462 yX12_movedTo, Cond.instanceMethod yX12_movedTo, Cond.selects RX12 yX12_movedTo yX12_movedTo, Cond.code yX12_movedTo cX12_movedTo 4 (some .long), Cond.methodLink RL 76 yX11_elsewhere, Cond.instanceMethod yX11_elsewhere, Cond.selects RX11 yX11_elsewhere yX11_elsewhere, Cond.code yX11_elsewhere cX11_elsewhere 11 (some .int), Cond.methodLink RX11 295 Lib.Math.abs.name, Cond.instanceMethod yX10_isNotBelow, Cond.selects RX10 yX10_isNotBelow yX10_isNotBelow, Cond.code yX10_isNotBelow cX10_isNotBelow 3 (some .boolean), Cond.methodLink RX10 161 yX10_scored, Cond.methodLink RL 79 yX12_elsewhere, Cond.instanceMethod yX12_elsewhere, Cond.selects RX12 yX12_elsewhere yX12_elsewhere, Cond.code yX12_elsewhere cX12_elsewhere 12 (some .int), Cond.methodLink RL 80 yX11_drawn, Cond.instanceMethod yX11_drawn, Cond.selects RX11 yX11_drawn yX11_drawn, Cond.code yX11_drawn cX11_drawn 12 (some .int)]
def wsL_law_r44 : List Cond := [Cond.methodLink RL 83 yX12_drawn, Cond.instanceMethod yX12_drawn, Cond.selects RX12 yX12_drawn yX12_drawn, Cond.code yX12_drawn cX12_drawn 12 (some .int), Cond.constantLong RX12 465 (50), Cond.methodLink RL 84 yX11_bent, Cond.instanceMethod yX11_bent, Cond.selects RX11 yX11_bent yX11_bent, Cond.code yX11_bent cX11_bent 4 (some .long), Cond.instanceMethod yX10_bendTo, Cond.selects RX10 yX10_bendTo yX10_bendTo, Cond.code yX10_bendTo cX10_bendTo 2 none, Cond.methodLink RL 87 yX12_bent, Cond.instanceMethod yX12_bent, Cond.selects RX12 yX12_bent yX12_bent, Cond.code yX12_bent cX12_bent 4 (some .long), Cond.constantLong RX12 467 (40), Cond.methodLink RL 88 yX11_best, Cond.instanceMethod yX11_best, Cond.selects RX11 yX11_best yX11_best, Cond.code yX11_best cX11_best 11 (some .long), Cond.constant RX11 312 (99999), Cond.constantLong RX11 316 (1000), Cond.constantLong RX11 322 (-2)]
def wsL_law_r45 : List Cond := [Cond.instanceMethod yX10_squares, Cond.selects RX10 yX10_squares yX10_squares, Cond.code yX10_squares cX10_squares 6 (some .long), Cond.methodLink RX11 318 yJ9_floorDiv_f86c9, Cond.methodLink RL 92 yX12_best, Cond.instanceMethod yX12_best, Cond.selects RX12 yX12_best yX12_best, Cond.code yX12_best cX12_best 13 (some .long), Cond.constantLong RX12 469 (99999), Cond.methodLink RL 93 yX11_taken, Cond.instanceMethod yX11_taken, Cond.selects RX11 yX11_taken yX11_taken, Cond.code yX11_taken cX11_taken 11 (some .int), Cond.methodLink RX11 333 Lib.Math.max.name, Cond.instanceMethod yX10_isInGap, Cond.selects RX10 yX10_isInGap yX10_isInGap, Cond.code yX10_isInGap cX10_isInGap 2 (some .boolean), Cond.methodLink RL 96 yX12_taken, Cond.instanceMethod yX12_taken, Cond.selects RX12 yX12_taken yX12_taken, Cond.code yX12_taken cX12_taken 12 (some .int), Cond.constantLong RX12 471 (99), Cond.methodLink RL 97 yX11_apart, Cond.instanceMethod yX11_apart]
def wsL_law_r46 : List Cond := [Cond.selects RX11 yX11_apart yX11_apart, Cond.code yX11_apart cX11_apart 8 (some .int), Cond.methodLink RX11 336 yX11_isBar, Cond.static yX11_isBar, Cond.code yX11_isBar cX11_isBar 1 (some .boolean), Cond.constant RX11 494 (-999999), Cond.constant RX11 495 (999999), Cond.methodLink RL 100 yX12_apart, Cond.instanceMethod yX12_apart, Cond.selects RX12 yX12_apart yX12_apart, Cond.code yX12_apart cX12_apart 6 (some .int), Cond.constantLong RX12 473 (-999999), Cond.constantLong RX12 475 (999999), Cond.methodLink RL 101 yX11_stuff, Cond.instanceMethod yX11_stuff, Cond.selects RX11 yX11_stuff yX11_stuff, Cond.code yX11_stuff cX11_stuff 5 (some .long), Cond.methodLink RX11 340 yX11_amountOf, Cond.instanceMethod yX11_amountOf, Cond.selects RX11 yX11_amountOf yX11_amountOf, Cond.code yX11_amountOf cX11_amountOf 7 (some .long), Cond.instanceMethod yX10_isTold, Cond.selects RX10 yX10_isTold yX10_isTold, Cond.code yX10_isTold cX10_isTold 2 (some .boolean)]
def wsL_law_r47 : List Cond := [Cond.methodLink RX11 344 yX11_elseOf, Cond.instanceMethod yX11_elseOf, Cond.selects RX11 yX11_elseOf yX11_elseOf, Cond.code yX11_elseOf cX11_elseOf 4 (some .int), Cond.methodLink RX11 357 yX11_isElse, Cond.instanceMethod yX11_isElse, Cond.selects RX11 yX11_isElse yX11_isElse, Cond.code yX11_isElse cX11_isElse 4 (some .boolean), Cond.methodLink RX11 347 yX11_thereOf, Cond.instanceMethod yX11_thereOf, Cond.selects RX11 yX11_thereOf yX11_thereOf, Cond.code yX11_thereOf cX11_thereOf 10 (some .int), Cond.methodLink RX11 351 yX11_boundOf, Cond.instanceMethod yX11_boundOf, Cond.selects RX11 yX11_boundOf yX11_boundOf, Cond.code yX11_boundOf cX11_boundOf 10 (some .long), Cond.methodLink RL 104 yX12_stuff, Cond.instanceMethod yX12_stuff, Cond.selects RX12 yX12_stuff yX12_stuff, Cond.code yX12_stuff cX12_stuff 5 (some .long), Cond.constantLong RX12 483 (-2), Cond.methodLink RX12 480 yX12_amountOf, Cond.instanceMethod yX12_amountOf, Cond.selects RX12 yX12_amountOf yX12_amountOf]
def wsL_law_r48 : List Cond := [Cond.code yX12_amountOf cX12_amountOf 7 (some .long), Cond.methodLink RX12 485 yX12_elses, Cond.instanceMethod yX12_elses, Cond.selects RX12 yX12_elses yX12_elses, Cond.code yX12_elses cX12_elses 4 (some .int), Cond.methodLink RX12 477 yX12_isElse, Cond.instanceMethod yX12_isElse, Cond.selects RX12 yX12_isElse yX12_isElse, Cond.code yX12_isElse cX12_isElse 4 (some .boolean), Cond.methodLink RX12 488 yX12_theres, Cond.instanceMethod yX12_theres, Cond.selects RX12 yX12_theres yX12_theres, Cond.code yX12_theres cX12_theres 6 (some .int), Cond.methodLink RX12 491 yX12_boundOf, Cond.instanceMethod yX12_boundOf, Cond.selects RX12 yX12_boundOf yX12_boundOf, Cond.code yX12_boundOf cX12_boundOf 7 (some .long), Cond.methodLink RL 105 yX11_likeliest, Cond.instanceMethod yX11_likeliest, Cond.selects RX11 yX11_likeliest yX11_likeliest, Cond.code yX11_likeliest cX11_likeliest 11 (some .int), Cond.methodLink RL 108 yX12_likeliest, Cond.instanceMethod yX12_likeliest, Cond.selects RX12 yX12_likeliest yX12_likeliest]
def wsL_law_r49 : List Cond := [Cond.code yX12_likeliest cX12_likeliest 10 (some .int), Cond.methodLink RL 109 yX11_together, Cond.instanceMethod yX11_together, Cond.selects RX11 yX11_together yX11_together, Cond.code yX11_together cX11_together 9 (some .int), Cond.constant RX11 368 (-2000000000), Cond.methodLink RX11 369 yX11_findDeeps, Cond.instanceMethod yX11_findDeeps, Cond.selects RX11 yX11_findDeeps yX11_findDeeps, Cond.code yX11_findDeeps cX11_findDeeps 3 none, Cond.methodLink RX11 372 yX11_isKnown, Cond.instanceMethod yX11_isKnown, Cond.selects RX11 yX11_isKnown yX11_isKnown, Cond.code yX11_isKnown cX11_isKnown 3 (some .boolean), Cond.methodLink RX11 375 yX11_commonDivisor, Cond.static yX11_commonDivisor, Cond.code yX11_commonDivisor cX11_commonDivisor 6 (some .int), Cond.methodLink RL 112 yX12_together, Cond.instanceMethod yX12_together, Cond.selects RX12 yX12_together yX12_together, Cond.code yX12_together cX12_together 10 (some .int), Cond.constantLong RX12 494 (15), Cond.constant RX12 499 (-2000000000), Cond.methodLink RX12 496 yX12_isWeek]
def wsL_law_r50 : List Cond := [Cond.static yX12_isWeek, Cond.code yX12_isWeek cX12_isWeek 1 (some .boolean), Cond.methodLink RX12 500 yX12_rows, Cond.instanceMethod yX12_rows, Cond.selects RX12 yX12_rows yX12_rows, Cond.code yX12_rows cX12_rows 3 none, Cond.methodLink RX12 503 yX12_isKnown, Cond.instanceMethod yX12_isKnown, Cond.selects RX12 yX12_isKnown yX12_isKnown, Cond.code yX12_isKnown cX12_isKnown 3 (some .boolean), Cond.methodLink RX12 506 yX12_divisor, Cond.static yX12_divisor, Cond.code yX12_divisor cX12_divisor 10 (some .long), Cond.methodLink RL 113 yX11_hour, Cond.instanceMethod yX11_hour, Cond.selects RX11 yX11_hour yX11_hour, Cond.code yX11_hour cX11_hour 8 (some .int), Cond.methodLink RX11 378 yX11_isPair, Cond.instanceMethod yX11_isPair, Cond.selects RX11 yX11_isPair yX11_isPair, Cond.code yX11_isPair cX11_isPair 5 (some .boolean), Cond.methodLink RL 116 yX12_hour, Cond.instanceMethod yX12_hour, Cond.selects RX12 yX12_hour yX12_hour]
def wsL_law_r51 : List Cond := [Cond.code yX12_hour cX12_hour 9 (some .int), Cond.methodLink RL 117 yX11_said, Cond.instanceMethod yX11_said, Cond.selects RX11 yX11_said yX11_said, Cond.code yX11_said cX11_said 4 (some .int), Cond.methodLink RX11 392 yX11_findSaid, Cond.instanceMethod yX11_findSaid, Cond.selects RX11 yX11_findSaid yX11_findSaid, Cond.code yX11_findSaid cX11_findSaid 5 none, Cond.methodLink RX11 390 Lib.Math.min.name, Cond.methodLink RX11 384 yJ7_fill_53178, Cond.methodLink RX11 396 yX11_begunUpTo, Cond.instanceMethod yX11_begunUpTo, Cond.selects RX11 yX11_begunUpTo yX11_begunUpTo, Cond.code yX11_begunUpTo cX11_begunUpTo 4 (some .int), Cond.methodLink RL 120 yX12_said, Cond.instanceMethod yX12_said, Cond.selects RX12 yX12_said yX12_said, Cond.code yX12_said cX12_said 4 (some .int), Cond.methodLink RX12 509 yX12_saidIn, Cond.instanceMethod yX12_saidIn, Cond.selects RX12 yX12_saidIn yX12_saidIn, Cond.code yX12_saidIn cX12_saidIn 5 (some .int), Cond.methodLink RL 121 yX11_weeks]
def wsL_law_r52 : List Cond := [Cond.instanceMethod yX11_weeks, Cond.selects RX11 yX11_weeks yX11_weeks, Cond.code yX11_weeks cX11_weeks 12 (some .int), Cond.methodLink RL 125 yX12_weeks, Cond.instanceMethod yX12_weeks, Cond.selects RX12 yX12_weeks yX12_weeks, Cond.code yX12_weeks cX12_weeks 12 (some .int), Cond.methodLink RL 126 yX11_ripple, Cond.instanceMethod yX11_ripple, Cond.selects RX11 yX11_ripple yX11_ripple, Cond.code yX11_ripple cX11_ripple 5 (some .long), Cond.instanceMethod yX3_found, Cond.selects RX3 yX3_found yX3_found, Cond.code yX3_found cX3_found 8 (some .int), Cond.methodLink RX3 44 yX3_power, Cond.instanceMethod yX3_power, Cond.selects RX3 yX3_power yX3_power, Cond.code yX3_power cX3_power 6 (some .long), Cond.methodLink RX3 40 yX3_gather, Cond.instanceMethod yX3_gather, Cond.selects RX3 yX3_gather yX3_gather, Cond.code yX3_gather cX3_gather 5 none, Cond.methodLink RX3 19 yJ7_fill_d0a16, Cond.static yJ7_fill_d0a16]
def wsL_law_r53 : List Cond := [Cond.code yJ7_fill_d0a16 cJ7_fill_d0a16 5 none, Cond.methodLink RX3 25 yJ7_fill_53178, Cond.methodLink RL 129 yX12_ripple, Cond.instanceMethod yX12_ripple, Cond.selects RX12 yX12_ripple yX12_ripple, Cond.code yX12_ripple cX12_ripple 5 (some .long), Cond.methodLink RX12 515 yX12_periodNow, Cond.instanceMethod yX12_periodNow, Cond.selects RX12 yX12_periodNow yX12_periodNow, Cond.code yX12_periodNow cX12_periodNow 7 (some .int), Cond.methodLink RX12 512 yX12_powerOf, Cond.instanceMethod yX12_powerOf, Cond.selects RX12 yX12_powerOf yX12_powerOf, Cond.code yX12_powerOf cX12_powerOf 9 (some .long), Cond.methodLink RL 130 yX11_smooth, Cond.instanceMethod yX11_smooth, Cond.selects RX11 yX11_smooth yX11_smooth, Cond.code yX11_smooth cX11_smooth 7 (some .int), Cond.instanceMethod yX3_meanAt, Cond.selects RX3 yX3_meanAt yX3_meanAt, Cond.code yX3_meanAt cX3_meanAt 3 (some .long), Cond.methodLink RX3 48 yJ9_floorDiv_f86c9, Cond.methodLink RL 133 yX12_smooth, Cond.instanceMethod yX12_smooth]
def wsL_law_r54 : List Cond := [Cond.selects RX12 yX12_smooth yX12_smooth, Cond.code yX12_smooth cX12_smooth 5 (some .int), Cond.methodLink RX12 518 yX12_meanLeft, Cond.instanceMethod yX12_meanLeft, Cond.selects RX12 yX12_meanLeft yX12_meanLeft, Cond.code yX12_meanLeft cX12_meanLeft 7 (some .long), Cond.methodLink RL 134 yX11_without, Cond.instanceMethod yX11_without, Cond.selects RX11 yX11_without yX11_without, Cond.code yX11_without cX11_without 4 (some .int), Cond.methodLink RL 137 yX12_without, Cond.instanceMethod yX12_without, Cond.selects RX12 yX12_without yX12_without, Cond.code yX12_without cX12_without 4 (some .int), Cond.methodLink RX12 521 yX12_deepWithout, Cond.instanceMethod yX12_deepWithout, Cond.selects RX12 yX12_deepWithout yX12_deepWithout, Cond.code yX12_deepWithout cX12_deepWithout 6 (some .long), Cond.methodLink RL 138 yX11_weightiest, Cond.instanceMethod yX11_weightiest, Cond.selects RX11 yX11_weightiest yX11_weightiest, Cond.code yX11_weightiest cX11_weightiest 8 (some .int), Cond.methodLink RL 141 yX12_weightiest, Cond.instanceMethod yX12_weightiest]
def wsL_law_r55 : List Cond := [Cond.selects RX12 yX12_weightiest yX12_weightiest, Cond.code yX12_weightiest cX12_weightiest 11 (some .int), Cond.methodLink RL 142 yX11_deepest, Cond.instanceMethod yX11_deepest, Cond.selects RX11 yX11_deepest yX11_deepest, Cond.code yX11_deepest cX11_deepest 10 (some .long), Cond.constantLong RX11 304 (-2100000000), Cond.methodLink RL 145 yX12_deepest, Cond.instanceMethod yX12_deepest, Cond.selects RX12 yX12_deepest yX12_deepest, Cond.code yX12_deepest cX12_deepest 11 (some .long), Cond.constantLong RX12 524 (-2100000000), Cond.methodLink RL 146 yX11_house, Cond.instanceMethod yX11_house, Cond.selects RX11 yX11_house yX11_house, Cond.code yX11_house cX11_house 4 (some .int), Cond.methodLink RL 149 yX12_house, Cond.instanceMethod yX12_house, Cond.selects RX12 yX12_house yX12_house, Cond.code yX12_house cX12_house 5 (some .int), Cond.methodLink RL 150 yX11_says, Cond.instanceMethod yX11_says, Cond.selects RX11 yX11_says yX11_says, Cond.code yX11_says cX11_says 3 (some .int)]
def wsL_law_r56 : List Cond := [Cond.methodLink RX11 423 yX11_firstOf, Cond.instanceMethod yX11_firstOf, Cond.selects RX11 yX11_firstOf yX11_firstOf, Cond.code yX11_firstOf cX11_firstOf 8 (some .int), Cond.methodLink RL 153 yX12_says, Cond.instanceMethod yX12_says, Cond.selects RX12 yX12_says yX12_says, Cond.code yX12_says cX12_says 3 (some .int), Cond.methodLink RX12 526 yX12_firsts, Cond.instanceMethod yX12_firsts, Cond.selects RX12 yX12_firsts yX12_firsts, Cond.code yX12_firsts cX12_firsts 6 none, Cond.methodLink RL 154 yX11_agreed, Cond.instanceMethod yX11_agreed, Cond.selects RX11 yX11_agreed yX11_agreed, Cond.code yX11_agreed cX11_agreed 3 (some .int), Cond.methodLink RX11 426 yX11_findHouses, Cond.instanceMethod yX11_findHouses, Cond.selects RX11 yX11_findHouses yX11_findHouses, Cond.code yX11_findHouses cX11_findHouses 2 none, Cond.methodLink RL 157 yX12_agreed, Cond.instanceMethod yX12_agreed, Cond.selects RX12 yX12_agreed yX12_agreed, Cond.code yX12_agreed cX12_agreed 3 (some .int)]
def wsL_law_r57 : List Cond := [Cond.methodLink RX12 529 yX12_sayers, Cond.instanceMethod yX12_sayers, Cond.selects RX12 yX12_sayers yX12_sayers, Cond.code yX12_sayers cX12_sayers 4 (some .int), Cond.methodLink RL 158 yX11_alone, Cond.instanceMethod yX11_alone, Cond.selects RX11 yX11_alone yX11_alone, Cond.code yX11_alone cX11_alone 4 (some .int), Cond.methodLink RL 161 yX12_alone, Cond.instanceMethod yX12_alone, Cond.selects RX12 yX12_alone yX12_alone, Cond.code yX12_alone cX12_alone 3 (some .int), Cond.methodLink RL 162 yX11_odd, Cond.instanceMethod yX11_odd, Cond.selects RX11 yX11_odd yX11_odd, Cond.code yX11_odd cX11_odd 5 (some .int), Cond.methodLink RX11 399 yX11_sortIn, Cond.instanceMethod yX11_sortIn, Cond.selects RX11 yX11_sortIn yX11_sortIn, Cond.code yX11_sortIn cX11_sortIn 4 none, Cond.methodLink RX11 402 yX11_farthestFrom, Cond.instanceMethod yX11_farthestFrom, Cond.selects RX11 yX11_farthestFrom yX11_farthestFrom, Cond.code yX11_farthestFrom cX11_farthestFrom 7 (some .int)]
def wsL_law_r58 : List Cond := [Cond.methodLink RL 165 yX12_odd, Cond.instanceMethod yX12_odd, Cond.selects RX12 yX12_odd yX12_odd, Cond.code yX12_odd cX12_odd 9 (some .int), Cond.methodLink RL 166 yX11_candidate, Cond.instanceMethod yX11_candidate, Cond.selects RX11 yX11_candidate yX11_candidate, Cond.code yX11_candidate cX11_candidate 3 (some .int), Cond.methodLink RL 169 yX12_candidate, Cond.instanceMethod yX12_candidate, Cond.selects RX12 yX12_candidate yX12_candidate, Cond.code yX12_candidate cX12_candidate 4 (some .int), Cond.methodLink RL 170 yX11_next, Cond.instanceMethod yX11_next, Cond.selects RX11 yX11_next yX11_next, Cond.code yX11_next cX11_next 12 (some .long), Cond.methodLink RX11 438 yX11_findWorths, Cond.instanceMethod yX11_findWorths, Cond.selects RX11 yX11_findWorths yX11_findWorths, Cond.code yX11_findWorths cX11_findWorths 8 none, Cond.constantLong RX11 436 (1000000), Cond.methodLink RX11 432 yX11_meanNoise, Cond.instanceMethod yX11_meanNoise, Cond.selects RX11 yX11_meanNoise yX11_meanNoise]
def wsL_law_r59 : List Cond := [Cond.code yX11_meanNoise cX11_meanNoise 7 (some .long), Cond.methodLink RX11 441 yX11_hoursOf, Cond.instanceMethod yX11_hoursOf, Cond.selects RX11 yX11_hoursOf yX11_hoursOf, Cond.code yX11_hoursOf cX11_hoursOf 4 (some .int), Cond.methodLink RX11 444 yX11_worthOf, Cond.instanceMethod yX11_worthOf, Cond.selects RX11 yX11_worthOf yX11_worthOf, Cond.code yX11_worthOf cX11_worthOf 5 (some .long), Cond.methodLink RL 173 yX12_next, Cond.instanceMethod yX12_next, Cond.selects RX12 yX12_next yX12_next, Cond.code yX12_next cX12_next 13 (some .long), Cond.methodLink RX12 534 yX12_noises, Cond.instanceMethod yX12_noises, Cond.selects RX12 yX12_noises yX12_noises, Cond.code yX12_noises cX12_noises 3 none, Cond.methodLink RX12 537 yX12_worthOf, Cond.instanceMethod yX12_worthOf, Cond.selects RX12 yX12_worthOf yX12_worthOf, Cond.code yX12_worthOf cX12_worthOf 4 (some .long), Cond.constantLong RX12 532 (1000000), Cond.methodLink RL 174 yX11_told, Cond.instanceMethod yX11_told]
def wsL_law_r60 : List Cond := [Cond.selects RX11 yX11_told yX11_told, Cond.code yX11_told cX11_told 4 (some .int), Cond.methodLink RL 177 yX12_told, Cond.instanceMethod yX12_told, Cond.selects RX12 yX12_told yX12_told, Cond.code yX12_told cX12_told 4 (some .int), Cond.methodLink RL 178 yX11_gives, Cond.instanceMethod yX11_gives, Cond.selects RX11 yX11_gives yX11_gives, Cond.code yX11_gives cX11_gives 3 (some .int), Cond.methodLink RX11 471 yX11_givenBy, Cond.instanceMethod yX11_givenBy, Cond.selects RX11 yX11_givenBy yX11_givenBy, Cond.code yX11_givenBy cX11_givenBy 5 (some .int), Cond.constantLong RX11 464 (99999999), Cond.instanceMethod yX5_setWeather, Cond.selects RX5 yX5_setWeather yX5_setWeather, Cond.code yX5_setWeather cX5_setWeather 3 none, Cond.methodLink RX11 466 yX11_held, Cond.methodLink RL 181 yX12_gives, Cond.instanceMethod yX12_gives, Cond.selects RX12 yX12_gives yX12_gives, Cond.code yX12_gives cX12_gives 2 (some .int), Cond.methodLink RX12 542 yX12_givesOf]
def wsL_law_r61 : List Cond := [Cond.instanceMethod yX12_givesOf, Cond.selects RX12 yX12_givesOf yX12_givesOf, Cond.code yX12_givesOf cX12_givesOf 6 (some .int), Cond.constantLong RX12 540 (99999999), Cond.methodLink RL 182 yX11_brief, Cond.instanceMethod yX11_brief, Cond.selects RX11 yX11_brief yX11_brief, Cond.code yX11_brief cX11_brief 2 (some .int), Cond.methodLink RX11 474 yX11_isNeed, Cond.static yX11_isNeed, Cond.code yX11_isNeed cX11_isNeed 1 (some .boolean), Cond.constant RX11 496 (999999999), Cond.methodLink RX11 477 yX11_findGiven, Cond.instanceMethod yX11_findGiven, Cond.selects RX11 yX11_findGiven yX11_findGiven, Cond.code yX11_findGiven cX11_findGiven 5 (some .long), Cond.methodLink RL 185 yX12_brief, Cond.instanceMethod yX12_brief, Cond.selects RX12 yX12_brief yX12_brief, Cond.code yX12_brief cX12_brief 3 (some .int), Cond.constantLong RX12 545 (999999999), Cond.methodLink RX12 547 yX12_givenBy, Cond.instanceMethod yX12_givenBy, Cond.selects RX12 yX12_givenBy yX12_givenBy]
def wsL_law_r62 : List Cond := [Cond.code yX12_givenBy cX12_givenBy 4 (some .int), Cond.methodLink RL 186 yX11_fewest, Cond.instanceMethod yX11_fewest, Cond.selects RX11 yX11_fewest yX11_fewest, Cond.code yX11_fewest cX11_fewest 12 (some .int), Cond.methodLink RX11 480 yJ6_bitCount_0f7a4, Cond.static yJ6_bitCount_0f7a4, Cond.initialized RJ6, Cond.code yJ6_bitCount_0f7a4 cJ6_bitCount_0f7a4 1 (some .int), Cond.constant RJ6 265 (1431655765), Cond.constant RJ6 266 (858993459), Cond.constant RJ6 267 (252645135), Cond.methodLink RX11 485 yX11_givenTogether, Cond.instanceMethod yX11_givenTogether, Cond.selects RX11 yX11_givenTogether yX11_givenTogether, Cond.code yX11_givenTogether cX11_givenTogether 5 (some .long), Cond.methodLink RL 189 yX12_fewest, Cond.instanceMethod yX12_fewest, Cond.selects RX12 yX12_fewest yX12_fewest, Cond.code yX12_fewest cX12_fewest 7 (some .int), Cond.methodLink RX12 550 yX12_bits, Cond.static yX12_bits, Cond.code yX12_bits cX12_bits 3 (some .int), Cond.methodLink RL 190 yX11_count]
def wsL_law_r63 : List Cond := [Cond.instanceMethod yX11_count, Cond.selects RX11 yX11_count yX11_count, Cond.code yX11_count cX11_count 2 (some .int), Cond.methodLink RL 193 yX12_count, Cond.instanceMethod yX12_count, Cond.selects RX12 yX12_count yX12_count, Cond.code yX12_count cX12_count 4 (some .int), Cond.methodLink RL 194 yX11_image, Cond.instanceMethod yX11_image, Cond.selects RX11 yX11_image yX11_image, Cond.code yX11_image cX11_image 2 (some .int), Cond.instanceMethod yX0_copyFrom, Cond.selects RX0 yX0_copyFrom yX0_copyFrom, Cond.code yX0_copyFrom cX0_copyFrom 2 none, Cond.fieldLink RX0 43 "ThinLine$Book" "now" "I", Cond.methodLink RX0 47 arraycopyName, Cond.native arraycopyName, Cond.static arraycopyName, Cond.initialized "java/lang/System", Cond.instanceMethod yX4_copyFrom, Cond.selects RX4 yX4_copyFrom yX4_copyFrom, Cond.code yX4_copyFrom cX4_copyFrom 3 none, Cond.methodLink RX4 47 arraycopyName, Cond.instanceMethod yX6_copyFrom]
def wsL_law_r64 : List Cond := [Cond.selects RX6 yX6_copyFrom yX6_copyFrom, Cond.code yX6_copyFrom cX6_copyFrom 2 none, Cond.methodLink RX6 36 Lib.Math.min.name, Cond.methodLink RX6 39 arraycopyName, Cond.methodLink RL 197 yX12_image, Cond.instanceMethod yX12_image, Cond.selects RX12 yX12_image yX12_image, Cond.code yX12_image cX12_image 3 (some .int), Cond.methodLink RL 198 yX11_back, Cond.instanceMethod yX11_back, Cond.selects RX11 yX11_back yX11_back, Cond.code yX11_back cX11_back 2 (some .int), Cond.methodLink RL 201 yX12_back, Cond.instanceMethod yX12_back, Cond.selects RX12 yX12_back yX12_back, Cond.code yX12_back cX12_back 3 (some .int)]
def wsL_law : List Cond := (wsL_law_r1 ++ (wsL_law_r2 ++ (wsL_law_r3 ++ (wsL_law_r4 ++ (wsL_law_r5 ++ (wsL_law_r6 ++ (wsL_law_r7 ++ (wsL_law_r8 ++ (wsL_law_r9 ++ (wsL_law_r10 ++ (wsL_law_r11 ++ (wsL_law_r12 ++ (wsL_law_r13 ++ (wsL_law_r14 ++ (wsL_law_r15 ++ (wsL_law_r16 ++ (wsL_law_r17 ++ (wsL_law_r18 ++ (wsL_law_r19 ++ (wsL_law_r20 ++ (wsL_law_r21 ++ (wsL_law_r22 ++ (wsL_law_r23 ++ (wsL_law_r24 ++ (wsL_law_r25 ++ (wsL_law_r26 ++ (wsL_law_r27 ++ (wsL_law_r28 ++ (wsL_law_r29 ++ (wsL_law_r30 ++ (wsL_law_r31 ++ (wsL_law_r32 ++ (wsL_law_r33 ++ (wsL_law_r34 ++ (wsL_law_r35 ++ (wsL_law_r36 ++ (wsL_law_r37 ++ (wsL_law_r38 ++ (wsL_law_r39 ++ (wsL_law_r40 ++ (wsL_law_r41 ++ (wsL_law_r42 ++ (wsL_law_r43 ++ (wsL_law_r44 ++ (wsL_law_r45 ++ (wsL_law_r46 ++ (wsL_law_r47 ++ (wsL_law_r48 ++ (wsL_law_r49 ++ (wsL_law_r50 ++ (wsL_law_r51 ++ (wsL_law_r52 ++ (wsL_law_r53 ++ (wsL_law_r54 ++ (wsL_law_r55 ++ (wsL_law_r56 ++ (wsL_law_r57 ++ (wsL_law_r58 ++ (wsL_law_r59 ++ (wsL_law_r60 ++ (wsL_law_r61 ++ (wsL_law_r62 ++ (wsL_law_r63 ++ wsL_law_r64))))))))))))))))))))))))))))))))))))))))))))))))))))))))))))))) ++ wsX110 ++ wsX120 ++ wsX00 ++ wsX80 ++ wsX20 ++ wsX70 ++ wsX50 ++ wsX10 ++ wsX100 ++ wsX30 ++ wsX40 ++ wsX60 ++ wsX90 ++ ([] : List Cond)
set_option maxRecDepth 20000 in
theorem wsL_law_in : ∀ w ∈ wsL_law, w ∈ lw_tbl := fun w h => (goodIn_p wsL_law [202, 205, 210, 216, 254, 258, 316, 333, 339, 362, 437, 451, 473, 546, 1438, 607, 610, 613, 1592, 1596, 617, 620, 624, 628, 1600, 632, 639, 642, 647, 1606, 1610, 1613, 653, 657, 661, 1620, 1624, 1628, 665, 668, 672, 676, 680, 1632, 684, 1638, 691, 694, 698, 1642, 1648, 1652, 702, 706, 1656, 1660, 710, 1664, 714, 718, 722, 726, 730, 734, 738, 741, 744, 747, 750, 776, 780, 784, 790, 794, 797, 800, 805, 808, 811, 814, 818, 828, 832, 836, 840, 844, 848, 851, 855, 859, 863, 868, 876, 884, 872, 888, 892, 880, 896, 900, 904, 1668, 1672, 1675, 1679, 1683, 1687, 1692, 1696, 1708, 1712, 1716, 1720, 1724, 1728, 1732, 1736, 1740, 1744, 1748, 1752, 1757, 1761, 1765, 1779, 1783, 1787, 1792, 1796, 1800, 1804, 1807, 1811, 910, 914, 918, 923, 927, 932, 936, 940, 947, 951, 954, 958, 962, 967, 970, 974, 979, 982, 985, 989, 992, 1817, 1821, 1825, 1829, 1833, 1837, 1841, 1845, 1848, 1852, 1857, 1003, 1007, 1011, 1017, 1023, 1029, 1035, 1039, 1043, 1049, 1052, 1056, 1060, 1064, 1067, 1071, 1076, 1080, 1865, 1869, 1873, 1877, 1881, 1885, 1889, 1893, 1896, 1901, 1906, 1910, 1913, 1084, 1089, 1093, 1096, 1101, 1107, 1917, 1115, 1119, 1123, 1924, 1928, 1932, 1128, 1134, 1936, 1144, 1940, 1149, 1153, 1945, 1157, 1162, 1950, 1169, 1173, 1955, 1178, 1181, 1960, 1187, 1191, 1195, 1199, 1203, 1207, 1211, 1966, 1971, 1975, 1979, 1983, 1987, 1215, 1991, 1219, 1224, 1228, 1231, 1995, 1999, 2004, 2008, 2011, 1235, 1239, 2015, 1243, 1247, 1253, 2019, 2023, 1257, 2027, 1273, 1277, 1281, 1285, 1288, 2031, 2035, 2039, 1294, 1299, 2043, 2047, 1304, 2051, 2055, 1308, 2059, 1139, 2063, 1312, 2068, 1316, 1320, 2072, 2076, 1324, 1328, 2080, 2084, 1332, 2088, 1261, 1265, 1269, 2092, 1336, 2096, 1340, 1344, 1348, 1353, 1357, 2100, 2104, 2108, 1361, 2113, 1365, 1369, 1373, 2117, 2121, 1381, 1384, 1389, 2126, 2131, 1393, 1396, 1403, 2135, 2138, 1407, 2142, 1411, 1415, 1422, 1427, 2146, 1433, 2150] (by decide +kernel) (by decide +kernel) w h).1
theorem inlX0 : ∀ w ∈ wsX00, w ∈ wsL_law := fun _ h => List.mem_append_left _ (List.mem_append_left _ (List.mem_append_left _ (List.mem_append_left _ (List.mem_append_left _ (List.mem_append_left _ (List.mem_append_left _ (List.mem_append_left _ (List.mem_append_left _ (List.mem_append_left _ (List.mem_append_left _ (List.mem_append_right _ h)))))))))))
theorem inlX1 : ∀ w ∈ wsX10, w ∈ wsL_law := fun _ h => List.mem_append_left _ (List.mem_append_left _ (List.mem_append_left _ (List.mem_append_left _ (List.mem_append_left _ (List.mem_append_left _ (List.mem_append_right _ h))))))
theorem inlX2 : ∀ w ∈ wsX20, w ∈ wsL_law := fun _ h => List.mem_append_left _ (List.mem_append_left _ (List.mem_append_left _ (List.mem_append_left _ (List.mem_append_left _ (List.mem_append_left _ (List.mem_append_left _ (List.mem_append_left _ (List.mem_append_left _ (List.mem_append_right _ h)))))))))
theorem inlX3 : ∀ w ∈ wsX30, w ∈ wsL_law := fun _ h => List.mem_append_left _ (List.mem_append_left _ (List.mem_append_left _ (List.mem_append_left _ (List.mem_append_right _ h))))
theorem inlX4 : ∀ w ∈ wsX40, w ∈ wsL_law := fun _ h => List.mem_append_left _ (List.mem_append_left _ (List.mem_append_left _ (List.mem_append_right _ h)))
theorem inlX5 : ∀ w ∈ wsX50, w ∈ wsL_law := fun _ h => List.mem_append_left _ (List.mem_append_left _ (List.mem_append_left _ (List.mem_append_left _ (List.mem_append_left _ (List.mem_append_left _ (List.mem_append_left _ (List.mem_append_right _ h)))))))
theorem inlX6 : ∀ w ∈ wsX60, w ∈ wsL_law := fun _ h => List.mem_append_left _ (List.mem_append_left _ (List.mem_append_right _ h))
theorem inlX7 : ∀ w ∈ wsX70, w ∈ wsL_law := fun _ h => List.mem_append_left _ (List.mem_append_left _ (List.mem_append_left _ (List.mem_append_left _ (List.mem_append_left _ (List.mem_append_left _ (List.mem_append_left _ (List.mem_append_left _ (List.mem_append_right _ h))))))))
theorem inlX8 : ∀ w ∈ wsX80, w ∈ wsL_law := fun _ h => List.mem_append_left _ (List.mem_append_left _ (List.mem_append_left _ (List.mem_append_left _ (List.mem_append_left _ (List.mem_append_left _ (List.mem_append_left _ (List.mem_append_left _ (List.mem_append_left _ (List.mem_append_left _ (List.mem_append_right _ h))))))))))
theorem inlX9 : ∀ w ∈ wsX90, w ∈ wsL_law := fun _ h => List.mem_append_left _ (List.mem_append_right _ h)
theorem inlX10 : ∀ w ∈ wsX100, w ∈ wsL_law := fun _ h => List.mem_append_left _ (List.mem_append_left _ (List.mem_append_left _ (List.mem_append_left _ (List.mem_append_left _ (List.mem_append_right _ h)))))
theorem inlX11 : ∀ w ∈ wsX110, w ∈ wsL_law := fun _ h => List.mem_append_left _ (List.mem_append_left _ (List.mem_append_left _ (List.mem_append_left _ (List.mem_append_left _ (List.mem_append_left _ (List.mem_append_left _ (List.mem_append_left _ (List.mem_append_left _ (List.mem_append_left _ (List.mem_append_left _ (List.mem_append_left _ (List.mem_append_left _ (List.mem_append_right _ h)))))))))))))
theorem inlX12 : ∀ w ∈ wsX120, w ∈ wsL_law := fun _ h => List.mem_append_left _ (List.mem_append_left _ (List.mem_append_left _ (List.mem_append_left _ (List.mem_append_left _ (List.mem_append_left _ (List.mem_append_left _ (List.mem_append_left _ (List.mem_append_left _ (List.mem_append_left _ (List.mem_append_left _ (List.mem_append_left _ (List.mem_append_right _ h))))))))))))
abbrev vwCl : List vw_C := [(RX0, TX0, 9), (RX1, TX1, 5), (RX2, TX2, 6), (RX3, TX3, 2), (RX4, TX4, 6), (RX5, TX5, 2), (RX6, TX6, 3), (RX7, TX7, 9), (RX8, TX8, 2), (RX9, TX9, 4), (RX10, TX10, 18), (RX11, TX11, 16), (RX12, TX12, 49)]
