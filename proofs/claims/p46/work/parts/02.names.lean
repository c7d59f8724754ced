/-! ===== BEGIN words of one list among another's, by their places ===== -/
theorem goodIn_r {big : List Cond} (ws : List Cond) (ps : List Nat) (hp : ws = ps.filterMap (fun i => big[i]?)) (h : ws.all goodWord = true) : GoodIn big ws := by
  intro w hw
  have h1 := List.all_eq_true.mp h w hw
  rw [hp] at hw
  obtain ⟨i, -, hi⟩ := List.mem_filterMap.mp hw
  have hm : w ∈ big := by first | exact List.mem_of_getElem? hi | exact List.getElem?_mem hi
  exact ⟨hm, good_of_word h1⟩
theorem goodIn_app {big a b : List Cond} (ha : GoodIn big a) (hb : GoodIn big b) : GoodIn big (a ++ b) := fun w h => (List.mem_append.mp h).elim (ha w) (hb w)
theorem goodIn_ca {big a b : List Cond} {c : Cond} (ha : GoodIn big (c :: a)) (hb : GoodIn big b) : GoodIn big (c :: (a ++ b)) := fun w h => (List.mem_cons.mp h).elim (fun e => ha w (List.mem_cons.mpr (Or.inl e))) (fun h => (List.mem_append.mp h).elim (fun h => ha w (List.mem_cons.mpr (Or.inr h))) (hb w))
theorem goodIn_sub {big ws : List Cond} (hm : ∀ w ∈ ws, w ∈ big) (h : ws.all goodWord = true) : GoodIn big ws := fun w hw => ⟨hm w hw, good_of_word (List.all_eq_true.mp h w hw)⟩
/-! ===== END ===== -/


def va_AOA (t : FieldType) (U : State) : Prop := (Cond.arrayOver (.array t)).before #[] U = true
theorem va_AOA.of {t : FieldType} {A : Array Value} {U : State} (h : (Cond.arrayOver (.array t)).before A U = true) : va_AOA t U := h
theorem va_AOA.use {t : FieldType} {A : Array Value} {U : State} (h : va_AOA t U) : (Cond.arrayOver (.array t)).before A U = true := h
theorem va_AOA.moved {t : FieldType} {u U : State} (hvm : u.vm.Alike U.vm) (h : va_AOA t u) : va_AOA t U := by
  obtain ⟨comp, c, k, h1, h2, h3, h4, h5⟩ := arrayOverA_spec h
  obtain ⟨k', hk', he⟩ := hvm.2.2 _ _ h3
  have hi : (U.vm.classes.findIdx? fun (x : Class) => match x.kind with | .array component _ => component == comp | _ => false) = some c := by
    refine Eq.trans (va_idx_bare U.vm comp).symm ?_
    first | rw [hvm.bare_eq] | rw [← hvm.bare_eq]
    exact (va_idx_bare u.vm comp).trans h2
  have hkind : k'.kind = .array comp (.array t) := by rw [he]; exact h4
  have f1 : U.vm.findClass (FieldType.array t).toString = some comp := by rw [hvm.findClass]; exact h1
  have f2 : U.vm.findClass ("[" ++ (FieldType.array t).toString) = some c := by rw [hvm.findClass]; exact h5
  unfold va_AOA Cond.before Cond.holds
  simp only [Cond.value]
  rw [f1, Option.bind_some]
  refine (congrArg (fun o : Option Nat => (o.bind (fun c => (U.vm.classes[c]?).map fun (k : Class) => match k.kind with | .array _ ty => decide (ty = FieldType.array t) && decide (U.vm.findClass ("[" ++ (FieldType.array t).toString) = some c) | _ => false) == some true)) hi).trans ?_
  simp [hk', hkind, f2]

/-! ===== BEGIN new T[n][m]: the outer array a place, the inner ones among the pooled ===== -/
/-- f, but v at every address of l -/
def vr_up {α : Type} (f : Nat → α) (l : List Nat) (v : α) : Nat → α := fun a => if a ∈ l then v else f a
theorem vr_up_in {α : Type} {f : Nat → α} {l : List Nat} {v : α} {a : Nat} (h : a ∈ l) : vr_up f l v a = v := if_pos h
theorem vr_up_ne {α : Type} {f : Nat → α} {l : List Nat} {v : α} {a : Nat} (h : a ∉ l) : vr_up f l v a = f a := if_neg h
theorem vr_rows {L l : List Nat} {f : Nat → va_E} {e : va_E} (h : ∀ a, a ∈ l → a ∉ L) : va_pl L f ++ l.map (fun a => (a, e)) = va_pl (L ++ l) (vr_up f l e) := by
  unfold va_pl
  rw [List.map_append]
  congr 1
  · apply List.map_congr_left
    intro a ha
    rw [vr_up_ne (fun q => h a q ha)]
  · apply List.map_congr_left
    intro a ha
    rw [vr_up_in ha]
theorem vr_lay {X rows : va_W} {x : Nat × va_E} {pl : va_W} {D : va_G} {cl : List vw_C} {H : Heap} (hP : va_P D cl (((X ++ pl) ++ [x]) ++ rows) H) : va_P D cl ((X ++ [x]) ++ (pl ++ rows)) H := by
  rw [List.append_assoc (X ++ pl)] at hP
  have h := va_P.swap hP
  rw [← List.append_assoc X] at h
  have h2 := va_P.swap h
  rw [List.append_assoc (X ++ [x])] at h2
  exact h2
theorem vr_layD {X rows : va_W} {x : Nat × va_E} {pl : va_W} {A : Nat → Prop} (hD : va_D A (((X ++ pl) ++ [x]) ++ rows)) : va_D A ((X ++ [x]) ++ (pl ++ rows)) := by
  rw [List.append_assoc (X ++ pl)] at hD
  have h := va_D.swap hD
  rw [← List.append_assoc X] at h
  have h2 := va_D.swap h
  rw [List.append_assoc (X ++ [x])] at h2
  exact h2
theorem vr_outer (c : ClassId) (N h0 : Nat) : ∀ i : Nat, Jvm.Free.Multi.outerC c N h0 i = arrV c N (fun j => va_rf (if j < i then some (h0 + 1 + j) else none))
  | 0 => by
    show ({ cls := c, slots := Array.replicate N .null, vm := .none } : Cell) = _
    rw [arrV_new]
    refine congrArg (arrV c N) (funext fun j => ?_)
    simp [va_rf]
  | i + 1 => by
    show (Jvm.Free.Multi.outerC c N h0 i).setSlot i (.ref (h0 + 1 + i)) = _
    rw [vr_outer c N h0 i, arrV_store]
    refine congrArg (arrV c N) (funext fun j => ?_)
    by_cases e : j = i
    · subst e
      simp [updV, va_rf]
    · by_cases h : j < i
      · simp [updV, e, h, Nat.lt_succ_of_lt h]
      · simp [updV, e, h, show ¬ j < i + 1 by omega]
section VGM
variable {p : Program} {l : Launch} {e : Env} {R : Room} {s : State} {m : MethodId} {args : Array Value} {below : List Frame} {meth : Method} {c : Code} {H : Heap} {locs : List Loc} {cells slots : Nat} {Q : State → Prop}
variable {cc : ByteArray} {pc : Nat} {ls : Array Slot} {rest : List Value} {D : va_G} {cl : List vw_C} {A : Nat → Prop} {a : Nat} {tys : List (ClassId × FieldType)} {ws : va_W} {H0 : Heap}
theorem va_mna {X : va_W} {L : List Nat} {f : Nat → va_E} {cc : ByteArray} (hexec : p.tables.exec = Jvm.exec) (hb : c.code = cc) {own : String} {index : Nat} {ty : FieldType} {cy : ClassId} (hown : s.vm.findClass own = some m.cls) (hclink : (Cond.classLink own index ("[" ++ (FieldType.array ty).toString)).before args s = true) (hover : va_AOA ty s) (harr : (Cond.arrayClass ty).before args s = true) (hcy : s.vm.findClass (FieldType.array ty).toString = some cy)
    (hK : va_K D cl tys s) (hP : va_P D cl (X ++ va_pl L f) H) (hD : va_D A (X ++ va_pl L f)) (hS : va_S A H0 H locs) (hA : ∀ q, H0.size ≤ q → A q) {n k : Int32} {N' K' : Nat} {z : vp_A} (hn : ¬ n < 0) (hk : ¬ k < 0) (hN : n.toNatClampNeg = N') (hM : k.toNatClampNeg = K')
    (hb1 : N' * 4 ≤ 536870912) (hb2 : K' * componentBytes ty ≤ 536870912) (hb3 : K' ≤ 536870912) (hdf : fits ty (defaultValue ty) = true) (hdd : (defaultValue ty).isDefault = true) (hcells : cells + (1 + N') ≤ R.cells) (hslots : slots + (N' + N' * K') ≤ R.slots) (hz : ∀ c : ClassId, Jvm.Free.Multi.innerC c K' (defaultValue ty) = vp_cell c z) (hdg : decode cc pc = .ok (.multianewarray index 2, 4))
    (kk : ∀ (q : Nat) (r : Nat → Nat) (cA : ClassId) (H1 : Heap), (∀ i j : Nat, i < N' → j < N' → r i = r j → i = j) → (∀ i : Nat, i < N' → r i ∉ L) → va_K D cl (tys ++ [(cA, .array ty)]) s →
      va_P D cl ((X ++ [(q, .inl (cA, N', .inr (.inr (.inr (.inr (fun i => if i < N' then some (r i) else none))))))]) ++ va_pl (L ++ (List.range N').map r) (vr_up f ((List.range N').map r) (.inl (cy, z)))) H1 → va_D A ((X ++ [(q, .inl (cA, N', .inr (.inr (.inr (.inr (fun i => if i < N' then some (r i) else none))))))]) ++ va_pl (L ++ (List.range N').map r) (vr_up f ((List.range N').map r) (.inl (cy, z)))) → va_S A H0 H1 locs →
      W p l e R s m args below meth c H1 locs (cells + 1 + N') (slots + N' + N' * K') Q (F0 m (pc + 4) ls (.ref q :: rest))) : W p l e R s m args below meth c H locs cells slots Q (F0 m pc ls (.int k :: .int n :: rest)) := by
  subst hN
  subst hM
  intro T hT Xs
  obtain ⟨vm₁, cA, comp, -, fA, fC, hO, -, X', step⟩ := Xs.multianewarray2F hexec hown hclink (va_AOA.use hover) harr (g := F0 m pc ls (.int k :: .int n :: rest)) rfl (by rw [hb]; exact hdg) rfl hn hk hb1 hb2 hb3 hdf hdd hcells hslots
  have ec : some cy = some comp := hcy.symm.trans fC
  cases ec
  generalize hF : Jvm.Free.Multi.fill (T.setVm vm₁) cA cy n.toNatClampNeg k.toNatClampNeg (defaultValue ty) n.toNatClampNeg = F at X' step
  have hTh : (T.setVm vm₁).heap = H := hT
  obtain ⟨f1, f2, -, -⟩ := Jvm.Free.Multi.fill_facts (T.setVm vm₁) cA cy n.toNatClampNeg k.toNatClampNeg (defaultValue ty) n.toNatClampNeg
  rw [hF, hTh] at f1 f2
  have hold : ∀ x : Nat, x < H.size → F.heap[x]? = H[x]? := fun x hx => by
    have := Jvm.Free.Multi.fill_old (T.setVm vm₁) cA cy n.toNatClampNeg k.toNatClampNeg (defaultValue ty) (a := x) (by rw [hTh]; exact hx) n.toNatClampNeg
    rw [hF, hTh] at this
    exact this
  have hrow : ∀ j : Nat, j < n.toNatClampNeg → F.heap[H.size + 1 + j]? = some (vp_cell cy z) := fun j hj => by
    have := Jvm.Free.Multi.fill_inner (T.setVm vm₁) cA cy n.toNatClampNeg k.toNatClampNeg (defaultValue ty) n.toNatClampNeg j hj
    rw [hF, hTh, hz] at this
    exact this
  have hout : Jvm.Free.Multi.outerC cA n.toNatClampNeg H.size n.toNatClampNeg = vp_cell cA (n.toNatClampNeg, .inr (.inr (.inr (.inr (fun i => if i < n.toNatClampNeg then some (H.size + 1 + i) else none))))) := by
    rw [vp_cell_q]
    exact vr_outer cA n.toNatClampNeg H.size n.toNatClampNeg
  rw [hout] at f2
  have hlt : ∀ a, a ∈ L → a < H.size := fun a ha => by
    obtain ⟨k9, hk9⟩ := va_pl_get (X := X) (f := f) ha
    exact (hP k9 _ hk9).lt
  have hnl : ∀ i : Nat, i < n.toNatClampNeg → H.size + 1 + i ∉ L := fun i _ h => by
    have := hlt _ h
    omega
  have hnm : ∀ a, a ∈ (List.range n.toNatClampNeg).map (fun i => H.size + 1 + i) → a ∉ L := fun a ha h => by
    obtain ⟨i, -, rfl⟩ := List.mem_map.mp ha
    have := hlt _ h
    omega
  have hP0 : va_P D cl (X ++ va_pl L f) F.heap := hP.kept (fun k9 x hx => hold x.1 ((hP k9 x hx).lt))
  have hP1 : va_P D cl ((X ++ va_pl L f) ++ [(H.size, .inl (cA, n.toNatClampNeg, .inr (.inr (.inr (.inr (fun i => if i < n.toNatClampNeg then some (H.size + 1 + i) else none))))))]) F.heap := hP0.app (fun k9 x hx => by
    have h0 : k9 < 1 := (List.getElem?_eq_some_iff.mp hx).1
    rw [show k9 = 0 by omega] at hx
    cases hx
    exact f2)
  have hP2 : va_P D cl (((X ++ va_pl L f) ++ [(H.size, .inl (cA, n.toNatClampNeg, .inr (.inr (.inr (.inr (fun i => if i < n.toNatClampNeg then some (H.size + 1 + i) else none))))))]) ++ ((List.range n.toNatClampNeg).map (fun i => H.size + 1 + i)).map (fun a => (a, .inl (cy, z)))) F.heap := hP1.app (fun k9 x hx => by
    obtain ⟨a, ha, rfl⟩ := List.mem_map.mp (List.mem_of_getElem? hx)
    obtain ⟨i, hi, rfl⟩ := List.mem_map.mp ha
    exact hrow i (List.mem_range.mp hi))
  have hD2 : va_D A (((X ++ va_pl L f) ++ [(H.size, .inl (cA, n.toNatClampNeg, .inr (.inr (.inr (.inr (fun i => if i < n.toNatClampNeg then some (H.size + 1 + i) else none))))))]) ++ ((List.range n.toNatClampNeg).map (fun i => H.size + 1 + i)).map (fun a => (a, .inl (cy, z)))) := by
    have hD1 := hD.push (e := .inl (cA, n.toNatClampNeg, .inr (.inr (.inr (.inr (fun i => if i < n.toNatClampNeg then some (H.size + 1 + i) else none)))))) hP rfl (hA _ hS.1)
    generalize hW1 : (X ++ va_pl L f) ++ [(H.size, .inl (cA, n.toNatClampNeg, .inr (.inr (.inr (.inr (fun i => if i < n.toNatClampNeg then some (H.size + 1 + i) else none))))))] = W1 at hD1 hP1 ⊢
    have hle : ∀ (k9 : Nat) (x : Nat × va_E), W1[k9]? = some x → x.1 ≤ H.size := fun k9 x hx => by
      rw [← hW1] at hx
      by_cases hl : k9 < (X ++ va_pl L f).length
      · rw [List.getElem?_append_left hl] at hx
        exact Nat.le_of_lt ((hP k9 x hx).lt)
      · rw [List.getElem?_append_right (by omega)] at hx
        have h0 : k9 - (X ++ va_pl L f).length < 1 := (List.getElem?_eq_some_iff.mp hx).1
        rw [show k9 - (X ++ va_pl L f).length = 0 by omega] at hx
        cases hx
        exact Nat.le_refl _
    have hr : ∀ (k9 : Nat) (x : Nat × va_E), (((List.range n.toNatClampNeg).map (fun i => H.size + 1 + i)).map (fun a => ((a, .inl (cy, z)) : Nat × va_E)))[k9]? = some x → x.1 = H.size + 1 + k9 := fun k9 x hx => by
      rw [List.getElem?_map, List.getElem?_map] at hx
      by_cases h9 : k9 < n.toNatClampNeg
      · rw [List.getElem?_range h9] at hx
        cases hx
        rfl
      · have hn0 : (List.range n.toNatClampNeg)[k9]? = none := List.getElem?_eq_none (by rw [List.length_range]; omega)
        rw [hn0] at hx
        cases hx
    refine ⟨fun i j x y hi hj hxy => ?_, fun k9 x hx => ?_⟩
    · by_cases h1 : i < W1.length <;> by_cases h2 : j < W1.length
      · rw [List.getElem?_append_left h1] at hi
        rw [List.getElem?_append_left h2] at hj
        exact hD1.1 i j x y hi hj hxy
      · rw [List.getElem?_append_left h1] at hi
        rw [List.getElem?_append_right (by omega)] at hj
        have := hle _ _ hi
        have := hr _ _ hj
        omega
      · rw [List.getElem?_append_right (by omega)] at hi
        rw [List.getElem?_append_left h2] at hj
        have := hle _ _ hj
        have := hr _ _ hi
        omega
      · rw [List.getElem?_append_right (by omega)] at hi hj
        have := hr _ _ hi
        have := hr _ _ hj
        omega
    · by_cases h1 : k9 < W1.length
      · rw [List.getElem?_append_left h1] at hx
        exact hD1.2 k9 x hx
      · rw [List.getElem?_append_right (by omega)] at hx
        have := hr _ _ hx
        exact hA _ (by have := hS.1; omega)
  have hAr : ArrOfT s cA (.array ty) := fun N9 z9 => by
    obtain ⟨-, k9, hk9, cm9, hkk9⟩ := (hO 0 0 0).1
    exact ⟨(fun q hq => by cases hq), k9, hk9, cm9, hkk9⟩
  have hK2 : va_K D cl (tys ++ [(cA, .array ty)]) s := ⟨hK.1, fun k9 x hx => by
    by_cases hl : k9 < tys.length
    · rw [List.getElem?_append_left hl] at hx
      exact hK.2 k9 x hx
    · rw [List.getElem?_append_right (by omega)] at hx
      have h0 : k9 - tys.length < 1 := (List.getElem?_eq_some_iff.mp hx).1
      rw [show k9 - tys.length = 0 by omega] at hx
      cases hx
      exact ⟨hAr, fA⟩⟩
  obtain ⟨t, a1, b1⟩ := kk H.size (fun i => H.size + 1 + i) cA F.heap (fun i j _ _ h => by have h9 : H.size + 1 + i = H.size + 1 + j := h; omega) hnl hK2 (by rw [← vr_rows hnm]; exact vr_lay hP2) (by rw [← vr_rows hnm]; exact vr_layD hD2) ⟨by rw [f1]; have := hS.1; omega, fun x h1 h2 => (hold x (Nat.lt_of_lt_of_le h1 hS.1)).trans (hS.2.1 x h1 h2), hS.2.2⟩ F rfl X'
  refine ⟨t, step t ?_, b1⟩
  have e : T.heap.size = H.size := by rw [hT]
  rw [e]
  exact a1
end VGM
/-! ===== END ===== -/

def RX0 : String := "ThinLine$Book"
def TX0 : u_T := fun k => match k with
  | 0 => ("ThinLine$Book", "now", "I", false)
  | 1 => ("ThinLine$Book", "told", "[I", true)
  | 2 => ("ThinLine$Book", "rows", "LThinLine$Rows;", true)
  | 3 => ("ThinLine$Book", "slips", "LThinLine$Table;", true)
  | 4 => ("ThinLine$Book", "lines", "LThinLine$Table;", true)
  | 5 => ("ThinLine$Book", "candidates", "LThinLine$Table;", true)
  | 6 => ("ThinLine$Book", "houses", "LThinLine$Table;", true)
  | 7 => ("ThinLine$Book", "tape", "[I", true)
  | _ => ("ThinLine$Book", "taped", "I", false)
def tyX0 : Nat → FieldType := fun k => match k with
  | 0 => .int
  | 1 => .array .int
  | 2 => .object "ThinLine$Rows"
  | 3 => .object "ThinLine$Table"
  | 4 => .object "ThinLine$Table"
  | 5 => .object "ThinLine$Table"
  | 6 => .object "ThinLine$Table"
  | 7 => .array .int
  | _ => .int
abbrev wsX00 : List Cond := u_ws RX0 TX0 9
theorem nmX0 : ∀ a, a < 9 → ∀ b, b < 9 → a ≠ b → (TX0 a).2.1 ≠ (TX0 b).2.1 := by decide +kernel
theorem tyX0_ok : ∀ k, k < 9 → parseFieldDescriptor (TX0 k).2.2.1 = some (tyX0 k) := by decide +kernel
abbrev cX0_init : ByteArray := prog_2_method_1_code
def yX0_init : MethodName := ⟨RX0, "<init>", "()V"⟩
abbrev cX0_copyFrom : ByteArray := prog_2_method_2_code
def yX0_copyFrom : MethodName := ⟨RX0, "copyFrom", "(LThinLine$Book;)V"⟩
abbrev cX0_append : ByteArray := prog_2_method_3_code
def yX0_append : MethodName := ⟨RX0, "append", "(I)V"⟩
abbrev cX0_byteAt : ByteArray := prog_2_method_4_code
def yX0_byteAt : MethodName := ⟨RX0, "byteAt", "(I)I"⟩
abbrev cX0_hasLine : ByteArray := prog_2_method_5_code
def yX0_hasLine : MethodName := ⟨RX0, "hasLine", "(II)Z"⟩
abbrev cX0_slipped : ByteArray := prog_2_method_6_code
def yX0_slipped : MethodName := ⟨RX0, "slipped", "(II)I"⟩
abbrev cX0_readRow : ByteArray := prog_2_method_7_code
def yX0_readRow : MethodName := ⟨RX0, "readRow", "(II[Z[I)V"⟩
abbrev cX0_takeOff : ByteArray := prog_2_method_8_code
def yX0_takeOff : MethodName := ⟨RX0, "takeOff", "(I[I)V"⟩
def RX1 : String := "ThinLine$Maker"
def TX1 : u_T := fun k => match k with
  | 0 => ("ThinLine$Maker", "eaten", "[I", true)
  | 1 => ("ThinLine$Maker", "period", "I", false)
  | 2 => ("ThinLine$Maker", "swing", "I", false)
  | 3 => ("ThinLine$Maker", "noise", "I", false)
  | _ => ("ThinLine$Maker", "x", "J", false)
def tyX1 : Nat → FieldType := fun k => match k with
  | 0 => .array .int
  | 1 => .int
  | 2 => .int
  | 3 => .int
  | _ => .long
abbrev wsX10 : List Cond := u_ws RX1 TX1 5
theorem nmX1 : ∀ a, a < 5 → ∀ b, b < 5 → a ≠ b → (TX1 a).2.1 ≠ (TX1 b).2.1 := by decide +kernel
theorem tyX1_ok : ∀ k, k < 5 → parseFieldDescriptor (TX1 k).2.2.1 = some (tyX1 k) := by decide +kernel
abbrev cX1_init : ByteArray := prog_3_method_1_code
def yX1_init : MethodName := ⟨RX1, "<init>", "()V"⟩
abbrev cX1_begin : ByteArray := prog_3_method_2_code
def yX1_begin : MethodName := ⟨RX1, "begin", "(LThinLine$Text;I)V"⟩
abbrev cX1_eatNothing : ByteArray := prog_3_method_3_code
def yX1_eatNothing : MethodName := ⟨RX1, "eatNothing", "()V"⟩
abbrev cX1_eat : ByteArray := prog_3_method_4_code
def yX1_eat : MethodName := ⟨RX1, "eat", "(LThinLine$Text;LThinLine$Table;)V"⟩
abbrev cX1_makeAt : ByteArray := prog_3_method_5_code
def yX1_makeAt : MethodName := ⟨RX1, "makeAt", "(LThinLine$Text;LThinLine$Sums;I)I"⟩
abbrev cX1_shineOf : ByteArray := prog_3_method_6_code
def yX1_shineOf : MethodName := ⟨RX1, "shineOf", "(LThinLine$Text;LThinLine$Sums;)J"⟩
abbrev cX1_swingAt : ByteArray := prog_3_method_7_code
def yX1_swingAt : MethodName := ⟨RX1, "swingAt", "(I)I"⟩
def RX2 : String := "ThinLine$Parser"
def TX2 : u_T := fun k => match k with
  | 0 => ("ThinLine$Parser", "tokens", "LThinLine$Tokens;", true)
  | 1 => ("ThinLine$Parser", "text", "LThinLine$Text;", false)
  | 2 => ("ThinLine$Parser", "sort", "I", false)
  | 3 => ("ThinLine$Parser", "at", "I", false)
  | 4 => ("ThinLine$Parser", "items", "I", false)
  | _ => ("ThinLine$Parser", "fault", "I", false)
def tyX2 : Nat → FieldType := fun k => match k with
  | 0 => .object "ThinLine$Tokens"
  | 1 => .object "ThinLine$Text"
  | 2 => .int
  | 3 => .int
  | 4 => .int
  | _ => .int
abbrev wsX20 : List Cond := u_ws RX2 TX2 6
theorem nmX2 : ∀ a, a < 6 → ∀ b, b < 6 → a ≠ b → (TX2 a).2.1 ≠ (TX2 b).2.1 := by decide +kernel
theorem tyX2_ok : ∀ k, k < 6 → parseFieldDescriptor (TX2 k).2.2.1 = some (tyX2 k) := by decide +kernel
abbrev cX2_init : ByteArray := prog_4_method_1_code
def yX2_init : MethodName := ⟨RX2, "<init>", "()V"⟩
abbrev cX2_parse : ByteArray := prog_4_method_2_code
def yX2_parse : MethodName := ⟨RX2, "parse", "(LThinLine$Book;ILThinLine$Text;)I"⟩
abbrev cX2_kindHere : ByteArray := prog_4_method_3_code
def yX2_kindHere : MethodName := ⟨RX2, "kindHere", "()I"⟩
abbrev cX2_valueHere : ByteArray := prog_4_method_4_code
def yX2_valueHere : MethodName := ⟨RX2, "valueHere", "()I"⟩
abbrev cX2_isWordHere : ByteArray := prog_4_method_5_code
def yX2_isWordHere : MethodName := ⟨RX2, "isWordHere", "(I)Z"⟩
abbrev cX2_faultHere : ByteArray := prog_4_method_6_code
def yX2_faultHere : MethodName := ⟨RX2, "faultHere", "(I)Z"⟩
abbrev cX2_isHead : ByteArray := prog_4_method_7_code
def yX2_isHead : MethodName := ⟨RX2, "isHead", "(I)Z"⟩
abbrev cX2_isOnce : ByteArray := prog_4_method_8_code
def yX2_isOnce : MethodName := ⟨RX2, "isOnce", "(I)Z"⟩
abbrev cX2_head : ByteArray := prog_4_method_9_code
def yX2_head : MethodName := ⟨RX2, "head", "()Z"⟩
abbrev cX2_body : ByteArray := prog_4_method_10_code
def yX2_body : MethodName := ⟨RX2, "body", "()Z"⟩
abbrev cX2_numbers : ByteArray := prog_4_method_11_code
def yX2_numbers : MethodName := ⟨RX2, "numbers", "(II)Z"⟩
abbrev cX2_number : ByteArray := prog_4_method_12_code
def yX2_number : MethodName := ⟨RX2, "number", "([IIII)Z"⟩
abbrev cX2_test : ByteArray := prog_4_method_13_code
def yX2_test : MethodName := ⟨RX2, "test", "(I)Z"⟩
abbrev cX2_fact : ByteArray := prog_4_method_14_code
def yX2_fact : MethodName := ⟨RX2, "fact", "(I)Z"⟩
abbrev cX2_inner : ByteArray := prog_4_method_15_code
def yX2_inner : MethodName := ⟨RX2, "inner", "(I)Z"⟩
abbrev cX2_sum : ByteArray := prog_4_method_16_code
def yX2_sum : MethodName := ⟨RX2, "sum", "()Z"⟩
abbrev cX2_value : ByteArray := prog_4_method_17_code
def yX2_value : MethodName := ⟨RX2, "value", "()Z"⟩
def RX3 : String := "ThinLine$Rests"
def TX3 : u_T := fun k => match k with
  | 0 => ("ThinLine$Rests", "left", "[J", true)
  | _ => ("ThinLine$Rests", "many", "[I", true)
def tyX3 : Nat → FieldType := fun k => match k with
  | 0 => .array .long
  | _ => .array .int
abbrev wsX30 : List Cond := u_ws RX3 TX3 2
theorem nmX3 : ∀ a, a < 2 → ∀ b, b < 2 → a ≠ b → (TX3 a).2.1 ≠ (TX3 b).2.1 := by decide +kernel
theorem tyX3_ok : ∀ k, k < 2 → parseFieldDescriptor (TX3 k).2.2.1 = some (tyX3 k) := by decide +kernel
abbrev cX3_init : ByteArray := prog_5_method_1_code
def yX3_init : MethodName := ⟨RX3, "<init>", "()V"⟩
abbrev cX3_gather : ByteArray := prog_5_method_2_code
def yX3_gather : MethodName := ⟨RX3, "gather", "(LThinLine$View;I)V"⟩
abbrev cX3_power : ByteArray := prog_5_method_3_code
def yX3_power : MethodName := ⟨RX3, "power", "(LThinLine$View;I)J"⟩
abbrev cX3_found : ByteArray := prog_5_method_4_code
def yX3_found : MethodName := ⟨RX3, "found", "(LThinLine$View;)I"⟩
abbrev cX3_meanAt : ByteArray := prog_5_method_5_code
def yX3_meanAt : MethodName := ⟨RX3, "meanAt", "(I)J"⟩
def RX4 : String := "ThinLine$Rows"
def TX4 : u_T := fun k => match k with
  | 0 => ("ThinLine$Rows", "size", "I", false)
  | 1 => ("ThinLine$Rows", "numbers", "I", false)
  | 2 => ("ThinLine$Rows", "glass", "[I", true)
  | 3 => ("ThinLine$Rows", "hour", "[I", true)
  | 4 => ("ThinLine$Rows", "known", "[I", true)
  | _ => ("ThinLine$Rows", "raw", "[[I", true)
def tyX4 : Nat → FieldType := fun k => match k with
  | 0 => .int
  | 1 => .int
  | 2 => .array .int
  | 3 => .array .int
  | 4 => .array .int
  | _ => .array (.array .int)
abbrev wsX40 : List Cond := u_ws RX4 TX4 6
theorem nmX4 : ∀ a, a < 6 → ∀ b, b < 6 → a ≠ b → (TX4 a).2.1 ≠ (TX4 b).2.1 := by decide +kernel
theorem tyX4_ok : ∀ k, k < 6 → parseFieldDescriptor (TX4 k).2.2.1 = some (tyX4 k) := by decide +kernel
abbrev cX4_init : ByteArray := prog_6_method_1_code
def yX4_init : MethodName := ⟨RX4, "<init>", "()V"⟩
abbrev cX4_has : ByteArray := prog_6_method_2_code
def yX4_has : MethodName := ⟨RX4, "has", "(I)Z"⟩
abbrev cX4_add : ByteArray := prog_6_method_3_code
def yX4_add : MethodName := ⟨RX4, "add", "(III)I"⟩
abbrev cX4_put : ByteArray := prog_6_method_4_code
def yX4_put : MethodName := ⟨RX4, "put", "(III)I"⟩
abbrev cX4_copyFrom : ByteArray := prog_6_method_5_code
def yX4_copyFrom : MethodName := ⟨RX4, "copyFrom", "(LThinLine$Rows;)V"⟩
def RX5 : String := "ThinLine$Sums"
def TX5 : u_T := fun k => match k with
  | 0 => ("ThinLine$Sums", "words", "[J", true)
  | _ => ("ThinLine$Sums", "stack", "[J", true)
def tyX5 : Nat → FieldType := fun k => match k with
  | 0 => .array .long
  | _ => .array .long
abbrev wsX50 : List Cond := u_ws RX5 TX5 2
theorem nmX5 : ∀ a, a < 2 → ∀ b, b < 2 → a ≠ b → (TX5 a).2.1 ≠ (TX5 b).2.1 := by decide +kernel
theorem tyX5_ok : ∀ k, k < 2 → parseFieldDescriptor (TX5 k).2.2.1 = some (tyX5 k) := by decide +kernel
abbrev cX5_init : ByteArray := prog_7_method_1_code
def yX5_init : MethodName := ⟨RX5, "<init>", "()V"⟩
abbrev cX5_setRow : ByteArray := prog_7_method_2_code
def yX5_setRow : MethodName := ⟨RX5, "setRow", "(LThinLine$Rows;I)V"⟩
abbrev cX5_setColour : ByteArray := prog_7_method_3_code
def yX5_setColour : MethodName := ⟨RX5, "setColour", "(I)V"⟩
abbrev cX5_setWeather : ByteArray := prog_7_method_4_code
def yX5_setWeather : MethodName := ⟨RX5, "setWeather", "(LThinLine$Book;)V"⟩
abbrev cX5_holds : ByteArray := prog_7_method_5_code
def yX5_holds : MethodName := ⟨RX5, "holds", "(LThinLine$Text;I)Z"⟩
abbrev cX5_sumOf : ByteArray := prog_7_method_6_code
def yX5_sumOf : MethodName := ⟨RX5, "sumOf", "(LThinLine$Text;I)J"⟩
abbrev cX5_worked : ByteArray := prog_7_method_7_code
def yX5_worked : MethodName := ⟨RX5, "worked", "(LThinLine$Text;II)J"⟩
abbrev cX5_wordAt : ByteArray := prog_7_method_8_code
def yX5_wordAt : MethodName := ⟨RX5, "wordAt", "(I)J"⟩
abbrev cX5_joined : ByteArray := prog_7_method_9_code
def yX5_joined : MethodName := ⟨RX5, "joined", "(IJJ)J"⟩
def RX6 : String := "ThinLine$Table"
def TX6 : u_T := fun k => match k with
  | 0 => ("ThinLine$Table", "most", "I", true)
  | 1 => ("ThinLine$Table", "cells", "[I", true)
  | _ => ("ThinLine$Table", "size", "I", false)
def tyX6 : Nat → FieldType := fun k => match k with
  | 0 => .int
  | 1 => .array .int
  | _ => .int
abbrev wsX60 : List Cond := u_ws RX6 TX6 3
theorem nmX6 : ∀ a, a < 3 → ∀ b, b < 3 → a ≠ b → (TX6 a).2.1 ≠ (TX6 b).2.1 := by decide +kernel
theorem tyX6_ok : ∀ k, k < 3 → parseFieldDescriptor (TX6 k).2.2.1 = some (tyX6 k) := by decide +kernel
abbrev cX6_init : ByteArray := prog_8_method_1_code
def yX6_init : MethodName := ⟨RX6, "<init>", "(I)V"⟩
abbrev cX6_has : ByteArray := prog_8_method_2_code
def yX6_has : MethodName := ⟨RX6, "has", "(I)Z"⟩
abbrev cX6_add : ByteArray := prog_8_method_3_code
def yX6_add : MethodName := ⟨RX6, "add", "(IIII)I"⟩
abbrev cX6_cell : ByteArray := prog_8_method_4_code
def yX6_cell : MethodName := ⟨RX6, "cell", "(II)I"⟩
abbrev cX6_set : ByteArray := prog_8_method_5_code
def yX6_set : MethodName := ⟨RX6, "set", "(III)V"⟩
abbrev cX6_copyFrom : ByteArray := prog_8_method_6_code
def yX6_copyFrom : MethodName := ⟨RX6, "copyFrom", "(LThinLine$Table;)V"⟩
def RX7 : String := "ThinLine$Text"
def TX7 : u_T := fun k => match k with
  | 0 => ("ThinLine$Text", "clauses", "I", false)
  | 1 => ("ThinLine$Text", "head", "[I", true)
  | 2 => ("ThinLine$Text", "first", "[I", true)
  | 3 => ("ThinLine$Text", "second", "[I", true)
  | 4 => ("ThinLine$Text", "sumAt", "[I", true)
  | 5 => ("ThinLine$Text", "testAt", "[I", true)
  | 6 => ("ThinLine$Text", "endAt", "[I", true)
  | 7 => ("ThinLine$Text", "steps", "[I", true)
  | _ => ("ThinLine$Text", "length", "I", false)
def tyX7 : Nat → FieldType := fun k => match k with
  | 0 => .int
  | 1 => .array .int
  | 2 => .array .int
  | 3 => .array .int
  | 4 => .array .int
  | 5 => .array .int
  | 6 => .array .int
  | 7 => .array .int
  | _ => .int
abbrev wsX70 : List Cond := u_ws RX7 TX7 9
theorem nmX7 : ∀ a, a < 9 → ∀ b, b < 9 → a ≠ b → (TX7 a).2.1 ≠ (TX7 b).2.1 := by decide +kernel
theorem tyX7_ok : ∀ k, k < 9 → parseFieldDescriptor (TX7 k).2.2.1 = some (tyX7 k) := by decide +kernel
abbrev cX7_init : ByteArray := prog_9_method_1_code
def yX7_init : MethodName := ⟨RX7, "<init>", "()V"⟩
abbrev cX7_wipe : ByteArray := prog_9_method_2_code
def yX7_wipe : MethodName := ⟨RX7, "wipe", "()V"⟩
abbrev cX7_step : ByteArray := prog_9_method_3_code
def yX7_step : MethodName := ⟨RX7, "step", "(II)V"⟩
abbrev cX7_open : ByteArray := prog_9_method_4_code
def yX7_open : MethodName := ⟨RX7, "open", "(I)V"⟩
abbrev cX7_clauseOf : ByteArray := prog_9_method_5_code
def yX7_clauseOf : MethodName := ⟨RX7, "clauseOf", "(I)I"⟩
abbrev cX7_firstOf : ByteArray := prog_9_method_6_code
def yX7_firstOf : MethodName := ⟨RX7, "firstOf", "(II)I"⟩
abbrev cX7_secondOf : ByteArray := prog_9_method_7_code
def yX7_secondOf : MethodName := ⟨RX7, "secondOf", "(II)I"⟩
def RX8 : String := "ThinLine$Texts"
def TX8 : u_T := fun k => match k with
  | 0 => ("ThinLine$Texts", "kept", "[LThinLine$Text;", true)
  | _ => ("ThinLine$Texts", "size", "I", false)
def tyX8 : Nat → FieldType := fun k => match k with
  | 0 => .array (.object "ThinLine$Text")
  | _ => .int
abbrev wsX80 : List Cond := u_ws RX8 TX8 2
theorem nmX8 : ∀ a, a < 2 → ∀ b, b < 2 → a ≠ b → (TX8 a).2.1 ≠ (TX8 b).2.1 := by decide +kernel
theorem tyX8_ok : ∀ k, k < 2 → parseFieldDescriptor (TX8 k).2.2.1 = some (tyX8 k) := by decide +kernel
abbrev cX8_init : ByteArray := prog_10_method_1_code
def yX8_init : MethodName := ⟨RX8, "<init>", "(I)V"⟩
abbrev cX8_isFull : ByteArray := prog_10_method_2_code
def yX8_isFull : MethodName := ⟨RX8, "isFull", "()Z"⟩
abbrev cX8_keep : ByteArray := prog_10_method_3_code
def yX8_keep : MethodName := ⟨RX8, "keep", "(LThinLine$Text;)I"⟩
abbrev cX8_at : ByteArray := prog_10_method_4_code
def yX8_at : MethodName := ⟨RX8, "at", "(I)LThinLine$Text;"⟩
def RX9 : String := "ThinLine$Tokens"
def TX9 : u_T := fun k => match k with
  | 0 => ("ThinLine$Tokens", "kind", "[I", true)
  | 1 => ("ThinLine$Tokens", "place", "[I", true)
  | 2 => ("ThinLine$Tokens", "value", "[I", true)
  | _ => ("ThinLine$Tokens", "size", "I", false)
def tyX9 : Nat → FieldType := fun k => match k with
  | 0 => .array .int
  | 1 => .array .int
  | 2 => .array .int
  | _ => .int
abbrev wsX90 : List Cond := u_ws RX9 TX9 4
theorem nmX9 : ∀ a, a < 4 → ∀ b, b < 4 → a ≠ b → (TX9 a).2.1 ≠ (TX9 b).2.1 := by decide +kernel
theorem tyX9_ok : ∀ k, k < 4 → parseFieldDescriptor (TX9 k).2.2.1 = some (tyX9 k) := by decide +kernel
abbrev cX9_init : ByteArray := prog_11_method_1_code
def yX9_init : MethodName := ⟨RX9, "<init>", "()V"⟩
abbrev cX9_cut : ByteArray := prog_11_method_2_code
def yX9_cut : MethodName := ⟨RX9, "cut", "(LThinLine$Book;)V"⟩
abbrev cX9_add : ByteArray := prog_11_method_3_code
def yX9_add : MethodName := ⟨RX9, "add", "(III)V"⟩
abbrev cX9_sortOf : ByteArray := prog_11_method_4_code
def yX9_sortOf : MethodName := ⟨RX9, "sortOf", "(I)I"⟩
abbrev cX9_numberIn : ByteArray := prog_11_method_5_code
def yX9_numberIn : MethodName := ⟨RX9, "numberIn", "(LThinLine$Book;II)I"⟩
abbrev cX9_wordIn : ByteArray := prog_11_method_6_code
def yX9_wordIn : MethodName := ⟨RX9, "wordIn", "(LThinLine$Book;II)I"⟩
abbrev cX9_isSpelled : ByteArray := prog_11_method_7_code
def yX9_isSpelled : MethodName := ⟨RX9, "isSpelled", "(LThinLine$Book;IILjava/lang/String;)Z"⟩
abbrev cX9_spelling : ByteArray := prog_11_method_8_code
def yX9_spelling : MethodName := ⟨RX9, "spelling", "(I)Ljava/lang/String;"⟩
def RX10 : String := "ThinLine$View"
def TX10 : u_T := fun k => match k with
  | 0 => ("ThinLine$View", "told", "[Z", true)
  | 1 => ("ThinLine$View", "skipped", "[Z", true)
  | 2 => ("ThinLine$View", "used", "[Z", true)
  | 3 => ("ThinLine$View", "seen", "[I", true)
  | 4 => ("ThinLine$View", "height", "[I", true)
  | 5 => ("ThinLine$View", "openAhead", "[I", true)
  | 6 => ("ThinLine$View", "sumAhead", "[I", true)
  | 7 => ("ThinLine$View", "knotColour", "[I", true)
  | 8 => ("ThinLine$View", "knotHeight", "[I", true)
  | 9 => ("ThinLine$View", "bends", "I", false)
  | 10 => ("ThinLine$View", "wide", "I", false)
  | 11 => ("ThinLine$View", "gapFrom", "I", false)
  | 12 => ("ThinLine$View", "gapTo", "I", false)
  | 13 => ("ThinLine$View", "knots", "I", false)
  | 14 => ("ThinLine$View", "gapCount", "I", false)
  | 15 => ("ThinLine$View", "usedCount", "I", false)
  | 16 => ("ThinLine$View", "gapLeft", "J", false)
  | _ => ("ThinLine$View", "usedLeft", "J", false)
def tyX10 : Nat → FieldType := fun k => match k with
  | 0 => .array .boolean
  | 1 => .array .boolean
  | 2 => .array .boolean
  | 3 => .array .int
  | 4 => .array .int
  | 5 => .array .int
  | 6 => .array .int
  | 7 => .array .int
  | 8 => .array .int
  | 9 => .int
  | 10 => .int
  | 11 => .int
  | 12 => .int
  | 13 => .int
  | 14 => .int
  | 15 => .int
  | 16 => .long
  | _ => .long
abbrev wsX100 : List Cond := u_ws RX10 TX10 18
theorem nmX10 : ∀ a, a < 18 → ∀ b, b < 18 → a ≠ b → (TX10 a).2.1 ≠ (TX10 b).2.1 := by decide +kernel
theorem tyX10_ok : ∀ k, k < 18 → parseFieldDescriptor (TX10 k).2.2.1 = some (tyX10 k) := by decide +kernel
abbrev cX10_init : ByteArray := prog_12_method_1_code
def yX10_init : MethodName := ⟨RX10, "<init>", "()V"⟩
abbrev cX10_skipBy : ByteArray := prog_12_method_2_code
def yX10_skipBy : MethodName := ⟨RX10, "skipBy", "(LThinLine$Text;LThinLine$Sums;)V"⟩
abbrev cX10_frameBy : ByteArray := prog_12_method_3_code
def yX10_frameBy : MethodName := ⟨RX10, "frameBy", "(LThinLine$Text;)V"⟩
abbrev cX10_gapLength : ByteArray := prog_12_method_4_code
def yX10_gapLength : MethodName := ⟨RX10, "gapLength", "()I"⟩
abbrev cX10_isInGap : ByteArray := prog_12_method_5_code
def yX10_isInGap : MethodName := ⟨RX10, "isInGap", "(I)Z"⟩
abbrev cX10_isTold : ByteArray := prog_12_method_6_code
def yX10_isTold : MethodName := ⟨RX10, "isTold", "(I)Z"⟩
abbrev cX10_isUsed : ByteArray := prog_12_method_7_code
def yX10_isUsed : MethodName := ⟨RX10, "isUsed", "(I)Z"⟩
abbrev cX10_leftAt : ByteArray := prog_12_method_8_code
def yX10_leftAt : MethodName := ⟨RX10, "leftAt", "(I)I"⟩
abbrev cX10_tally : ByteArray := prog_12_method_9_code
def yX10_tally : MethodName := ⟨RX10, "tally", "()V"⟩
abbrev cX10_moveTo : ByteArray := prog_12_method_10_code
def yX10_moveTo : MethodName := ⟨RX10, "moveTo", "(I)V"⟩
abbrev cX10_bendTo : ByteArray := prog_12_method_11_code
def yX10_bendTo : MethodName := ⟨RX10, "bendTo", "(I)V"⟩
abbrev cX10_lay : ByteArray := prog_12_method_12_code
def yX10_lay : MethodName := ⟨RX10, "lay", "()V"⟩
abbrev cX10_layKnots : ByteArray := prog_12_method_13_code
def yX10_layKnots : MethodName := ⟨RX10, "layKnots", "()V"⟩
abbrev cX10_besideGap : ByteArray := prog_12_method_14_code
def yX10_besideGap : MethodName := ⟨RX10, "besideGap", "([III)I"⟩
abbrev cX10_layHeights : ByteArray := prog_12_method_15_code
def yX10_layHeights : MethodName := ⟨RX10, "layHeights", "()V"⟩
abbrev cX10_layBetween : ByteArray := prog_12_method_16_code
def yX10_layBetween : MethodName := ⟨RX10, "layBetween", "(III)V"⟩
abbrev cX10_measure : ByteArray := prog_12_method_17_code
def yX10_measure : MethodName := ⟨RX10, "measure", "()V"⟩
abbrev cX10_isLaid : ByteArray := prog_12_method_18_code
def yX10_isLaid : MethodName := ⟨RX10, "isLaid", "()Z"⟩
abbrev cX10_hasDeep : ByteArray := prog_12_method_19_code
def yX10_hasDeep : MethodName := ⟨RX10, "hasDeep", "()Z"⟩
abbrev cX10_deepness : ByteArray := prog_12_method_20_code
def yX10_deepness : MethodName := ⟨RX10, "deepness", "()I"⟩
abbrev cX10_noisiness : ByteArray := prog_12_method_21_code
def yX10_noisiness : MethodName := ⟨RX10, "noisiness", "()J"⟩
abbrev cX10_scored : ByteArray := prog_12_method_22_code
def yX10_scored : MethodName := ⟨RX10, "scored", "()J"⟩
abbrev cX10_isNotBelow : ByteArray := prog_12_method_23_code
def yX10_isNotBelow : MethodName := ⟨RX10, "isNotBelow", "(J)Z"⟩
abbrev cX10_squares : ByteArray := prog_12_method_24_code
def yX10_squares : MethodName := ⟨RX10, "squares", "()J"⟩
def RX11 : String := "ThinLine"
def TX11 : u_T := fun k => match k with
  | 0 => ("ThinLine", "book", "LThinLine$Book;", true)
  | 1 => ("ThinLine", "images", "[LThinLine$Book;", true)
  | 2 => ("ThinLine", "laws", "LThinLine$Texts;", true)
  | 3 => ("ThinLine", "curves", "LThinLine$Texts;", true)
  | 4 => ("ThinLine", "ways", "LThinLine$Texts;", true)
  | 5 => ("ThinLine", "parser", "LThinLine$Parser;", true)
  | 6 => ("ThinLine", "draft", "LThinLine$Text;", false)
  | 7 => ("ThinLine", "sums", "LThinLine$Sums;", true)
  | 8 => ("ThinLine", "maker", "LThinLine$Maker;", true)
  | 9 => ("ThinLine", "view", "LThinLine$View;", true)
  | 10 => ("ThinLine", "rests", "LThinLine$Rests;", true)
  | 11 => ("ThinLine", "rowDeeps", "[I", true)
  | 12 => ("ThinLine", "sorted", "[I", true)
  | 13 => ("ThinLine", "firstWeeks", "[I", true)
  | 14 => ("ThinLine", "worths", "[J", true)
  | _ => ("ThinLine", "given", "[I", true)
def tyX11 : Nat → FieldType := fun k => match k with
  | 0 => .object "ThinLine$Book"
  | 1 => .array (.object "ThinLine$Book")
  | 2 => .object "ThinLine$Texts"
  | 3 => .object "ThinLine$Texts"
  | 4 => .object "ThinLine$Texts"
  | 5 => .object "ThinLine$Parser"
  | 6 => .object "ThinLine$Text"
  | 7 => .object "ThinLine$Sums"
  | 8 => .object "ThinLine$Maker"
  | 9 => .object "ThinLine$View"
  | 10 => .object "ThinLine$Rests"
  | 11 => .array .int
  | 12 => .array .int
  | 13 => .array .int
  | 14 => .array .long
  | _ => .array .int
abbrev wsX110 : List Cond := u_ws RX11 TX11 16
theorem nmX11 : ∀ a, a < 16 → ∀ b, b < 16 → a ≠ b → (TX11 a).2.1 ≠ (TX11 b).2.1 := by decide +kernel
theorem tyX11_ok : ∀ k, k < 16 → parseFieldDescriptor (TX11 k).2.2.1 = some (tyX11 k) := by decide +kernel
abbrev cX11_init : ByteArray := prog_1_method_1_code
def yX11_init : MethodName := ⟨RX11, "<init>", "()V"⟩
abbrev cX11_clock : ByteArray := prog_1_method_2_code
def yX11_clock : MethodName := ⟨RX11, "clock", "(I)Z"⟩
abbrev cX11_row : ByteArray := prog_1_method_3_code
def yX11_row : MethodName := ⟨RX11, "row", "(II)I"⟩
abbrev cX11_raw : ByteArray := prog_1_method_4_code
def yX11_raw : MethodName := ⟨RX11, "raw", "(III)I"⟩
abbrev cX11_read : ByteArray := prog_1_method_5_code
def yX11_read : MethodName := ⟨RX11, "read", "(II)I"⟩
abbrev cX11_slip : ByteArray := prog_1_method_6_code
def yX11_slip : MethodName := ⟨RX11, "slip", "(IIII)I"⟩
abbrev cX11_anew : ByteArray := prog_1_method_7_code
def yX11_anew : MethodName := ⟨RX11, "anew", "(II)I"⟩
abbrev cX11_line : ByteArray := prog_1_method_8_code
def yX11_line : MethodName := ⟨RX11, "line", "(III)I"⟩
abbrev cX11_feed : ByteArray := prog_1_method_9_code
def yX11_feed : MethodName := ⟨RX11, "feed", "(IIIII)I"⟩
abbrev cX11_end : ByteArray := prog_1_method_10_code
def yX11_end : MethodName := ⟨RX11, "end", "(I)I"⟩
abbrev cX11_text : ByteArray := prog_1_method_11_code
def yX11_text : MethodName := ⟨RX11, "text", "(I)I"⟩
abbrev cX11_shelfOf : ByteArray := prog_1_method_12_code
def yX11_shelfOf : MethodName := ⟨RX11, "shelfOf", "(I)LThinLine$Texts;"⟩
abbrev cX11_make : ByteArray := prog_1_method_13_code
def yX11_make : MethodName := ⟨RX11, "make", "(IIIII)I"⟩
abbrev cX11_look : ByteArray := prog_1_method_14_code
def yX11_look : MethodName := ⟨RX11, "look", "(III)Z"⟩
abbrev cX11_curve : ByteArray := prog_1_method_15_code
def yX11_curve : MethodName := ⟨RX11, "curve", "(IIII)I"⟩
abbrev cX11_deep : ByteArray := prog_1_method_16_code
def yX11_deep : MethodName := ⟨RX11, "deep", "(III)J"⟩
abbrev cX11_moved : ByteArray := prog_1_method_17_code
def yX11_moved : MethodName := ⟨RX11, "moved", "(III)J"⟩
abbrev cX11_elsewhere : ByteArray := prog_1_method_18_code
def yX11_elsewhere : MethodName := ⟨RX11, "elsewhere", "(III)I"⟩
abbrev cX11_deepest : ByteArray := prog_1_method_19_code
def yX11_deepest : MethodName := ⟨RX11, "deepest", "(III)J"⟩
abbrev cX11_drawn : ByteArray := prog_1_method_20_code
def yX11_drawn : MethodName := ⟨RX11, "drawn", "(IIIII)I"⟩
abbrev cX11_bent : ByteArray := prog_1_method_21_code
def yX11_bent : MethodName := ⟨RX11, "bent", "(III)J"⟩
abbrev cX11_best : ByteArray := prog_1_method_22_code
def yX11_best : MethodName := ⟨RX11, "best", "(IIII)J"⟩
abbrev cX11_taken : ByteArray := prog_1_method_23_code
def yX11_taken : MethodName := ⟨RX11, "taken", "(IIII)I"⟩
abbrev cX11_apart : ByteArray := prog_1_method_24_code
def yX11_apart : MethodName := ⟨RX11, "apart", "(III)I"⟩
abbrev cX11_stuff : ByteArray := prog_1_method_25_code
def yX11_stuff : MethodName := ⟨RX11, "stuff", "(IIII)J"⟩
abbrev cX11_amountOf : ByteArray := prog_1_method_26_code
def yX11_amountOf : MethodName := ⟨RX11, "amountOf", "(I)J"⟩
abbrev cX11_isElse : ByteArray := prog_1_method_27_code
def yX11_isElse : MethodName := ⟨RX11, "isElse", "(II)Z"⟩
abbrev cX11_elseOf : ByteArray := prog_1_method_28_code
def yX11_elseOf : MethodName := ⟨RX11, "elseOf", "(I)I"⟩
abbrev cX11_thereOf : ByteArray := prog_1_method_29_code
def yX11_thereOf : MethodName := ⟨RX11, "thereOf", "(IJ)I"⟩
abbrev cX11_boundOf : ByteArray := prog_1_method_30_code
def yX11_boundOf : MethodName := ⟨RX11, "boundOf", "(I)J"⟩
abbrev cX11_likeliest : ByteArray := prog_1_method_31_code
def yX11_likeliest : MethodName := ⟨RX11, "likeliest", "(II)I"⟩
abbrev cX11_findDeeps : ByteArray := prog_1_method_32_code
def yX11_findDeeps : MethodName := ⟨RX11, "findDeeps", "(I)V"⟩
abbrev cX11_isKnown : ByteArray := prog_1_method_33_code
def yX11_isKnown : MethodName := ⟨RX11, "isKnown", "(II)Z"⟩
abbrev cX11_together : ByteArray := prog_1_method_34_code
def yX11_together : MethodName := ⟨RX11, "together", "(IIII)I"⟩
abbrev cX11_commonDivisor : ByteArray := prog_1_method_35_code
def yX11_commonDivisor : MethodName := ⟨RX11, "commonDivisor", "(II)I"⟩
abbrev cX11_hour : ByteArray := prog_1_method_36_code
def yX11_hour : MethodName := ⟨RX11, "hour", "(III)I"⟩
abbrev cX11_isPair : ByteArray := prog_1_method_37_code
def yX11_isPair : MethodName := ⟨RX11, "isPair", "(II)Z"⟩
abbrev cX11_findSaid : ByteArray := prog_1_method_38_code
def yX11_findSaid : MethodName := ⟨RX11, "findSaid", "(II)V"⟩
abbrev cX11_begunUpTo : ByteArray := prog_1_method_39_code
def yX11_begunUpTo : MethodName := ⟨RX11, "begunUpTo", "(I)I"⟩
abbrev cX11_said : ByteArray := prog_1_method_40_code
def yX11_said : MethodName := ⟨RX11, "said", "(III)I"⟩
abbrev cX11_weeks : ByteArray := prog_1_method_41_code
def yX11_weeks : MethodName := ⟨RX11, "weeks", "(IIIIII)I"⟩
abbrev cX11_odd : ByteArray := prog_1_method_42_code
def yX11_odd : MethodName := ⟨RX11, "odd", "(II)I"⟩
abbrev cX11_sortIn : ByteArray := prog_1_method_43_code
def yX11_sortIn : MethodName := ⟨RX11, "sortIn", "(II)V"⟩
abbrev cX11_farthestFrom : ByteArray := prog_1_method_44_code
def yX11_farthestFrom : MethodName := ⟨RX11, "farthestFrom", "(II)I"⟩
abbrev cX11_ripple : ByteArray := prog_1_method_45_code
def yX11_ripple : MethodName := ⟨RX11, "ripple", "(III)J"⟩
abbrev cX11_smooth : ByteArray := prog_1_method_46_code
def yX11_smooth : MethodName := ⟨RX11, "smooth", "(II)I"⟩
abbrev cX11_without : ByteArray := prog_1_method_47_code
def yX11_without : MethodName := ⟨RX11, "without", "(III)I"⟩
abbrev cX11_weightiest : ByteArray := prog_1_method_48_code
def yX11_weightiest : MethodName := ⟨RX11, "weightiest", "(II)I"⟩
abbrev cX11_house : ByteArray := prog_1_method_49_code
def yX11_house : MethodName := ⟨RX11, "house", "(III)I"⟩
abbrev cX11_firstOf : ByteArray := prog_1_method_50_code
def yX11_firstOf : MethodName := ⟨RX11, "firstOf", "(I)I"⟩
abbrev cX11_findHouses : ByteArray := prog_1_method_51_code
def yX11_findHouses : MethodName := ⟨RX11, "findHouses", "()V"⟩
abbrev cX11_says : ByteArray := prog_1_method_52_code
def yX11_says : MethodName := ⟨RX11, "says", "(II)I"⟩
abbrev cX11_agreed : ByteArray := prog_1_method_53_code
def yX11_agreed : MethodName := ⟨RX11, "agreed", "(I)I"⟩
abbrev cX11_alone : ByteArray := prog_1_method_54_code
def yX11_alone : MethodName := ⟨RX11, "alone", "(I)I"⟩
abbrev cX11_candidate : ByteArray := prog_1_method_55_code
def yX11_candidate : MethodName := ⟨RX11, "candidate", "(II)I"⟩
abbrev cX11_meanNoise : ByteArray := prog_1_method_56_code
def yX11_meanNoise : MethodName := ⟨RX11, "meanNoise", "(II)J"⟩
abbrev cX11_findWorths : ByteArray := prog_1_method_57_code
def yX11_findWorths : MethodName := ⟨RX11, "findWorths", "(I)V"⟩
abbrev cX11_hoursOf : ByteArray := prog_1_method_58_code
def yX11_hoursOf : MethodName := ⟨RX11, "hoursOf", "(I)I"⟩
abbrev cX11_worthOf : ByteArray := prog_1_method_59_code
def yX11_worthOf : MethodName := ⟨RX11, "worthOf", "(I)J"⟩
abbrev cX11_next : ByteArray := prog_1_method_60_code
def yX11_next : MethodName := ⟨RX11, "next", "(III)J"⟩
abbrev cX11_told : ByteArray := prog_1_method_61_code
def yX11_told : MethodName := ⟨RX11, "told", "(II)I"⟩
abbrev cX11_givenBy : ByteArray := prog_1_method_62_code
def yX11_givenBy : MethodName := ⟨RX11, "givenBy", "(LThinLine$Text;)I"⟩
abbrev cX11_findGiven : ByteArray := prog_1_method_63_code
def yX11_findGiven : MethodName := ⟨RX11, "findGiven", "()J"⟩
abbrev cX11_gives : ByteArray := prog_1_method_64_code
def yX11_gives : MethodName := ⟨RX11, "gives", "(I)I"⟩
abbrev cX11_brief : ByteArray := prog_1_method_65_code
def yX11_brief : MethodName := ⟨RX11, "brief", "(I)I"⟩
abbrev cX11_fewest : ByteArray := prog_1_method_66_code
def yX11_fewest : MethodName := ⟨RX11, "fewest", "(II)I"⟩
abbrev cX11_givenTogether : ByteArray := prog_1_method_67_code
def yX11_givenTogether : MethodName := ⟨RX11, "givenTogether", "(I)J"⟩
abbrev cX11_count : ByteArray := prog_1_method_68_code
def yX11_count : MethodName := ⟨RX11, "count", "(I)I"⟩
abbrev cX11_image : ByteArray := prog_1_method_69_code
def yX11_image : MethodName := ⟨RX11, "image", "(I)I"⟩
abbrev cX11_back : ByteArray := prog_1_method_70_code
def yX11_back : MethodName := ⟨RX11, "back", "(I)I"⟩
abbrev cX11_isIn : ByteArray := prog_1_method_71_code
def yX11_isIn : MethodName := ⟨RX11, "isIn", "(III)Z"⟩
abbrev cX11_isWeek : ByteArray := prog_1_method_72_code
def yX11_isWeek : MethodName := ⟨RX11, "isWeek", "(I)Z"⟩
abbrev cX11_isColour : ByteArray := prog_1_method_73_code
def yX11_isColour : MethodName := ⟨RX11, "isColour", "(I)Z"⟩
abbrev cX11_isGlass : ByteArray := prog_1_method_74_code
def yX11_isGlass : MethodName := ⟨RX11, "isGlass", "(I)Z"⟩
abbrev cX11_isStuff : ByteArray := prog_1_method_75_code
def yX11_isStuff : MethodName := ⟨RX11, "isStuff", "(I)Z"⟩
abbrev cX11_isBar : ByteArray := prog_1_method_76_code
def yX11_isBar : MethodName := ⟨RX11, "isBar", "(I)Z"⟩
abbrev cX11_isNeed : ByteArray := prog_1_method_77_code
def yX11_isNeed : MethodName := ⟨RX11, "isNeed", "(I)Z"⟩
abbrev cX11_isSpan : ByteArray := prog_1_method_78_code
def yX11_isSpan : MethodName := ⟨RX11, "isSpan", "(II)Z"⟩
abbrev cX11_held : ByteArray := prog_1_method_79_code
def yX11_held : MethodName := ⟨RX11, "held", "(JJJ)J"⟩
def RX12 : String := "ThinLineModel"
def TX12 : u_T := fun k => match k with
  | 0 => ("ThinLineModel", "said", "[I", true)
  | 1 => ("ThinLineModel", "tape", "[B", true)
  | 2 => ("ThinLineModel", "taped", "I", false)
  | 3 => ("ThinLineModel", "texts", "[I", true)
  | 4 => ("ThinLineModel", "sign", "[I", true)
  | 5 => ("ThinLineModel", "length", "[I", true)
  | 6 => ("ThinLineModel", "clause", "[I", true)
  | 7 => ("ThinLineModel", "clauses", "[I", true)
  | 8 => ("ThinLineModel", "eats", "[I", true)
  | 9 => ("ThinLineModel", "eaters", "[I", true)
  | 10 => ("ThinLineModel", "beat", "[I", true)
  | 11 => ("ThinLineModel", "high", "[I", true)
  | 12 => ("ThinLineModel", "noise", "[I", true)
  | 13 => ("ThinLineModel", "bends", "[I", true)
  | 14 => ("ThinLineModel", "gapFrom", "[I", true)
  | 15 => ("ThinLineModel", "gapTo", "[I", true)
  | 16 => ("ThinLineModel", "wide", "[I", true)
  | 17 => ("ThinLineModel", "next", "I", false)
  | 18 => ("ThinLineModel", "wrong", "I", false)
  | 19 => ("ThinLineModel", "number", "I", false)
  | 20 => ("ThinLineModel", "text", "I", false)
  | 21 => ("ThinLineModel", "made", "I", false)
  | 22 => ("ThinLineModel", "deep", "I", false)
  | 23 => ("ThinLineModel", "lines", "I", false)
  | 24 => ("ThinLineModel", "open", "[I", true)
  | 25 => ("ThinLineModel", "opened", "I", false)
  | 26 => ("ThinLineModel", "stack", "[J", true)
  | 27 => ("ThinLineModel", "top", "I", false)
  | 28 => ("ThinLineModel", "word", "[J", true)
  | 29 => ("ThinLineModel", "seedNow", "J", false)
  | 30 => ("ThinLineModel", "look", "[I", true)
  | 31 => ("ThinLineModel", "isUsed", "[Z", true)
  | 32 => ("ThinLineModel", "usedMany", "I", false)
  | 33 => ("ThinLineModel", "gapNow", "I", false)
  | 34 => ("ThinLineModel", "gapEnd", "I", false)
  | 35 => ("ThinLineModel", "knotAt", "[I", true)
  | 36 => ("ThinLineModel", "knotHigh", "[J", true)
  | 37 => ("ThinLineModel", "knots", "I", false)
  | 38 => ("ThinLineModel", "left", "[J", true)
  | 39 => ("ThinLineModel", "gapMany", "I", false)
  | 40 => ("ThinLineModel", "isDeep", "Z", false)
  | 41 => ("ThinLineModel", "deepRow", "[J", true)
  | 42 => ("ThinLineModel", "hasDeep", "[Z", true)
  | 43 => ("ThinLineModel", "scoreRow", "[J", true)
  | 44 => ("ThinLineModel", "firstSaid", "[I", true)
  | 45 => ("ThinLineModel", "noiseOf", "[J", true)
  | 46 => ("ThinLineModel", "noiseMany", "[I", true)
  | 47 => ("ThinLineModel", "images", "[I", true)
  | _ => ("ThinLineModel", "isMade", "[Z", true)
def tyX12 : Nat → FieldType := fun k => match k with
  | 0 => .array .int
  | 1 => .array .byte
  | 2 => .int
  | 3 => .array .int
  | 4 => .array .int
  | 5 => .array .int
  | 6 => .array .int
  | 7 => .array .int
  | 8 => .array .int
  | 9 => .array .int
  | 10 => .array .int
  | 11 => .array .int
  | 12 => .array .int
  | 13 => .array .int
  | 14 => .array .int
  | 15 => .array .int
  | 16 => .array .int
  | 17 => .int
  | 18 => .int
  | 19 => .int
  | 20 => .int
  | 21 => .int
  | 22 => .int
  | 23 => .int
  | 24 => .array .int
  | 25 => .int
  | 26 => .array .long
  | 27 => .int
  | 28 => .array .long
  | 29 => .long
  | 30 => .array .int
  | 31 => .array .boolean
  | 32 => .int
  | 33 => .int
  | 34 => .int
  | 35 => .array .int
  | 36 => .array .long
  | 37 => .int
  | 38 => .array .long
  | 39 => .int
  | 40 => .boolean
  | 41 => .array .long
  | 42 => .array .boolean
  | 43 => .array .long
  | 44 => .array .int
  | 45 => .array .long
  | 46 => .array .int
  | 47 => .array .int
  | _ => .array .boolean
abbrev wsX120 : List Cond := u_ws RX12 TX12 49
theorem nmX12 : ∀ a, a < 49 → ∀ b, b < 49 → a ≠ b → (TX12 a).2.1 ≠ (TX12 b).2.1 := by decide +kernel
theorem tyX12_ok : ∀ k, k < 49 → parseFieldDescriptor (TX12 k).2.2.1 = some (tyX12 k) := by decide +kernel
abbrev cX12_init : ByteArray := prog_14_method_1_code
def yX12_init : MethodName := ⟨RX12, "<init>", "()V"⟩
abbrev cX12_in : ByteArray := prog_14_method_2_code
def yX12_in : MethodName := ⟨RX12, "in", "(JJJ)Z"⟩
abbrev cX12_held : ByteArray := prog_14_method_3_code
def yX12_held : MethodName := ⟨RX12, "held", "(JJJ)J"⟩
abbrev cX12_down : ByteArray := prog_14_method_4_code
def yX12_down : MethodName := ⟨RX12, "down", "(JJ)J"⟩
abbrev cX12_size : ByteArray := prog_14_method_5_code
def yX12_size : MethodName := ⟨RX12, "size", "(J)J"⟩
abbrev cX12_isRow : ByteArray := prog_14_method_6_code
def yX12_isRow : MethodName := ⟨RX12, "isRow", "(I)Z"⟩
abbrev cX12_isColour : ByteArray := prog_14_method_7_code
def yX12_isColour : MethodName := ⟨RX12, "isColour", "(I)Z"⟩
abbrev cX12_isWeek : ByteArray := prog_14_method_8_code
def yX12_isWeek : MethodName := ⟨RX12, "isWeek", "(I)Z"⟩
abbrev cX12_rowOf : ByteArray := prog_14_method_9_code
def yX12_rowOf : MethodName := ⟨RX12, "rowOf", "(II)I"⟩
abbrev cX12_lineOf : ByteArray := prog_14_method_10_code
def yX12_lineOf : MethodName := ⟨RX12, "lineOf", "(II)I"⟩
abbrev cX12_clock : ByteArray := prog_14_method_11_code
def yX12_clock : MethodName := ⟨RX12, "clock", "(I)Z"⟩
abbrev cX12_row : ByteArray := prog_14_method_12_code
def yX12_row : MethodName := ⟨RX12, "row", "(II)I"⟩
abbrev cX12_raw : ByteArray := prog_14_method_13_code
def yX12_raw : MethodName := ⟨RX12, "raw", "(III)I"⟩
abbrev cX12_readAt : ByteArray := prog_14_method_14_code
def yX12_readAt : MethodName := ⟨RX12, "readAt", "(II)I"⟩
abbrev cX12_read : ByteArray := prog_14_method_15_code
def yX12_read : MethodName := ⟨RX12, "read", "(II)I"⟩
abbrev cX12_slip : ByteArray := prog_14_method_16_code
def yX12_slip : MethodName := ⟨RX12, "slip", "(IIII)I"⟩
abbrev cX12_anew : ByteArray := prog_14_method_17_code
def yX12_anew : MethodName := ⟨RX12, "anew", "(II)I"⟩
abbrev cX12_depthOf : ByteArray := prog_14_method_18_code
def yX12_depthOf : MethodName := ⟨RX12, "depthOf", "(II)I"⟩
abbrev cX12_line : ByteArray := prog_14_method_19_code
def yX12_line : MethodName := ⟨RX12, "line", "(III)I"⟩
abbrev cX12_four : ByteArray := prog_14_method_20_code
def yX12_four : MethodName := ⟨RX12, "four", "(I)V"⟩
abbrev cX12_feed : ByteArray := prog_14_method_21_code
def yX12_feed : MethodName := ⟨RX12, "feed", "(IIIII)I"⟩
abbrev cX12_end : ByteArray := prog_14_method_22_code
def yX12_end : MethodName := ⟨RX12, "end", "(I)I"⟩
abbrev cX12_fails : ByteArray := prog_14_method_23_code
def yX12_fails : MethodName := ⟨RX12, "fails", "(II)Z"⟩
abbrev cX12_see : ByteArray := prog_14_method_24_code
def yX12_see : MethodName := ⟨RX12, "see", "()I"⟩
abbrev cX12_isDigit : ByteArray := prog_14_method_25_code
def yX12_isDigit : MethodName := ⟨RX12, "isDigit", "(I)Z"⟩
abbrev cX12_isLetter : ByteArray := prog_14_method_26_code
def yX12_isLetter : MethodName := ⟨RX12, "isLetter", "(I)Z"⟩
abbrev cX12_isWord : ByteArray := prog_14_method_27_code
def yX12_isWord : MethodName := ⟨RX12, "isWord", "(J)Z"⟩
abbrev cX12_passWord : ByteArray := prog_14_method_28_code
def yX12_passWord : MethodName := ⟨RX12, "passWord", "()V"⟩
abbrev cX12_takesWord : ByteArray := prog_14_method_29_code
def yX12_takesWord : MethodName := ⟨RX12, "takesWord", "(J)Z"⟩
abbrev cX12_numberHere : ByteArray := prog_14_method_30_code
def yX12_numberHere : MethodName := ⟨RX12, "numberHere", "(II)Z"⟩
abbrev cX12_kindOf : ByteArray := prog_14_method_31_code
def yX12_kindOf : MethodName := ⟨RX12, "kindOf", "(I)I"⟩
abbrev cX12_wordHere : ByteArray := prog_14_method_32_code
def yX12_wordHere : MethodName := ⟨RX12, "wordHere", "()I"⟩
abbrev cX12_puts : ByteArray := prog_14_method_33_code
def yX12_puts : MethodName := ⟨RX12, "puts", "(II)V"⟩
abbrev cX12_makes : ByteArray := prog_14_method_34_code
def yX12_makes : MethodName := ⟨RX12, "makes", "(I)Z"⟩
abbrev cX12_opens : ByteArray := prog_14_method_35_code
def yX12_opens : MethodName := ⟨RX12, "opens", "(I)Z"⟩
abbrev cX12_strength : ByteArray := prog_14_method_36_code
def yX12_strength : MethodName := ⟨RX12, "strength", "(I)I"⟩
abbrev cX12_settles : ByteArray := prog_14_method_37_code
def yX12_settles : MethodName := ⟨RX12, "settles", "(I)V"⟩
abbrev cX12_value : ByteArray := prog_14_method_38_code
def yX12_value : MethodName := ⟨RX12, "value", "()Z"⟩
abbrev cX12_term : ByteArray := prog_14_method_39_code
def yX12_term : MethodName := ⟨RX12, "term", "()Z"⟩
abbrev cX12_sum : ByteArray := prog_14_method_40_code
def yX12_sum : MethodName := ⟨RX12, "sum", "()Z"⟩
abbrev cX12_compare : ByteArray := prog_14_method_41_code
def yX12_compare : MethodName := ⟨RX12, "compare", "()Z"⟩
abbrev cX12_fact : ByteArray := prog_14_method_42_code
def yX12_fact : MethodName := ⟨RX12, "fact", "()Z"⟩
abbrev cX12_isInside : ByteArray := prog_14_method_43_code
def yX12_isInside : MethodName := ⟨RX12, "isInside", "()Z"⟩
abbrev cX12_closes : ByteArray := prog_14_method_44_code
def yX12_closes : MethodName := ⟨RX12, "closes", "()V"⟩
abbrev cX12_tested : ByteArray := prog_14_method_45_code
def yX12_tested : MethodName := ⟨RX12, "tested", "()Z"⟩
abbrev cX12_clauseOf : ByteArray := prog_14_method_46_code
def yX12_clauseOf : MethodName := ⟨RX12, "clauseOf", "(Z)Z"⟩
abbrev cX12_sets : ByteArray := prog_14_method_47_code
def yX12_sets : MethodName := ⟨RX12, "sets", "([IIII)Z"⟩
abbrev cX12_eaten : ByteArray := prog_14_method_48_code
def yX12_eaten : MethodName := ⟨RX12, "eaten", "()Z"⟩
abbrev cX12_rippled : ByteArray := prog_14_method_49_code
def yX12_rippled : MethodName := ⟨RX12, "rippled", "(I)Z"⟩
abbrev cX12_gapped : ByteArray := prog_14_method_50_code
def yX12_gapped : MethodName := ⟨RX12, "gapped", "(I)Z"⟩
abbrev cX12_clauseHere : ByteArray := prog_14_method_51_code
def yX12_clauseHere : MethodName := ⟨RX12, "clauseHere", "()Z"⟩
abbrev cX12_mostOf : ByteArray := prog_14_method_52_code
def yX12_mostOf : MethodName := ⟨RX12, "mostOf", "(I)I"⟩
abbrev cX12_firstOf : ByteArray := prog_14_method_53_code
def yX12_firstOf : MethodName := ⟨RX12, "firstOf", "(I)I"⟩
abbrev cX12_text : ByteArray := prog_14_method_54_code
def yX12_text : MethodName := ⟨RX12, "text", "(I)I"⟩
abbrev cX12_isText : ByteArray := prog_14_method_55_code
def yX12_isText : MethodName := ⟨RX12, "isText", "(II)Z"⟩
abbrev cX12_push : ByteArray := prog_14_method_56_code
def yX12_push : MethodName := ⟨RX12, "push", "(J)V"⟩
abbrev cX12_pop : ByteArray := prog_14_method_57_code
def yX12_pop : MethodName := ⟨RX12, "pop", "()J"⟩
abbrev cX12_one : ByteArray := prog_14_method_58_code
def yX12_one : MethodName := ⟨RX12, "one", "(IJJ)J"⟩
abbrev cX12_reckons : ByteArray := prog_14_method_59_code
def yX12_reckons : MethodName := ⟨RX12, "reckons", "(III)J"⟩
abbrev cX12_isHolding : ByteArray := prog_14_method_60_code
def yX12_isHolding : MethodName := ⟨RX12, "isHolding", "(II)Z"⟩
abbrev cX12_summed : ByteArray := prog_14_method_61_code
def yX12_summed : MethodName := ⟨RX12, "summed", "(II)J"⟩
abbrev cX12_words : ByteArray := prog_14_method_62_code
def yX12_words : MethodName := ⟨RX12, "words", "(II)V"⟩
abbrev cX12_makesAt : ByteArray := prog_14_method_63_code
def yX12_makesAt : MethodName := ⟨RX12, "makesAt", "(IIIZ)I"⟩
abbrev cX12_make : ByteArray := prog_14_method_64_code
def yX12_make : MethodName := ⟨RX12, "make", "(IIIII)I"⟩
abbrev cX12_lifts : ByteArray := prog_14_method_65_code
def yX12_lifts : MethodName := ⟨RX12, "lifts", "(I)V"⟩
abbrev cX12_uses : ByteArray := prog_14_method_66_code
def yX12_uses : MethodName := ⟨RX12, "uses", "(IIII)V"⟩
abbrev cX12_bows : ByteArray := prog_14_method_67_code
def yX12_bows : MethodName := ⟨RX12, "bows", "(II)Z"⟩
abbrev cX12_heightAt : ByteArray := prog_14_method_68_code
def yX12_heightAt : MethodName := ⟨RX12, "heightAt", "(I)J"⟩
abbrev cX12_deepNow : ByteArray := prog_14_method_69_code
def yX12_deepNow : MethodName := ⟨RX12, "deepNow", "()J"⟩
abbrev cX12_noiseNow : ByteArray := prog_14_method_70_code
def yX12_noiseNow : MethodName := ⟨RX12, "noiseNow", "()J"⟩
abbrev cX12_scoreNow : ByteArray := prog_14_method_71_code
def yX12_scoreNow : MethodName := ⟨RX12, "scoreNow", "(IIIII)J"⟩
abbrev cX12_own : ByteArray := prog_14_method_72_code
def yX12_own : MethodName := ⟨RX12, "own", "(II)J"⟩
abbrev cX12_scoreOf : ByteArray := prog_14_method_73_code
def yX12_scoreOf : MethodName := ⟨RX12, "scoreOf", "(II)J"⟩
abbrev cX12_canAsk : ByteArray := prog_14_method_74_code
def yX12_canAsk : MethodName := ⟨RX12, "canAsk", "(II)Z"⟩
abbrev cX12_curve : ByteArray := prog_14_method_75_code
def yX12_curve : MethodName := ⟨RX12, "curve", "(IIII)I"⟩
abbrev cX12_deep : ByteArray := prog_14_method_76_code
def yX12_deep : MethodName := ⟨RX12, "deep", "(III)J"⟩
abbrev cX12_lengthOf : ByteArray := prog_14_method_77_code
def yX12_lengthOf : MethodName := ⟨RX12, "lengthOf", "(I)I"⟩
abbrev cX12_movedTo : ByteArray := prog_14_method_78_code
def yX12_movedTo : MethodName := ⟨RX12, "movedTo", "(III)J"⟩
abbrev cX12_moved : ByteArray := prog_14_method_79_code
def yX12_moved : MethodName := ⟨RX12, "moved", "(III)J"⟩
abbrev cX12_elsewhere : ByteArray := prog_14_method_80_code
def yX12_elsewhere : MethodName := ⟨RX12, "elsewhere", "(III)I"⟩
abbrev cX12_drawn : ByteArray := prog_14_method_81_code
def yX12_drawn : MethodName := ⟨RX12, "drawn", "(IIIII)I"⟩
abbrev cX12_bent : ByteArray := prog_14_method_82_code
def yX12_bent : MethodName := ⟨RX12, "bent", "(III)J"⟩
abbrev cX12_best : ByteArray := prog_14_method_83_code
def yX12_best : MethodName := ⟨RX12, "best", "(IIII)J"⟩
abbrev cX12_taken : ByteArray := prog_14_method_84_code
def yX12_taken : MethodName := ⟨RX12, "taken", "(IIII)I"⟩
abbrev cX12_apart : ByteArray := prog_14_method_85_code
def yX12_apart : MethodName := ⟨RX12, "apart", "(III)I"⟩
abbrev cX12_amountOf : ByteArray := prog_14_method_86_code
def yX12_amountOf : MethodName := ⟨RX12, "amountOf", "(I)J"⟩
abbrev cX12_isElse : ByteArray := prog_14_method_87_code
def yX12_isElse : MethodName := ⟨RX12, "isElse", "(II)Z"⟩
abbrev cX12_elses : ByteArray := prog_14_method_88_code
def yX12_elses : MethodName := ⟨RX12, "elses", "(I)I"⟩
abbrev cX12_theres : ByteArray := prog_14_method_89_code
def yX12_theres : MethodName := ⟨RX12, "theres", "(I)I"⟩
abbrev cX12_boundOf : ByteArray := prog_14_method_90_code
def yX12_boundOf : MethodName := ⟨RX12, "boundOf", "(I)J"⟩
abbrev cX12_stuff : ByteArray := prog_14_method_91_code
def yX12_stuff : MethodName := ⟨RX12, "stuff", "(IIII)J"⟩
abbrev cX12_likeliest : ByteArray := prog_14_method_92_code
def yX12_likeliest : MethodName := ⟨RX12, "likeliest", "(II)I"⟩
abbrev cX12_isKnown : ByteArray := prog_14_method_93_code
def yX12_isKnown : MethodName := ⟨RX12, "isKnown", "(II)Z"⟩
abbrev cX12_rows : ByteArray := prog_14_method_94_code
def yX12_rows : MethodName := ⟨RX12, "rows", "(I)V"⟩
abbrev cX12_divisor : ByteArray := prog_14_method_95_code
def yX12_divisor : MethodName := ⟨RX12, "divisor", "(JJ)J"⟩
abbrev cX12_together : ByteArray := prog_14_method_96_code
def yX12_together : MethodName := ⟨RX12, "together", "(IIII)I"⟩
abbrev cX12_hour : ByteArray := prog_14_method_97_code
def yX12_hour : MethodName := ⟨RX12, "hour", "(III)I"⟩
abbrev cX12_saidIn : ByteArray := prog_14_method_98_code
def yX12_saidIn : MethodName := ⟨RX12, "saidIn", "(II)I"⟩
abbrev cX12_said : ByteArray := prog_14_method_99_code
def yX12_said : MethodName := ⟨RX12, "said", "(III)I"⟩
abbrev cX12_weeks : ByteArray := prog_14_method_100_code
def yX12_weeks : MethodName := ⟨RX12, "weeks", "(IIIIII)I"⟩
abbrev cX12_powerOf : ByteArray := prog_14_method_101_code
def yX12_powerOf : MethodName := ⟨RX12, "powerOf", "(I)J"⟩
abbrev cX12_periodNow : ByteArray := prog_14_method_102_code
def yX12_periodNow : MethodName := ⟨RX12, "periodNow", "()I"⟩
abbrev cX12_ripple : ByteArray := prog_14_method_103_code
def yX12_ripple : MethodName := ⟨RX12, "ripple", "(III)J"⟩
abbrev cX12_meanLeft : ByteArray := prog_14_method_104_code
def yX12_meanLeft : MethodName := ⟨RX12, "meanLeft", "(II)J"⟩
abbrev cX12_smooth : ByteArray := prog_14_method_105_code
def yX12_smooth : MethodName := ⟨RX12, "smooth", "(II)I"⟩
abbrev cX12_deepWithout : ByteArray := prog_14_method_106_code
def yX12_deepWithout : MethodName := ⟨RX12, "deepWithout", "(III)J"⟩
abbrev cX12_without : ByteArray := prog_14_method_107_code
def yX12_without : MethodName := ⟨RX12, "without", "(III)I"⟩
abbrev cX12_weightiest : ByteArray := prog_14_method_108_code
def yX12_weightiest : MethodName := ⟨RX12, "weightiest", "(II)I"⟩
abbrev cX12_deepest : ByteArray := prog_14_method_109_code
def yX12_deepest : MethodName := ⟨RX12, "deepest", "(III)J"⟩
abbrev cX12_house : ByteArray := prog_14_method_110_code
def yX12_house : MethodName := ⟨RX12, "house", "(III)I"⟩
abbrev cX12_firsts : ByteArray := prog_14_method_111_code
def yX12_firsts : MethodName := ⟨RX12, "firsts", "()V"⟩
abbrev cX12_says : ByteArray := prog_14_method_112_code
def yX12_says : MethodName := ⟨RX12, "says", "(II)I"⟩
abbrev cX12_sayers : ByteArray := prog_14_method_113_code
def yX12_sayers : MethodName := ⟨RX12, "sayers", "(I)I"⟩
abbrev cX12_agreed : ByteArray := prog_14_method_114_code
def yX12_agreed : MethodName := ⟨RX12, "agreed", "(I)I"⟩
abbrev cX12_alone : ByteArray := prog_14_method_115_code
def yX12_alone : MethodName := ⟨RX12, "alone", "(I)I"⟩
abbrev cX12_odd : ByteArray := prog_14_method_116_code
def yX12_odd : MethodName := ⟨RX12, "odd", "(II)I"⟩
abbrev cX12_candidate : ByteArray := prog_14_method_117_code
def yX12_candidate : MethodName := ⟨RX12, "candidate", "(II)I"⟩
abbrev cX12_noises : ByteArray := prog_14_method_118_code
def yX12_noises : MethodName := ⟨RX12, "noises", "(I)V"⟩
abbrev cX12_worthOf : ByteArray := prog_14_method_119_code
def yX12_worthOf : MethodName := ⟨RX12, "worthOf", "(I)J"⟩
abbrev cX12_next : ByteArray := prog_14_method_120_code
def yX12_next : MethodName := ⟨RX12, "next", "(III)J"⟩
abbrev cX12_told : ByteArray := prog_14_method_121_code
def yX12_told : MethodName := ⟨RX12, "told", "(II)I"⟩
abbrev cX12_givesOf : ByteArray := prog_14_method_122_code
def yX12_givesOf : MethodName := ⟨RX12, "givesOf", "(I)I"⟩
abbrev cX12_gives : ByteArray := prog_14_method_123_code
def yX12_gives : MethodName := ⟨RX12, "gives", "(I)I"⟩
abbrev cX12_givenBy : ByteArray := prog_14_method_124_code
def yX12_givenBy : MethodName := ⟨RX12, "givenBy", "(I)I"⟩
abbrev cX12_brief : ByteArray := prog_14_method_125_code
def yX12_brief : MethodName := ⟨RX12, "brief", "(I)I"⟩
abbrev cX12_bits : ByteArray := prog_14_method_126_code
def yX12_bits : MethodName := ⟨RX12, "bits", "(I)I"⟩
abbrev cX12_fewest : ByteArray := prog_14_method_127_code
def yX12_fewest : MethodName := ⟨RX12, "fewest", "(II)I"⟩
abbrev cX12_count : ByteArray := prog_14_method_128_code
def yX12_count : MethodName := ⟨RX12, "count", "(I)I"⟩
abbrev cX12_image : ByteArray := prog_14_method_129_code
def yX12_image : MethodName := ⟨RX12, "image", "(I)I"⟩
abbrev cX12_back : ByteArray := prog_14_method_130_code
def yX12_back : MethodName := ⟨RX12, "back", "(I)I"⟩
def RJx145de : String := "java/io/Serializable"
def RJx9f9b0 : String := "java/lang/CharSequence"
def RJxb160c : String := "java/lang/Comparable"
def RJ6 : String := "java/lang/Integer"
abbrev cJ6_bitCount_0f7a4 : ByteArray := prog_15_method_49_code
def yJ6_bitCount_0f7a4 : MethodName := ⟨RJ6, "bitCount", "(I)I"⟩
def RJ9 : String := "java/lang/Math"
abbrev cJ9_floorDiv_7cf53 : ByteArray := prog_16_method_47_code
def yJ9_floorDiv_7cf53 : MethodName := ⟨RJ9, "floorDiv", "(II)I"⟩
abbrev cJ9_floorDiv_f86c9 : ByteArray := prog_16_method_49_code
def yJ9_floorDiv_f86c9 : MethodName := ⟨RJ9, "floorDiv", "(JJ)J"⟩
abbrev cJ9_abs_0f7a4 : ByteArray := prog_16_method_59_code
def yJ9_abs_0f7a4 : MethodName := ⟨RJ9, "abs", "(I)I"⟩
abbrev cJ9_max_7cf53 : ByteArray := prog_16_method_65_code
def yJ9_max_7cf53 : MethodName := ⟨RJ9, "max", "(II)I"⟩
abbrev cJ9_max_f86c9 : ByteArray := prog_16_method_66_code
def yJ9_max_f86c9 : MethodName := ⟨RJ9, "max", "(JJ)J"⟩
abbrev cJ9_min_7cf53 : ByteArray := prog_16_method_69_code
def yJ9_min_7cf53 : MethodName := ⟨RJ9, "min", "(II)I"⟩
abbrev cJ9_min_f86c9 : ByteArray := prog_16_method_70_code
def yJ9_min_f86c9 : MethodName := ⟨RJ9, "min", "(JJ)J"⟩
def RJ0 : String := "java/lang/String"
abbrev cJ0_length_8abf5 : ByteArray := prog_17_method_54_code
def yJ0_length_8abf5 : MethodName := ⟨RJ0, "length", "()I"⟩
abbrev cJ0_charAt_5068e : ByteArray := prog_17_method_56_code
def yJ0_charAt_5068e : MethodName := ⟨RJ0, "charAt", "(I)C"⟩
abbrev cJ0_coder_7d493 : ByteArray := prog_17_method_152_code
def yJ0_coder_7d493 : MethodName := ⟨RJ0, "coder", "()B"⟩
abbrev cJ0_isLatin1_aae02 : ByteArray := prog_17_method_154_code
def yJ0_isLatin1_aae02 : MethodName := ⟨RJ0, "isLatin1", "()Z"⟩
abbrev cJ0_checkIndex_df160 : ByteArray := prog_17_method_155_code
def yJ0_checkIndex_df160 : MethodName := ⟨RJ0, "checkIndex", "(II)V"⟩
def RJ1 : String := "java/lang/StringLatin1"
abbrev cJ1_charAt_3b067 : ByteArray := prog_18_method_2_code
def yJ1_charAt_3b067 : MethodName := ⟨RJ1, "charAt", "([BI)C"⟩
def RJ2 : String := "java/lang/StringUTF16"
abbrev cJ2_getChar_3b067 : ByteArray := prog_19_method_5_code
def yJ2_getChar_3b067 : MethodName := ⟨RJ2, "getChar", "([BI)C"⟩
abbrev cJ2_length_9d52b : ByteArray := prog_19_method_6_code
def yJ2_length_9d52b : MethodName := ⟨RJ2, "length", "([B)I"⟩
abbrev cJ2_charAt_3b067 : ByteArray := prog_19_method_83_code
def yJ2_charAt_3b067 : MethodName := ⟨RJ2, "charAt", "([BI)C"⟩
abbrev cJ2_checkIndex_2214a : ByteArray := prog_19_method_91_code
def yJ2_checkIndex_2214a : MethodName := ⟨RJ2, "checkIndex", "(I[B)V"⟩
def RJ10 : String := "java/lang/System"
def RJxfd54e : String := "java/lang/constant/Constable"
def RJx3cf43 : String := "java/lang/constant/ConstantDesc"
def RJ7 : String := "java/util/Arrays"
abbrev cJ7_fill_d0a16 : ByteArray := prog_21_method_101_code
def yJ7_fill_d0a16 : MethodName := ⟨RJ7, "fill", "([JJ)V"⟩
abbrev cJ7_fill_53178 : ByteArray := prog_21_method_103_code
def yJ7_fill_53178 : MethodName := ⟨RJ7, "fill", "([II)V"⟩
def RJ3 : String := "jdk/internal/util/Preconditions"
abbrev cJ3_checkIndex_8e157 : ByteArray := prog_22_method_11_code
def yJ3_checkIndex_8e157 : MethodName := ⟨RJ3, "checkIndex", "(IILjava/util/function/BiFunction;)I"⟩
def RL : String := "ThinLineLaw"
abbrev cL_law : ByteArray := code
def yL_law : MethodName := ⟨RL, "law", "([I)Z"⟩
abbrev vwCl : List vw_C := [(RX0, TX0, 9), (RX1, TX1, 5), (RX2, TX2, 6), (RX3, TX3, 2), (RX4, TX4, 6), (RX5, TX5, 2), (RX6, TX6, 3), (RX7, TX7, 9), (RX8, TX8, 2), (RX9, TX9, 4), (RX10, TX10, 18), (RX11, TX11, 16), (RX12, TX12, 49)]
def tl_L : List Cond := lw_tbl.filter goodWord
set_option maxRecDepth 20000 in
theorem inlX0 : ∀ w ∈ wsX00, w ∈ tl_L := fun w h => List.mem_filter.mpr ⟨(by decide +kernel : ∀ w ∈ wsX00, w ∈ lw_tbl) w h, List.all_eq_true.mp (by decide +kernel : wsX00.all goodWord = true) w h⟩
set_option maxRecDepth 20000 in
theorem inlX1 : ∀ w ∈ wsX10, w ∈ tl_L := fun w h => List.mem_filter.mpr ⟨(by decide +kernel : ∀ w ∈ wsX10, w ∈ lw_tbl) w h, List.all_eq_true.mp (by decide +kernel : wsX10.all goodWord = true) w h⟩
set_option maxRecDepth 20000 in
theorem inlX10 : ∀ w ∈ wsX100, w ∈ tl_L := fun w h => List.mem_filter.mpr ⟨(by decide +kernel : ∀ w ∈ wsX100, w ∈ lw_tbl) w h, List.all_eq_true.mp (by decide +kernel : wsX100.all goodWord = true) w h⟩
set_option maxRecDepth 20000 in
theorem inlX11 : ∀ w ∈ wsX110, w ∈ tl_L := fun w h => List.mem_filter.mpr ⟨(by decide +kernel : ∀ w ∈ wsX110, w ∈ lw_tbl) w h, List.all_eq_true.mp (by decide +kernel : wsX110.all goodWord = true) w h⟩
set_option maxRecDepth 20000 in
theorem inlX12 : ∀ w ∈ wsX120, w ∈ tl_L := fun w h => List.mem_filter.mpr ⟨(by decide +kernel : ∀ w ∈ wsX120, w ∈ lw_tbl) w h, List.all_eq_true.mp (by decide +kernel : wsX120.all goodWord = true) w h⟩
set_option maxRecDepth 20000 in
theorem inlX2 : ∀ w ∈ wsX20, w ∈ tl_L := fun w h => List.mem_filter.mpr ⟨(by decide +kernel : ∀ w ∈ wsX20, w ∈ lw_tbl) w h, List.all_eq_true.mp (by decide +kernel : wsX20.all goodWord = true) w h⟩
set_option maxRecDepth 20000 in
theorem inlX3 : ∀ w ∈ wsX30, w ∈ tl_L := fun w h => List.mem_filter.mpr ⟨(by decide +kernel : ∀ w ∈ wsX30, w ∈ lw_tbl) w h, List.all_eq_true.mp (by decide +kernel : wsX30.all goodWord = true) w h⟩
set_option maxRecDepth 20000 in
theorem inlX4 : ∀ w ∈ wsX40, w ∈ tl_L := fun w h => List.mem_filter.mpr ⟨(by decide +kernel : ∀ w ∈ wsX40, w ∈ lw_tbl) w h, List.all_eq_true.mp (by decide +kernel : wsX40.all goodWord = true) w h⟩
set_option maxRecDepth 20000 in
theorem inlX5 : ∀ w ∈ wsX50, w ∈ tl_L := fun w h => List.mem_filter.mpr ⟨(by decide +kernel : ∀ w ∈ wsX50, w ∈ lw_tbl) w h, List.all_eq_true.mp (by decide +kernel : wsX50.all goodWord = true) w h⟩
set_option maxRecDepth 20000 in
theorem inlX6 : ∀ w ∈ wsX60, w ∈ tl_L := fun w h => List.mem_filter.mpr ⟨(by decide +kernel : ∀ w ∈ wsX60, w ∈ lw_tbl) w h, List.all_eq_true.mp (by decide +kernel : wsX60.all goodWord = true) w h⟩
set_option maxRecDepth 20000 in
theorem inlX7 : ∀ w ∈ wsX70, w ∈ tl_L := fun w h => List.mem_filter.mpr ⟨(by decide +kernel : ∀ w ∈ wsX70, w ∈ lw_tbl) w h, List.all_eq_true.mp (by decide +kernel : wsX70.all goodWord = true) w h⟩
set_option maxRecDepth 20000 in
theorem inlX8 : ∀ w ∈ wsX80, w ∈ tl_L := fun w h => List.mem_filter.mpr ⟨(by decide +kernel : ∀ w ∈ wsX80, w ∈ lw_tbl) w h, List.all_eq_true.mp (by decide +kernel : wsX80.all goodWord = true) w h⟩
set_option maxRecDepth 20000 in
theorem inlX9 : ∀ w ∈ wsX90, w ∈ tl_L := fun w h => List.mem_filter.mpr ⟨(by decide +kernel : ∀ w ∈ wsX90, w ∈ lw_tbl) w h, List.all_eq_true.mp (by decide +kernel : wsX90.all goodWord = true) w h⟩
theorem lw_m1 {i : Nat} {w : Cond} (h : tables_1_1[i]? = some w) : w ∈ lw_tbl := List.mem_append_right _ (List.mem_append_left _ (List.mem_of_getElem? h))
theorem lw_m2 {i : Nat} {w : Cond} (h : tables_1_2[i]? = some w) : w ∈ lw_tbl := List.mem_append_right _ (List.mem_append_right _ (List.mem_append_left _ (List.mem_of_getElem? h)))
theorem lw_m3 {i : Nat} {w : Cond} (h : tables_1_3[i]? = some w) : w ∈ lw_tbl := List.mem_append_right _ (List.mem_append_right _ (List.mem_append_right _ (List.mem_append_left _ (List.mem_of_getElem? h))))
theorem lw_m4 {i : Nat} {w : Cond} (h : tables_1_4[i]? = some w) : w ∈ lw_tbl := List.mem_append_right _ (List.mem_append_right _ (List.mem_append_right _ (List.mem_append_right _ (List.mem_append_left _ (List.mem_of_getElem? h)))))
theorem lw_m5 {i : Nat} {w : Cond} (h : tables_1_5[i]? = some w) : w ∈ lw_tbl := List.mem_append_right _ (List.mem_append_right _ (List.mem_append_right _ (List.mem_append_right _ (List.mem_append_right _ (List.mem_append_left _ (List.mem_of_getElem? h))))))
theorem lw_m6 {i : Nat} {w : Cond} (h : tables_1_6[i]? = some w) : w ∈ lw_tbl := List.mem_append_right _ (List.mem_append_right _ (List.mem_append_right _ (List.mem_append_right _ (List.mem_append_right _ (List.mem_append_right _ (List.mem_append_left _ (List.mem_of_getElem? h)))))))
theorem lw_m7 {i : Nat} {w : Cond} (h : tables_1_7[i]? = some w) : w ∈ lw_tbl := List.mem_append_right _ (List.mem_append_right _ (List.mem_append_right _ (List.mem_append_right _ (List.mem_append_right _ (List.mem_append_right _ (List.mem_append_right _ (List.mem_append_left _ (List.mem_of_getElem? h))))))))
theorem lw_m8 {i : Nat} {w : Cond} (h : tables_1_8[i]? = some w) : w ∈ lw_tbl := List.mem_append_right _ (List.mem_append_right _ (List.mem_append_right _ (List.mem_append_right _ (List.mem_append_right _ (List.mem_append_right _ (List.mem_append_right _ (List.mem_append_right _ (List.mem_append_left _ (List.mem_of_getElem? h)))))))))
theorem lw_m9 {i : Nat} {w : Cond} (h : tables_1_9[i]? = some w) : w ∈ lw_tbl := List.mem_append_right _ (List.mem_append_right _ (List.mem_append_right _ (List.mem_append_right _ (List.mem_append_right _ (List.mem_append_right _ (List.mem_append_right _ (List.mem_append_right _ (List.mem_append_right _ (List.mem_of_getElem? h)))))))))
theorem lw_s1 {i : Nat} {q : MethodName × Nat} (h : lw_privs_1[i]? = some q) : Cond.selects q.1.cls q.1 q.1 ∈ lw_tbl := List.mem_append_left _ (List.mem_map.mpr ⟨q, List.mem_append_left _ (List.mem_of_getElem? h), rfl⟩)
theorem lw_s2 {i : Nat} {q : MethodName × Nat} (h : lw_privs_2[i]? = some q) : Cond.selects q.1.cls q.1 q.1 ∈ lw_tbl := List.mem_append_left _ (List.mem_map.mpr ⟨q, List.mem_append_right _ (List.mem_append_left _ (List.mem_of_getElem? h)), rfl⟩)
theorem lw_s3 {i : Nat} {q : MethodName × Nat} (h : lw_privs_3[i]? = some q) : Cond.selects q.1.cls q.1 q.1 ∈ lw_tbl := List.mem_append_left _ (List.mem_map.mpr ⟨q, List.mem_append_right _ (List.mem_append_right _ (List.mem_append_left _ (List.mem_of_getElem? h))), rfl⟩)
theorem lw_s4 {i : Nat} {q : MethodName × Nat} (h : lw_privs_4[i]? = some q) : Cond.selects q.1.cls q.1 q.1 ∈ lw_tbl := List.mem_append_left _ (List.mem_map.mpr ⟨q, List.mem_append_right _ (List.mem_append_right _ (List.mem_append_right _ (List.mem_append_left _ (List.mem_of_getElem? h)))), rfl⟩)
theorem lw_s5 {i : Nat} {q : MethodName × Nat} (h : lw_privs_5[i]? = some q) : Cond.selects q.1.cls q.1 q.1 ∈ lw_tbl := List.mem_append_left _ (List.mem_map.mpr ⟨q, List.mem_append_right _ (List.mem_append_right _ (List.mem_append_right _ (List.mem_append_right _ (List.mem_append_left _ (List.mem_of_getElem? h))))), rfl⟩)
theorem lw_s6 {i : Nat} {q : MethodName × Nat} (h : lw_privs_6[i]? = some q) : Cond.selects q.1.cls q.1 q.1 ∈ lw_tbl := List.mem_append_left _ (List.mem_map.mpr ⟨q, List.mem_append_right _ (List.mem_append_right _ (List.mem_append_right _ (List.mem_append_right _ (List.mem_append_right _ (List.mem_append_left _ (List.mem_of_getElem? h)))))), rfl⟩)
theorem lw_s7 {i : Nat} {q : MethodName × Nat} (h : lw_privs_7[i]? = some q) : Cond.selects q.1.cls q.1 q.1 ∈ lw_tbl := List.mem_append_left _ (List.mem_map.mpr ⟨q, List.mem_append_right _ (List.mem_append_right _ (List.mem_append_right _ (List.mem_append_right _ (List.mem_append_right _ (List.mem_append_right _ (List.mem_append_left _ (List.mem_of_getElem? h))))))), rfl⟩)
theorem lw_s8 {i : Nat} {q : MethodName × Nat} (h : lw_privs_8[i]? = some q) : Cond.selects q.1.cls q.1 q.1 ∈ lw_tbl := List.mem_append_left _ (List.mem_map.mpr ⟨q, List.mem_append_right _ (List.mem_append_right _ (List.mem_append_right _ (List.mem_append_right _ (List.mem_append_right _ (List.mem_append_right _ (List.mem_append_right _ (List.mem_append_left _ (List.mem_of_getElem? h)))))))), rfl⟩)
theorem lw_s9 {i : Nat} {q : MethodName × Nat} (h : lw_privs_9[i]? = some q) : Cond.selects q.1.cls q.1 q.1 ∈ lw_tbl := List.mem_append_left _ (List.mem_map.mpr ⟨q, List.mem_append_right _ (List.mem_append_right _ (List.mem_append_right _ (List.mem_append_right _ (List.mem_append_right _ (List.mem_append_right _ (List.mem_append_right _ (List.mem_append_right _ (List.mem_append_left _ (List.mem_of_getElem? h))))))))), rfl⟩)
theorem lw_s10 {i : Nat} {q : MethodName × Nat} (h : lw_privs_10[i]? = some q) : Cond.selects q.1.cls q.1 q.1 ∈ lw_tbl := List.mem_append_left _ (List.mem_map.mpr ⟨q, List.mem_append_right _ (List.mem_append_right _ (List.mem_append_right _ (List.mem_append_right _ (List.mem_append_right _ (List.mem_append_right _ (List.mem_append_right _ (List.mem_append_right _ (List.mem_append_right _ (List.mem_append_left _ (List.mem_of_getElem? h)))))))))), rfl⟩)
theorem lw_s11 {i : Nat} {q : MethodName × Nat} (h : lw_privs_11[i]? = some q) : Cond.selects q.1.cls q.1 q.1 ∈ lw_tbl := List.mem_append_left _ (List.mem_map.mpr ⟨q, List.mem_append_right _ (List.mem_append_right _ (List.mem_append_right _ (List.mem_append_right _ (List.mem_append_right _ (List.mem_append_right _ (List.mem_append_right _ (List.mem_append_right _ (List.mem_append_right _ (List.mem_append_right _ (List.mem_of_getElem? h)))))))))), rfl⟩)
