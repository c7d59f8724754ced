theorem dX6_has_0 : decode cX6_has 0 = .ok (.iload_n 1, 1) := by decide +kernel
theorem dX6_has_1 : decode cX6_has 1 = .ok (.ifCond .lt 15, 3) := by decide +kernel
theorem dX6_has_4 : decode cX6_has 4 = .ok (.iload_n 1, 1) := by decide +kernel
theorem dX6_has_5 : decode cX6_has 5 = .ok (.aload_n 0, 1) := by decide +kernel
theorem dX6_has_6 : decode cX6_has 6 = .ok (.getfield 25, 3) := by decide +kernel
theorem dX6_has_9 : decode cX6_has 9 = .ok (.if_icmp .ge 7, 3) := by decide +kernel
theorem dX6_has_12 : decode cX6_has 12 = .ok (.iconst 1, 1) := by decide +kernel
theorem dX6_has_13 : decode cX6_has 13 = .ok (.goto 4, 3) := by decide +kernel
theorem dX6_has_16 : decode cX6_has 16 = .ok (.iconst 0, 1) := by decide +kernel
theorem dX6_has_17 : decode cX6_has 17 = .ok (.ireturn, 1) := by decide +kernel
theorem wk_266 : Cond.fieldLink RX6 25 "ThinLine$Table" "size" "I" ∈ tl_L := List.mem_filter.mpr ⟨lw_m1 (i := 85) rfl, rfl⟩
theorem dX6_cell_0 : decode cX6_cell 0 = .ok (.iload_n 1, 1) := by decide +kernel
theorem dX6_cell_1 : decode cX6_cell 1 = .ok (.ifCond .lt 24, 3) := by decide +kernel
theorem dX6_cell_4 : decode cX6_cell 4 = .ok (.iload_n 1, 1) := by decide +kernel
theorem dX6_cell_5 : decode cX6_cell 5 = .ok (.aload_n 0, 1) := by decide +kernel
theorem dX6_cell_6 : decode cX6_cell 6 = .ok (.getfield 25, 3) := by decide +kernel
theorem dX6_cell_9 : decode cX6_cell 9 = .ok (.if_icmp .ge 16, 3) := by decide +kernel
theorem dX6_cell_12 : decode cX6_cell 12 = .ok (.iload_n 2, 1) := by decide +kernel
theorem dX6_cell_13 : decode cX6_cell 13 = .ok (.ifCond .lt 12, 3) := by decide +kernel
theorem dX6_cell_16 : decode cX6_cell 16 = .ok (.iload_n 2, 1) := by decide +kernel
theorem dX6_cell_17 : decode cX6_cell 17 = .ok (.iconst 4, 1) := by decide +kernel
theorem dX6_cell_18 : decode cX6_cell 18 = .ok (.if_icmp .ge 7, 3) := by decide +kernel
theorem dX6_cell_21 : decode cX6_cell 21 = .ok (.iconst 1, 1) := by decide +kernel
theorem dX6_cell_22 : decode cX6_cell 22 = .ok (.goto 4, 3) := by decide +kernel
theorem dX6_cell_25 : decode cX6_cell 25 = .ok (.iconst 0, 1) := by decide +kernel
theorem dX6_cell_26 : decode cX6_cell 26 = .ok (.istore_n 3, 1) := by decide +kernel
theorem dX6_cell_27 : decode cX6_cell 27 = .ok (.iload_n 3, 1) := by decide +kernel
theorem dX6_cell_28 : decode cX6_cell 28 = .ok (.ifCond .eq 16, 3) := by decide +kernel
theorem dX6_cell_31 : decode cX6_cell 31 = .ok (.aload_n 0, 1) := by decide +kernel
theorem dX6_cell_32 : decode cX6_cell 32 = .ok (.getfield 21, 3) := by decide +kernel
theorem dX6_cell_35 : decode cX6_cell 35 = .ok (.iload_n 1, 1) := by decide +kernel
theorem dX6_cell_36 : decode cX6_cell 36 = .ok (.iconst 4, 1) := by decide +kernel
theorem dX6_cell_37 : decode cX6_cell 37 = .ok (.imul, 1) := by decide +kernel
theorem dX6_cell_38 : decode cX6_cell 38 = .ok (.iload_n 2, 1) := by decide +kernel
theorem dX6_cell_39 : decode cX6_cell 39 = .ok (.iadd, 1) := by decide +kernel
theorem dX6_cell_40 : decode cX6_cell 40 = .ok (.iaload, 1) := by decide +kernel
theorem dX6_cell_41 : decode cX6_cell 41 = .ok (.goto 4, 3) := by decide +kernel
theorem dX6_cell_44 : decode cX6_cell 44 = .ok (.iconst 0, 1) := by decide +kernel
theorem dX6_cell_45 : decode cX6_cell 45 = .ok (.ireturn, 1) := by decide +kernel
theorem wk_86 : Cond.fieldLink RX6 21 "ThinLine$Table" "cells" "[I" ∈ tl_L := List.mem_filter.mpr ⟨lw_m1 (i := 84) rfl, rfl⟩
theorem dX6_set_0 : decode cX6_set 0 = .ok (.aload_n 0, 1) := by decide +kernel
theorem dX6_set_1 : decode cX6_set 1 = .ok (.iload_n 1, 1) := by decide +kernel
theorem dX6_set_2 : decode cX6_set 2 = .ok (.invokevirtual 32, 3) := by decide +kernel
theorem dX6_set_5 : decode cX6_set 5 = .ok (.ifCond .eq 23, 3) := by decide +kernel
theorem dX6_set_8 : decode cX6_set 8 = .ok (.iload_n 2, 1) := by decide +kernel
theorem dX6_set_9 : decode cX6_set 9 = .ok (.ifCond .lt 19, 3) := by decide +kernel
theorem dX6_set_12 : decode cX6_set 12 = .ok (.iload_n 2, 1) := by decide +kernel
theorem dX6_set_13 : decode cX6_set 13 = .ok (.iconst 4, 1) := by decide +kernel
theorem dX6_set_14 : decode cX6_set 14 = .ok (.if_icmp .ge 14, 3) := by decide +kernel
theorem dX6_set_17 : decode cX6_set 17 = .ok (.aload_n 0, 1) := by decide +kernel
theorem dX6_set_18 : decode cX6_set 18 = .ok (.getfield 21, 3) := by decide +kernel
theorem dX6_set_21 : decode cX6_set 21 = .ok (.iload_n 1, 1) := by decide +kernel
theorem dX6_set_22 : decode cX6_set 22 = .ok (.iconst 4, 1) := by decide +kernel
theorem dX6_set_23 : decode cX6_set 23 = .ok (.imul, 1) := by decide +kernel
theorem dX6_set_24 : decode cX6_set 24 = .ok (.iload_n 2, 1) := by decide +kernel
theorem dX6_set_25 : decode cX6_set 25 = .ok (.iadd, 1) := by decide +kernel
theorem dX6_set_26 : decode cX6_set 26 = .ok (.iload_n 3, 1) := by decide +kernel
theorem dX6_set_27 : decode cX6_set 27 = .ok (.iastore, 1) := by decide +kernel
theorem dX6_set_28 : decode cX6_set 28 = .ok (.return_, 1) := by decide +kernel
theorem wk_64 : Cond.initialized RX6 ∈ tl_L := List.mem_filter.mpr ⟨lw_m1 (i := 4) rfl, rfl⟩
theorem wk_293 : Cond.methodLink RX6 32 yX6_has ∈ tl_L := List.mem_filter.mpr ⟨lw_m3 (i := 21) rfl, rfl⟩
theorem wk_294 : Cond.instanceMethod yX6_has ∈ tl_L := List.mem_filter.mpr ⟨lw_m3 (i := 23) rfl, rfl⟩
theorem wk_295 : Cond.selects RX6 yX6_has yX6_has ∈ tl_L := List.mem_filter.mpr ⟨lw_s1 (i := 7) (q := (yX6_has, 3)) rfl, rfl⟩
theorem wk_296 : Cond.code yX6_has cX6_has 2 (some .boolean) ∈ tl_L := List.mem_filter.mpr ⟨lw_m3 (i := 24) rfl, rfl⟩
theorem lk_X6_32 : tl_kV RX6 32 RX6 yX6_has cX6_has 2 (some .boolean) 1 := ⟨wk_296, wk_293, wk_294, wk_295, wk_64, ⟨by decide +kernel, by decide +kernel, by decide +kernel⟩⟩
theorem dX6_add_0 : decode cX6_add 0 = .ok (.aload_n 0, 1) := by decide +kernel
theorem dX6_add_1 : decode cX6_add 1 = .ok (.getfield 25, 3) := by decide +kernel
theorem dX6_add_4 : decode cX6_add 4 = .ok (.aload_n 0, 1) := by decide +kernel
theorem dX6_add_5 : decode cX6_add 5 = .ok (.getfield 15, 3) := by decide +kernel
theorem dX6_add_8 : decode cX6_add 8 = .ok (.if_icmp .lt 5, 3) := by decide +kernel
theorem dX6_add_11 : decode cX6_add 11 = .ok (.iconst (-1), 1) := by decide +kernel
theorem dX6_add_12 : decode cX6_add 12 = .ok (.ireturn, 1) := by decide +kernel
theorem dX6_add_13 : decode cX6_add 13 = .ok (.aload_n 0, 1) := by decide +kernel
theorem dX6_add_14 : decode cX6_add 14 = .ok (.getfield 25, 3) := by decide +kernel
theorem dX6_add_17 : decode cX6_add 17 = .ok (.istore 5, 2) := by decide +kernel
theorem dX6_add_19 : decode cX6_add 19 = .ok (.aload_n 0, 1) := by decide +kernel
theorem dX6_add_20 : decode cX6_add 20 = .ok (.dup, 1) := by decide +kernel
theorem dX6_add_21 : decode cX6_add 21 = .ok (.getfield 25, 3) := by decide +kernel
theorem dX6_add_24 : decode cX6_add 24 = .ok (.iconst 1, 1) := by decide +kernel
theorem dX6_add_25 : decode cX6_add 25 = .ok (.iadd, 1) := by decide +kernel
theorem dX6_add_26 : decode cX6_add 26 = .ok (.putfield 25, 3) := by decide +kernel
theorem dX6_add_29 : decode cX6_add 29 = .ok (.aload_n 0, 1) := by decide +kernel
theorem dX6_add_30 : decode cX6_add 30 = .ok (.iload 5, 2) := by decide +kernel
theorem dX6_add_32 : decode cX6_add 32 = .ok (.iconst 0, 1) := by decide +kernel
theorem dX6_add_33 : decode cX6_add 33 = .ok (.iload_n 1, 1) := by decide +kernel
theorem dX6_add_34 : decode cX6_add 34 = .ok (.invokevirtual 28, 3) := by decide +kernel
theorem dX6_add_37 : decode cX6_add 37 = .ok (.aload_n 0, 1) := by decide +kernel
theorem dX6_add_38 : decode cX6_add 38 = .ok (.iload 5, 2) := by decide +kernel
theorem dX6_add_40 : decode cX6_add 40 = .ok (.iconst 1, 1) := by decide +kernel
theorem dX6_add_41 : decode cX6_add 41 = .ok (.iload_n 2, 1) := by decide +kernel
theorem dX6_add_42 : decode cX6_add 42 = .ok (.invokevirtual 28, 3) := by decide +kernel
theorem dX6_add_45 : decode cX6_add 45 = .ok (.aload_n 0, 1) := by decide +kernel
theorem dX6_add_46 : decode cX6_add 46 = .ok (.iload 5, 2) := by decide +kernel
theorem dX6_add_48 : decode cX6_add 48 = .ok (.iconst 2, 1) := by decide +kernel
theorem dX6_add_49 : decode cX6_add 49 = .ok (.iload_n 3, 1) := by decide +kernel
theorem dX6_add_50 : decode cX6_add 50 = .ok (.invokevirtual 28, 3) := by decide +kernel
theorem dX6_add_53 : decode cX6_add 53 = .ok (.aload_n 0, 1) := by decide +kernel
theorem dX6_add_54 : decode cX6_add 54 = .ok (.iload 5, 2) := by decide +kernel
theorem dX6_add_56 : decode cX6_add 56 = .ok (.iconst 3, 1) := by decide +kernel
theorem dX6_add_57 : decode cX6_add 57 = .ok (.iload 4, 2) := by decide +kernel
theorem dX6_add_59 : decode cX6_add 59 = .ok (.invokevirtual 28, 3) := by decide +kernel
theorem dX6_add_62 : decode cX6_add 62 = .ok (.iload 5, 2) := by decide +kernel
theorem dX6_add_64 : decode cX6_add 64 = .ok (.ireturn, 1) := by decide +kernel
theorem wk_85 : Cond.fieldLink RX6 15 "ThinLine$Table" "most" "I" ∈ tl_L := List.mem_filter.mpr ⟨lw_m1 (i := 83) rfl, rfl⟩
theorem wk_289 : Cond.methodLink RX6 28 yX6_set ∈ tl_L := List.mem_filter.mpr ⟨lw_m3 (i := 17) rfl, rfl⟩
theorem wk_290 : Cond.instanceMethod yX6_set ∈ tl_L := List.mem_filter.mpr ⟨lw_m3 (i := 19) rfl, rfl⟩
theorem wk_291 : Cond.selects RX6 yX6_set yX6_set ∈ tl_L := List.mem_filter.mpr ⟨lw_s1 (i := 6) (q := (yX6_set, 3)) rfl, rfl⟩
theorem wk_292 : Cond.code yX6_set cX6_set 4 none ∈ tl_L := List.mem_filter.mpr ⟨lw_m3 (i := 20) rfl, rfl⟩
theorem lk_X6_28 : tl_kV RX6 28 RX6 yX6_set cX6_set 4 none 3 := ⟨wk_292, wk_289, wk_290, wk_291, wk_64, ⟨by decide +kernel, by decide +kernel, by decide +kernel⟩⟩
theorem dX6_copyFrom_0 : decode cX6_copyFrom 0 = .ok (.aload_n 0, 1) := by decide +kernel
theorem dX6_copyFrom_1 : decode cX6_copyFrom 1 = .ok (.aload_n 0, 1) := by decide +kernel
theorem dX6_copyFrom_2 : decode cX6_copyFrom 2 = .ok (.getfield 15, 3) := by decide +kernel
theorem dX6_copyFrom_5 : decode cX6_copyFrom 5 = .ok (.aload_n 1, 1) := by decide +kernel
theorem dX6_copyFrom_6 : decode cX6_copyFrom 6 = .ok (.getfield 25, 3) := by decide +kernel
theorem dX6_copyFrom_9 : decode cX6_copyFrom 9 = .ok (.invokestatic 36, 3) := by decide +kernel
theorem dX6_copyFrom_12 : decode cX6_copyFrom 12 = .ok (.putfield 25, 3) := by decide +kernel
theorem dX6_copyFrom_15 : decode cX6_copyFrom 15 = .ok (.aload_n 1, 1) := by decide +kernel
theorem dX6_copyFrom_16 : decode cX6_copyFrom 16 = .ok (.getfield 21, 3) := by decide +kernel
theorem dX6_copyFrom_19 : decode cX6_copyFrom 19 = .ok (.iconst 0, 1) := by decide +kernel
theorem dX6_copyFrom_20 : decode cX6_copyFrom 20 = .ok (.aload_n 0, 1) := by decide +kernel
theorem dX6_copyFrom_21 : decode cX6_copyFrom 21 = .ok (.getfield 21, 3) := by decide +kernel
theorem dX6_copyFrom_24 : decode cX6_copyFrom 24 = .ok (.iconst 0, 1) := by decide +kernel
theorem dX6_copyFrom_25 : decode cX6_copyFrom 25 = .ok (.aload_n 0, 1) := by decide +kernel
theorem dX6_copyFrom_26 : decode cX6_copyFrom 26 = .ok (.getfield 21, 3) := by decide +kernel
theorem dX6_copyFrom_29 : decode cX6_copyFrom 29 = .ok (.arraylength, 1) := by decide +kernel
theorem dX6_copyFrom_30 : decode cX6_copyFrom 30 = .ok (.aload_n 1, 1) := by decide +kernel
theorem dX6_copyFrom_31 : decode cX6_copyFrom 31 = .ok (.getfield 21, 3) := by decide +kernel
theorem dX6_copyFrom_34 : decode cX6_copyFrom 34 = .ok (.arraylength, 1) := by decide +kernel
theorem dX6_copyFrom_35 : decode cX6_copyFrom 35 = .ok (.invokestatic 36, 3) := by decide +kernel
theorem dX6_copyFrom_38 : decode cX6_copyFrom 38 = .ok (.invokestatic 39, 3) := by decide +kernel
theorem dX6_copyFrom_41 : decode cX6_copyFrom 41 = .ok (.return_, 1) := by decide +kernel
theorem wk_770 : Cond.static Lib.Math.min.name ∈ tl_L := List.mem_filter.mpr ⟨by decide +kernel, rfl⟩
theorem wk_771 : Cond.code Lib.Math.min.name Lib.Math.min.code 2 (some .int) ∈ tl_L := List.mem_filter.mpr ⟨List.mem_of_getElem? (i := 992) (by decide +kernel), rfl⟩
theorem wk_1504 : Cond.native arraycopyName ∈ tl_L := List.mem_filter.mpr ⟨by decide +kernel, rfl⟩
theorem wk_1505 : Cond.static arraycopyName ∈ tl_L := List.mem_filter.mpr ⟨by decide +kernel, rfl⟩
theorem wk_1506 : Cond.initialized "java/lang/System" ∈ tl_L := List.mem_filter.mpr ⟨lw_m1 (i := 21) rfl, rfl⟩
theorem wk_1514 : Cond.methodLink RX6 36 Lib.Math.min.name ∈ tl_L := List.mem_filter.mpr ⟨by decide +kernel, rfl⟩
theorem wk_1515 : Cond.methodLink RX6 39 arraycopyName ∈ tl_L := List.mem_filter.mpr ⟨by decide +kernel, rfl⟩
set_option maxHeartbeats 4000000 in
set_option maxRecDepth 100000 in
theorem t_X6_has (l : Launch) (D : va_G) (cy : Nat → ClassId) (sz : Nat) (L : List Nat) (K : Nat → tk_K) (Γ : tk_G) (f : Nat → va_E) (n : Nat) (w : Nat) (o : Nat) (p0 : Int32) (ho : tp_r L K 7 (n) w o) (hn : n ≤ 60) : Met l yX6_has (tl_w yX6_has cX6_has 2 (some .boolean)) ({ frames := 0, cells := 0, slots := 0, locals := 0 }) (va_Pc [.ref o, .int p0] (tp_P D cy L K Γ f sz)) (vp_Si (fun r : Int32 => tl_E r (0 ≤ p0.toInt ∧ p0.toInt < Γ (7, n, w) 0) 1 0)) 0 0 (fun _ => False) := by
  refine Met.ofW (cc := cX6_has) (maxL := 2) (ret := (some .boolean)) (by decide) rfl ?_
  intro p e s m args below meth c s₁ B hml hv
  obtain ⟨rfl, hsz, hP, hK, hL, hI, hN, hU⟩ := hv
  have hx := B.exec
  have hb := B.bytes
  have hr := B.returns
  have hta := tl_hta (atoms_spec (ws := tl_w yX6_has cX6_has 2 (some .boolean)) B.pre)
  have hown : s.vm.findClass RX6 = some m.cls := findClass_of_methodNamed B.named
  have hlocks := B.notSynchronized
  subst hsz
  have hI0 := hI
  have hl := lv_entry ([.ref o, .int p0]) (n := 2) (Nat.le_of_ble_eq_true rfl)
  rw [lg_entry_eq]
  generalize (lg_sl ([.ref o, .int p0]) ++ List.replicate (2 - (lg_sl ([.ref o, .int p0])).length) Slot.unset).toArray = ls at hl ⊢
  have hl : lv_has ls 2 [(0, .ref o), (1, .int p0)] := hl
  refine lv_iload_n hx hb dX6_has_0 rfl (lv_at hl 1 rfl) ?_
  refine lv_if_lt (tgt := 16) hx hb dX6_has_1 (by decide) (fun c_1 => ?_) (fun c_1 => ?_)
  · have c_1 : p0.toInt < (0 : Int) := tl_lt c_1
    refine lv_iconst (v := 0) hx hb dX6_has_16 (by decide) ?_
    exact W.zret (ty := .boolean) (v := 0) hx hb hr rfl (fun t ht hW => ⟨_, rfl, (Or.inr ⟨by omega, rfl⟩), ht⟩) (fun q h => by cases h) dX6_has_17
  · have c_1 : (0 : Int) ≤ p0.toInt := tl_nlt c_1
    refine lv_iload_n hx hb dX6_has_4 rfl (lv_at hl 1 rfl) ?_
    refine lv_aload_n hx hb dX6_has_5 rfl (lv_at hl 0 rfl) ?_
    obtain ⟨x_3, x_4, x_5, hf_2, hx_3, hx_4, hx_5⟩ := (show tp_o_TABLE L K (n) w (Γ (7, n, w)) (f o) from hI0.at ho)
    refine tp_get (cy := cy) (ci := 6) (v := .int x_5) (C := RX6) (T := TX6) (N := 3) hx hb hta inlX6 hown hK hP ho.1 hf_2 rfl 2 (by decide) (hta _ wk_266) (fun _ h9 => h9) rfl dX6_has_6 ?_
    refine lv_icmp_ge (tgt := 16) hx hb dX6_has_9 (by decide) (fun c_6 => ?_) (fun c_6 => ?_)
    · have c_6 : x_5.toInt ≤ p0.toInt := tl_le c_6
      refine lv_iconst (v := 0) hx hb dX6_has_16 (by decide) ?_
      exact W.zret (ty := .boolean) (v := 0) hx hb hr rfl (fun t ht hW => ⟨_, rfl, (Or.inr ⟨by omega, rfl⟩), ht⟩) (fun q h => by cases h) dX6_has_17
    · have c_6 : p0.toInt < x_5.toInt := tl_nle c_6
      refine lv_iconst (v := 1) hx hb dX6_has_12 (by decide) ?_
      refine lv_goto (tgt := 17) hx hb dX6_has_13 (by decide) ?_
      exact W.zret (ty := .boolean) (v := 1) hx hb hr rfl (fun t ht hW => ⟨_, rfl, (Or.inl ⟨by omega, rfl⟩), ht⟩) (fun q h => by cases h) dX6_has_17
set_option maxHeartbeats 4000000 in
set_option maxRecDepth 100000 in
theorem t_X6_cell (l : Launch) (D : va_G) (cy : Nat → ClassId) (sz : Nat) (L : List Nat) (K : Nat → tk_K) (Γ : tk_G) (f : Nat → va_E) (n : Nat) (w : Nat) (o : Nat) (p0 : Int32) (p1 : Int32) (ho : tp_r L K 7 (n) w o) (hn : n ≤ 60) : Met l yX6_cell (tl_w yX6_cell cX6_cell 4 (some .int)) ({ frames := 0, cells := 0, slots := 0, locals := 0 }) (va_Pc [.ref o, .int p0, .int p1] (tp_P D cy L K Γ f sz)) (vp_Si (fun r : Int32 => True)) 0 0 (fun _ => False) := by
  refine Met.ofW (cc := cX6_cell) (maxL := 4) (ret := (some .int)) (by decide) rfl ?_
  intro p e s m args below meth c s₁ B hml hv
  obtain ⟨rfl, hsz, hP, hK, hL, hI, hN, hU⟩ := hv
  have hx := B.exec
  have hb := B.bytes
  have hr := B.returns
  have hta := tl_hta (atoms_spec (ws := tl_w yX6_cell cX6_cell 4 (some .int)) B.pre)
  have hown : s.vm.findClass RX6 = some m.cls := findClass_of_methodNamed B.named
  have hlocks := B.notSynchronized
  subst hsz
  have hI0 := hI
  have hl := lv_entry ([.ref o, .int p0, .int p1]) (n := 4) (Nat.le_of_ble_eq_true rfl)
  rw [lg_entry_eq]
  generalize (lg_sl ([.ref o, .int p0, .int p1]) ++ List.replicate (4 - (lg_sl ([.ref o, .int p0, .int p1])).length) Slot.unset).toArray = ls at hl ⊢
  have hl : lv_has ls 4 [(0, .ref o), (1, .int p0), (2, .int p1)] := hl
  refine lv_iload_n hx hb dX6_cell_0 rfl (lv_at hl 1 rfl) ?_
  refine lv_if_lt (tgt := 25) hx hb dX6_cell_1 (by decide) (fun c_1 => ?_) (fun c_1 => ?_)
  · have c_1 : p0.toInt < (0 : Int) := tl_lt c_1
    refine lv_iconst (v := 0) hx hb dX6_cell_25 (by decide) ?_
    refine lv_istore_n (lv' := [(3, .int 0), (0, .ref o), (1, .int p0), (2, .int p1)]) hx hb dX6_cell_26 rfl hl (by decide) rfl (fun ls hl => ?_)
    refine lv_iload_n hx hb dX6_cell_27 rfl (lv_at hl 0 rfl) ?_
    refine lv_if_eq (tgt := 44) hx hb dX6_cell_28 (by decide) (fun _ => ?_) (fun c => absurd c (by decide))
    refine lv_iconst (v := 0) hx hb dX6_cell_44 (by decide) ?_
    exact W.iret (v := 0) hx hb hr (fun t ht hW => ⟨_, rfl, trivial, ht⟩) (fun q h => by cases h) dX6_cell_45
  · have c_1 : (0 : Int) ≤ p0.toInt := tl_nlt c_1
    refine lv_iload_n hx hb dX6_cell_4 rfl (lv_at hl 1 rfl) ?_
    refine lv_aload_n hx hb dX6_cell_5 rfl (lv_at hl 0 rfl) ?_
    obtain ⟨x_3, x_4, x_5, hf_2, hx_3, hx_4, hx_5⟩ := (show tp_o_TABLE L K (n) w (Γ (7, n, w)) (f o) from hI0.at ho)
    refine tp_get (cy := cy) (ci := 6) (v := .int x_5) (C := RX6) (T := TX6) (N := 3) hx hb hta inlX6 hown hK hP ho.1 hf_2 rfl 2 (by decide) (hta _ wk_266) (fun _ h9 => h9) rfl dX6_cell_6 ?_
    refine lv_icmp_ge (tgt := 25) hx hb dX6_cell_9 (by decide) (fun c_6 => ?_) (fun c_6 => ?_)
    · have c_6 : x_5.toInt ≤ p0.toInt := tl_le c_6
      refine lv_iconst (v := 0) hx hb dX6_cell_25 (by decide) ?_
      refine lv_istore_n (lv' := [(3, .int 0), (0, .ref o), (1, .int p0), (2, .int p1)]) hx hb dX6_cell_26 rfl hl (by decide) rfl (fun ls hl => ?_)
      refine lv_iload_n hx hb dX6_cell_27 rfl (lv_at hl 0 rfl) ?_
      refine lv_if_eq (tgt := 44) hx hb dX6_cell_28 (by decide) (fun _ => ?_) (fun c => absurd c (by decide))
      refine lv_iconst (v := 0) hx hb dX6_cell_44 (by decide) ?_
      exact W.iret (v := 0) hx hb hr (fun t ht hW => ⟨_, rfl, trivial, ht⟩) (fun q h => by cases h) dX6_cell_45
    · have c_6 : p0.toInt < x_5.toInt := tl_nle c_6
      refine lv_iload_n hx hb dX6_cell_12 rfl (lv_at hl 2 rfl) ?_
      refine lv_if_lt (tgt := 25) hx hb dX6_cell_13 (by decide) (fun c_7 => ?_) (fun c_7 => ?_)
      · have c_7 : p1.toInt < (0 : Int) := tl_lt c_7
        refine lv_iconst (v := 0) hx hb dX6_cell_25 (by decide) ?_
        refine lv_istore_n (lv' := [(3, .int 0), (0, .ref o), (1, .int p0), (2, .int p1)]) hx hb dX6_cell_26 rfl hl (by decide) rfl (fun ls hl => ?_)
        refine lv_iload_n hx hb dX6_cell_27 rfl (lv_at hl 0 rfl) ?_
        refine lv_if_eq (tgt := 44) hx hb dX6_cell_28 (by decide) (fun _ => ?_) (fun c => absurd c (by decide))
        refine lv_iconst (v := 0) hx hb dX6_cell_44 (by decide) ?_
        exact W.iret (v := 0) hx hb hr (fun t ht hW => ⟨_, rfl, trivial, ht⟩) (fun q h => by cases h) dX6_cell_45
      · have c_7 : (0 : Int) ≤ p1.toInt := tl_nlt c_7
        refine lv_iload_n hx hb dX6_cell_16 rfl (lv_at hl 2 rfl) ?_
        refine lv_iconst (v := 4) hx hb dX6_cell_17 (by decide) ?_
        refine lv_icmp_ge (tgt := 25) hx hb dX6_cell_18 (by decide) (fun c_8 => ?_) (fun c_8 => ?_)
        · have c_8 : (4 : Int) ≤ p1.toInt := tl_le c_8
          refine lv_iconst (v := 0) hx hb dX6_cell_25 (by decide) ?_
          refine lv_istore_n (lv' := [(3, .int 0), (0, .ref o), (1, .int p0), (2, .int p1)]) hx hb dX6_cell_26 rfl hl (by decide) rfl (fun ls hl => ?_)
          refine lv_iload_n hx hb dX6_cell_27 rfl (lv_at hl 0 rfl) ?_
          refine lv_if_eq (tgt := 44) hx hb dX6_cell_28 (by decide) (fun _ => ?_) (fun c => absurd c (by decide))
          refine lv_iconst (v := 0) hx hb dX6_cell_44 (by decide) ?_
          exact W.iret (v := 0) hx hb hr (fun t ht hW => ⟨_, rfl, trivial, ht⟩) (fun q h => by cases h) dX6_cell_45
        · have c_8 : p1.toInt < (4 : Int) := tl_nle c_8
          refine lv_iconst (v := 1) hx hb dX6_cell_21 (by decide) ?_
          refine lv_goto (tgt := 26) hx hb dX6_cell_22 (by decide) ?_
          refine lv_istore_n (lv' := [(3, .int 1), (0, .ref o), (1, .int p0), (2, .int p1)]) hx hb dX6_cell_26 rfl hl (by decide) rfl (fun ls hl => ?_)
          refine lv_iload_n hx hb dX6_cell_27 rfl (lv_at hl 0 rfl) ?_
          refine lv_if_eq (tgt := 44) hx hb dX6_cell_28 (by decide) (fun c => absurd c (by decide)) (fun _ => ?_)
          refine lv_aload_n hx hb dX6_cell_31 rfl (lv_at hl 1 rfl) ?_
          refine tp_get (cy := cy) (ci := 6) (v := .ref x_4) (C := RX6) (T := TX6) (N := 3) hx hb hta inlX6 hown hK hP ho.1 hf_2 rfl 1 (by decide) (hta _ wk_86) (fun _ h9 => h9) rfl dX6_cell_32 ?_
          refine lv_iload_n hx hb dX6_cell_35 rfl (lv_at hl 2 rfl) ?_
          refine lv_iconst (v := 4) hx hb dX6_cell_36 (by decide) ?_
          refine lv_imul hx hb dX6_cell_37 ?_
          refine lv_topi (fun z_9 ez_9 => ?_)
          try have iz_9 : z_9.toInt = p0.toInt * (4 : Int) := by rw [ez_9]; exact tl_mulN p0 4 rfl rfl (by omega) (by omega)
          refine lv_iload_n hx hb dX6_cell_38 rfl (lv_at hl 3 rfl) ?_
          refine lv_iadd hx hb dX6_cell_39 ?_
          refine lv_topi (fun z_10 ez_10 => ?_)
          try have iz_10 : z_10.toInt = z_9.toInt + p1.toInt := by rw [ez_10]; exact tl_addN z_9 p1 rfl rfl (by omega) (by omega)
          obtain ⟨g_12, hf_11, hg_13⟩ := (show tp_gi cy (4 * n) (Γ (8, 4 * n, w)) (f x_4) from hI0.at hx_4)
          have hn_14 : vp_in z_10 (4 * n) := tl_in (by omega) (by omega)
          refine tp_iald (cy := cy) hx hb hK hP hx_4.1 hf_11 hn_14 dX6_cell_40 ?_
          refine lv_topi (fun z_15 ez_15 => ?_)
          have iz_15 : z_15.toInt = Γ (8, 4 * n, w) z_10.toInt.toNat := by rw [ez_15]; exact hg_13 _ (tp_pin hn_14)
          refine lv_goto (tgt := 45) hx hb dX6_cell_41 (by decide) ?_
          exact W.iret (v := z_15) hx hb hr (fun t ht hW => ⟨_, rfl, trivial, ht⟩) (fun q h => by cases h) dX6_cell_45
set_option maxHeartbeats 4000000 in
set_option maxRecDepth 100000 in
theorem tx_cell (l : Launch) (D : va_G) (cy : Nat → ClassId) (sz : Nat) (L : List Nat) (K : Nat → tk_K) (Γ : tk_G) (f : Nat → va_E) (n : Nat) (w : Nat) (o : Nat) (p0 : Int32) (p1 : Int32) (ho : tp_r L K 7 (n) w o) (hn : n ≤ 60) (h0 : 0 ≤ p0.toInt ∧ p0.toInt < Γ (7, n, w) 0) (h1 : 0 ≤ p1.toInt ∧ p1.toInt < 4) : Met l yX6_cell (tl_w yX6_cell cX6_cell 4 (some .int)) ({ frames := 0, cells := 0, slots := 0, locals := 0 }) (va_Pc [.ref o, .int p0, .int p1] (tp_P D cy L K Γ f sz)) (vp_Si (fun r : Int32 => r.toInt = Γ (8, 4 * n, w) (4 * p0.toInt + p1.toInt).toNat)) 0 0 (fun _ => False) := by
  refine Met.ofW (cc := cX6_cell) (maxL := 4) (ret := (some .int)) (by decide) rfl ?_
  intro p e s m args below meth c s₁ B hml hv
  obtain ⟨rfl, hsz, hP, hK, hL, hI, hN, hU⟩ := hv
  have hx := B.exec
  have hb := B.bytes
  have hr := B.returns
  have hta := tl_hta (atoms_spec (ws := tl_w yX6_cell cX6_cell 4 (some .int)) B.pre)
  have hown : s.vm.findClass RX6 = some m.cls := findClass_of_methodNamed B.named
  have hlocks := B.notSynchronized
  subst hsz
  have hI0 := hI
  have hl := lv_entry ([.ref o, .int p0, .int p1]) (n := 4) (Nat.le_of_ble_eq_true rfl)
  rw [lg_entry_eq]
  generalize (lg_sl ([.ref o, .int p0, .int p1]) ++ List.replicate (4 - (lg_sl ([.ref o, .int p0, .int p1])).length) Slot.unset).toArray = ls at hl ⊢
  have hl : lv_has ls 4 [(0, .ref o), (1, .int p0), (2, .int p1)] := hl
  refine lv_iload_n hx hb dX6_cell_0 rfl (lv_at hl 1 rfl) ?_
  refine lv_if_lt (tgt := 25) hx hb dX6_cell_1 (by decide) (fun c_1 => ?_) (fun c_1 => ?_)
  · have c_1 : p0.toInt < (0 : Int) := tl_lt c_1
    exfalso; omega
  · have c_1 : (0 : Int) ≤ p0.toInt := tl_nlt c_1
    refine lv_iload_n hx hb dX6_cell_4 rfl (lv_at hl 1 rfl) ?_
    refine lv_aload_n hx hb dX6_cell_5 rfl (lv_at hl 0 rfl) ?_
    obtain ⟨x_3, x_4, x_5, hf_2, hx_3, hx_4, hx_5⟩ := (show tp_o_TABLE L K (n) w (Γ (7, n, w)) (f o) from hI0.at ho)
    refine tp_get (cy := cy) (ci := 6) (v := .int x_5) (C := RX6) (T := TX6) (N := 3) hx hb hta inlX6 hown hK hP ho.1 hf_2 rfl 2 (by decide) (hta _ wk_266) (fun _ h9 => h9) rfl dX6_cell_6 ?_
    refine lv_icmp_ge (tgt := 25) hx hb dX6_cell_9 (by decide) (fun c_6 => ?_) (fun c_6 => ?_)
    · have c_6 : x_5.toInt ≤ p0.toInt := tl_le c_6
      refine lv_iconst (v := 0) hx hb dX6_cell_25 (by decide) ?_
      refine lv_istore_n (lv' := [(3, .int 0), (0, .ref o), (1, .int p0), (2, .int p1)]) hx hb dX6_cell_26 rfl hl (by decide) rfl (fun ls hl => ?_)
      refine lv_iload_n hx hb dX6_cell_27 rfl (lv_at hl 0 rfl) ?_
      refine lv_if_eq (tgt := 44) hx hb dX6_cell_28 (by decide) (fun _ => ?_) (fun c => absurd c (by decide))
      refine lv_iconst (v := 0) hx hb dX6_cell_44 (by decide) ?_
      exact W.iret (v := 0) hx hb hr (fun t ht hW => ⟨_, rfl, (by exfalso; omega), ht⟩) (fun q h => by cases h) dX6_cell_45
    · have c_6 : p0.toInt < x_5.toInt := tl_nle c_6
      refine lv_iload_n hx hb dX6_cell_12 rfl (lv_at hl 2 rfl) ?_
      refine lv_if_lt (tgt := 25) hx hb dX6_cell_13 (by decide) (fun c_7 => ?_) (fun c_7 => ?_)
      · have c_7 : p1.toInt < (0 : Int) := tl_lt c_7
        exfalso; omega
      · have c_7 : (0 : Int) ≤ p1.toInt := tl_nlt c_7
        refine lv_iload_n hx hb dX6_cell_16 rfl (lv_at hl 2 rfl) ?_
        refine lv_iconst (v := 4) hx hb dX6_cell_17 (by decide) ?_
        refine lv_icmp_ge (tgt := 25) hx hb dX6_cell_18 (by decide) (fun c_8 => ?_) (fun c_8 => ?_)
        · have c_8 : (4 : Int) ≤ p1.toInt := tl_le c_8
          exfalso; omega
        · have c_8 : p1.toInt < (4 : Int) := tl_nle c_8
          refine lv_iconst (v := 1) hx hb dX6_cell_21 (by decide) ?_
          refine lv_goto (tgt := 26) hx hb dX6_cell_22 (by decide) ?_
          refine lv_istore_n (lv' := [(3, .int 1), (0, .ref o), (1, .int p0), (2, .int p1)]) hx hb dX6_cell_26 rfl hl (by decide) rfl (fun ls hl => ?_)
          refine lv_iload_n hx hb dX6_cell_27 rfl (lv_at hl 0 rfl) ?_
          refine lv_if_eq (tgt := 44) hx hb dX6_cell_28 (by decide) (fun c => absurd c (by decide)) (fun _ => ?_)
          refine lv_aload_n hx hb dX6_cell_31 rfl (lv_at hl 1 rfl) ?_
          refine tp_get (cy := cy) (ci := 6) (v := .ref x_4) (C := RX6) (T := TX6) (N := 3) hx hb hta inlX6 hown hK hP ho.1 hf_2 rfl 1 (by decide) (hta _ wk_86) (fun _ h9 => h9) rfl dX6_cell_32 ?_
          refine lv_iload_n hx hb dX6_cell_35 rfl (lv_at hl 2 rfl) ?_
          refine lv_iconst (v := 4) hx hb dX6_cell_36 (by decide) ?_
          refine lv_imul hx hb dX6_cell_37 ?_
          refine lv_topi (fun z_9 ez_9 => ?_)
          try have iz_9 : z_9.toInt = p0.toInt * (4 : Int) := by rw [ez_9]; exact tl_mulN p0 4 rfl rfl (by omega) (by omega)
          refine lv_iload_n hx hb dX6_cell_38 rfl (lv_at hl 3 rfl) ?_
          refine lv_iadd hx hb dX6_cell_39 ?_
          refine lv_topi (fun z_10 ez_10 => ?_)
          try have iz_10 : z_10.toInt = z_9.toInt + p1.toInt := by rw [ez_10]; exact tl_addN z_9 p1 rfl rfl (by omega) (by omega)
          obtain ⟨g_12, hf_11, hg_13⟩ := (show tp_gi cy (4 * n) (Γ (8, 4 * n, w)) (f x_4) from hI0.at hx_4)
          have hn_14 : vp_in z_10 (4 * n) := tl_in (by omega) (by omega)
          refine tp_iald (cy := cy) hx hb hK hP hx_4.1 hf_11 hn_14 dX6_cell_40 ?_
          refine lv_topi (fun z_15 ez_15 => ?_)
          have iz_15 : z_15.toInt = Γ (8, 4 * n, w) z_10.toInt.toNat := by rw [ez_15]; exact hg_13 _ (tp_pin hn_14)
          refine lv_goto (tgt := 45) hx hb dX6_cell_41 (by decide) ?_
          exact W.iret (v := z_15) hx hb hr (fun t ht hW => ⟨_, rfl, (iz_15.trans (congrArg _ (by omega))), ht⟩) (fun q h => by cases h) dX6_cell_45
set_option maxHeartbeats 4000000 in
set_option maxRecDepth 100000 in
theorem t_X6_set (l : Launch) (D : va_G) (cy : Nat → ClassId) (sz : Nat) (L : List Nat) (K : Nat → tk_K) (Γ : tk_G) (f : Nat → va_E) (n : Nat) (w : Nat) (o : Nat) (p0 : Int32) (p1 : Int32) (p2 : Int32) (ho : tp_r L K 7 (n) w o) (hn : n ≤ 60) (h0 : 0 ≤ p0.toInt ∧ p0.toInt < Γ (7, n, w) 0) (h1 : 0 ≤ p1.toInt ∧ p1.toInt < 4) : Met l yX6_set (tl_w yX6_set cX6_set 4 none) ({ frames := 1, cells := 0, slots := 0, locals := 21 }) (va_Pc [.ref o, .int p0, .int p1, .int p2] (tp_P D cy L K Γ f sz)) (va_Qv (fun (u : Nat → va_E) => True) (tp_B D cy L K (tg Γ (8, 4 * n, w) (4 * p0.toInt + p1.toInt).toNat p2.toInt) f [8]) (tp_A L sz)) 0 0 (tp_A L sz) := by
  refine Met.ofW (cc := cX6_set) (maxL := 4) (ret := none) (by decide) rfl ?_
  intro p e s m args below meth c s₁ B hml hv
  obtain ⟨rfl, hsz, hP, hK, hL, hI, hN, hU⟩ := hv
  have hx := B.exec
  have hb := B.bytes
  have hr := B.returns
  have hta := tl_hta (atoms_spec (ws := tl_w yX6_set cX6_set 4 none) B.pre)
  have hown : s.vm.findClass RX6 = some m.cls := findClass_of_methodNamed B.named
  have hlocks := B.notSynchronized
  subst hsz
  have hI0 := hI
  generalize hAe : tp_A L s.heap.size = A
  have hA : ∀ q : Nat, s.heap.size ≤ q → A q := fun q h => by rw [← hAe]; exact Or.inr h
  have hAL : ∀ q ∈ L, A q := fun q h => by rw [← hAe]; exact Or.inl h
  have hAf : ∀ (H : Heap), s.heap.size ≤ H.size → ∀ q, tp_A L H.size q → A q := fun H h q hq => hq.elim (hAL q) (fun h2 => hA q (Nat.le_trans h h2))
  have hS : va_S A s.heap s.heap [] := va_S.rf
  have hD : va_D A (va_pl L f) := tp_D hL hAL
  have hfr : ∀ b, (K b).1 ∉ ([8] : List Nat) → f b = f b := fun _ _ => rfl
  have hl := lv_entry ([.ref o, .int p0, .int p1, .int p2]) (n := 4) (Nat.le_of_ble_eq_true rfl)
  rw [lg_entry_eq]
  generalize (lg_sl ([.ref o, .int p0, .int p1, .int p2]) ++ List.replicate (4 - (lg_sl ([.ref o, .int p0, .int p1, .int p2])).length) Slot.unset).toArray = ls at hl ⊢
  have hl : lv_has ls 4 [(0, .ref o), (1, .int p0), (2, .int p1), (3, .int p2)] := hl
  refine lv_aload_n hx hb dX6_set_0 rfl (lv_at hl 0 rfl) ?_
  refine lv_iload_n hx hb dX6_set_1 rfl (lv_at hl 1 rfl) ?_
  obtain ⟨x_2, x_3, x_4, hf_1, hx_2, hx_3, hx_4⟩ := (show tp_o_TABLE L K (n) w (Γ (7, n, w)) (f o) from hI0.at ho)
  refine tl_si (tq_rV (As := [.int p0]) (rest := []) ⟨hx, hb, hml, hown, hta⟩ (tp_P.pre hK hN hL hU hI hP) (tp_recv hK hP ho.1 hf_1 rfl) lk_X6_32 (t_X6_has l D cy s.heap.size L K Γ f n w o p0 ho (by first | omega | (simp only [Int32.toInt_toInt64]; omega) | decide | assumption)) rfl rfl ⟨Nat.le_of_ble_eq_true rfl, Nat.le_of_ble_eq_true rfl⟩ rfl hl.1 rfl (Nat.le_of_ble_eq_true rfl) dX6_set_2 ⟨Nat.le_of_ble_eq_true rfl, Nat.le_of_ble_eq_true rfl⟩) (fun r_6 hw_5 => ?_)
  have hw_5 : tl_E r_6 (0 ≤ p0.toInt ∧ p0.toInt < Γ (7, n, w) 0) 1 0 := hw_5
  refine lv_if_eq (tgt := 28) hx hb dX6_set_5 (by decide) (fun c_7 => ?_) (fun c_7 => ?_)
  · have c_7 := hw_5.f c_7
    have hG9 : Γ = tg Γ (8, 4 * n, w) (4 * p0.toInt + p1.toInt).toNat p2.toInt := (by exfalso; omega)
    exact W.vret hx hb hr (fun t ht hW => ⟨⟨f, rfl, trivial, by rw [ht]; exact hP, (by rw [← hG9]; exact hI), hfr⟩, hS.F ht⟩) hS.2.2 dX6_set_28
  · have c_7 := hw_5.t c_7
    refine lv_iload_n hx hb dX6_set_8 rfl (lv_at hl 2 rfl) ?_
    refine lv_if_lt (tgt := 28) hx hb dX6_set_9 (by decide) (fun c_8 => ?_) (fun c_8 => ?_)
    · have c_8 : p1.toInt < (0 : Int) := tl_lt c_8
      exfalso; omega
    · have c_8 : (0 : Int) ≤ p1.toInt := tl_nlt c_8
      refine lv_iload_n hx hb dX6_set_12 rfl (lv_at hl 2 rfl) ?_
      refine lv_iconst (v := 4) hx hb dX6_set_13 (by decide) ?_
      refine lv_icmp_ge (tgt := 28) hx hb dX6_set_14 (by decide) (fun c_9 => ?_) (fun c_9 => ?_)
      · have c_9 : (4 : Int) ≤ p1.toInt := tl_le c_9
        exfalso; omega
      · have c_9 : p1.toInt < (4 : Int) := tl_nle c_9
        refine lv_aload_n hx hb dX6_set_17 rfl (lv_at hl 0 rfl) ?_
        refine tp_get (cy := cy) (ci := 6) (v := .ref x_3) (C := RX6) (T := TX6) (N := 3) hx hb hta inlX6 hown hK hP ho.1 hf_1 rfl 1 (by decide) (hta _ wk_86) (fun _ h9 => h9) rfl dX6_set_18 ?_
        refine lv_iload_n hx hb dX6_set_21 rfl (lv_at hl 1 rfl) ?_
        refine lv_iconst (v := 4) hx hb dX6_set_22 (by decide) ?_
        refine lv_imul hx hb dX6_set_23 ?_
        refine lv_topi (fun z_10 ez_10 => ?_)
        try have iz_10 : z_10.toInt = p0.toInt * (4 : Int) := by rw [ez_10]; exact tl_mulN p0 4 rfl rfl (by omega) (by omega)
        refine lv_iload_n hx hb dX6_set_24 rfl (lv_at hl 2 rfl) ?_
        refine lv_iadd hx hb dX6_set_25 ?_
        refine lv_topi (fun z_11 ez_11 => ?_)
        try have iz_11 : z_11.toInt = z_10.toInt + p1.toInt := by rw [ez_11]; exact tl_addN z_10 p1 rfl rfl (by omega) (by omega)
        refine lv_iload_n hx hb dX6_set_26 rfl (lv_at hl 3 rfl) ?_
        obtain ⟨g_13, hf_12, hg_14⟩ := (show tp_gi cy (4 * n) (Γ (8, 4 * n, w)) (f x_3) from hI.at hx_3)
        have hn_15 : vp_in z_11 (4 * n) := tl_in (by omega) (by omega)
        obtain ⟨Γ_16, eΓ_16⟩ : ∃ y : tk_G, y = tg Γ (8, 4 * n, w) z_11.toInt.toNat p2.toInt := ⟨_, rfl⟩
        have hI9 : tp_I cy L K Γ_16 (va_up f x_3 (.inl (cy 0, 4 * n, .inl (upd g_13 z_11.toNatClampNeg p2)))) := by rw [eΓ_16]; exact hI.setg hU rfl hx_3 (show tp_gi cy (4 * n) (tgu (Γ (8, 4 * n, w)) z_11.toInt.toNat p2.toInt) _ from ⟨_, rfl, tp_gi_upd hg_14⟩)
        have hfr9 : ∀ b, (K b).1 ∉ ([8] : List Nat) → va_up f x_3 (.inl (cy 0, 4 * n, .inl (upd g_13 z_11.toNatClampNeg p2))) b = f b := tp_fr hfr hx_3 (by decide)
        refine tp_iast (cy := cy) hx hb hK hP hD hS hx_3.1 hf_12 hn_15 dX6_set_27 (fun H locs hP hD hS => ?_)
        have hP : va_P D vwCl (va_pl L (va_up f x_3 (.inl (cy 0, 4 * n, .inl (upd g_13 z_11.toNatClampNeg p2))))) H := hP
        generalize hfe : va_up f x_3 (.inl (cy 0, 4 * n, .inl (upd g_13 z_11.toNatClampNeg p2))) = f_17 at hP hI9 hfr9
        have hD : va_D A (va_pl L f_17) := tp_D hL hAL
        have hf_18 : f_17 x_3 = .inl (cy 0, 4 * n, .inl (upd g_13 z_11.toNatClampNeg p2)) := by rw [← hfe]; exact va_up_self _ _ _
        clear hfe
        have hI := hI9
        have hfr := hfr9
        clear hI9 hfr9
        have hG9 : Γ_16 = tg Γ (8, 4 * n, w) (4 * p0.toInt + p1.toInt).toNat p2.toInt := (by rw [eΓ_16]; congr 1; omega)
        exact W.vret hx hb hr (fun t ht hW => ⟨⟨f_17, rfl, trivial, by rw [ht]; exact hP, (by rw [← hG9]; exact hI), hfr⟩, hS.F ht⟩) hS.2.2 dX6_set_28
set_option maxHeartbeats 4000000 in
set_option maxRecDepth 100000 in
theorem t_X6_add (l : Launch) (D : va_G) (cy : Nat → ClassId) (sz : Nat) (L : List Nat) (K : Nat → tk_K) (Γ : tk_G) (f : Nat → va_E) (n : Nat) (w : Nat) (o : Nat) (p0 : Int32) (p1 : Int32) (p2 : Int32) (p3 : Int32) (ho : tp_r L K 7 (n) w o) (hn : n ≤ 60) : Met l yX6_add (tl_w yX6_add cX6_add 6 (some .int)) ({ frames := 2, cells := 0, slots := 0, locals := 44 }) (va_Pc [.ref o, .int p0, .int p1, .int p2, .int p3] (tp_P D cy L K Γ f sz)) (va_Qi (fun (r : Int32) (u : Nat → va_E) => r.toInt = tm_at n (Γ (7, n, w) 0)) (tp_B D cy L K (tm_add Γ (7, n, w) (8, 4 * n, w) n p0.toInt p1.toInt p2.toInt p3.toInt) f [7, 8]) (tp_A L sz)) 0 0 (tp_A L sz) := by
  refine Met.ofW (cc := cX6_add) (maxL := 6) (ret := (some .int)) (by decide) rfl ?_
  intro p e s m args below meth c s₁ B hml hv
  obtain ⟨rfl, hsz, hP, hK, hL, hI, hN, hU⟩ := hv
  have hx := B.exec
  have hb := B.bytes
  have hr := B.returns
  have hta := tl_hta (atoms_spec (ws := tl_w yX6_add cX6_add 6 (some .int)) B.pre)
  have hown : s.vm.findClass RX6 = some m.cls := findClass_of_methodNamed B.named
  have hlocks := B.notSynchronized
  subst hsz
  have hI0 := hI
  generalize hAe : tp_A L s.heap.size = A
  have hA : ∀ q : Nat, s.heap.size ≤ q → A q := fun q h => by rw [← hAe]; exact Or.inr h
  have hAL : ∀ q ∈ L, A q := fun q h => by rw [← hAe]; exact Or.inl h
  have hAf : ∀ (H : Heap), s.heap.size ≤ H.size → ∀ q, tp_A L H.size q → A q := fun H h q hq => hq.elim (hAL q) (fun h2 => hA q (Nat.le_trans h h2))
  have hS : va_S A s.heap s.heap [] := va_S.rf
  have hD : va_D A (va_pl L f) := tp_D hL hAL
  have hfr : ∀ b, (K b).1 ∉ ([7, 8] : List Nat) → f b = f b := fun _ _ => rfl
  have hl := lv_entry ([.ref o, .int p0, .int p1, .int p2, .int p3]) (n := 6) (Nat.le_of_ble_eq_true rfl)
  rw [lg_entry_eq]
  generalize (lg_sl ([.ref o, .int p0, .int p1, .int p2, .int p3]) ++ List.replicate (6 - (lg_sl ([.ref o, .int p0, .int p1, .int p2, .int p3])).length) Slot.unset).toArray = ls at hl ⊢
  have hl : lv_has ls 6 [(0, .ref o), (1, .int p0), (2, .int p1), (3, .int p2), (4, .int p3)] := hl
  refine lv_aload_n hx hb dX6_add_0 rfl (lv_at hl 0 rfl) ?_
  obtain ⟨x_2, x_3, x_4, hf_1, hx_2, hx_3, hx_4⟩ := (show tp_o_TABLE L K (n) w (Γ (7, n, w)) (f o) from hI.at ho)
  refine tp_get (cy := cy) (ci := 6) (v := .int x_4) (C := RX6) (T := TX6) (N := 3) hx hb hta inlX6 hown hK hP ho.1 hf_1 rfl 2 (by decide) (hta _ wk_266) (fun _ h9 => h9) rfl dX6_add_1 ?_
  refine lv_aload_n hx hb dX6_add_4 rfl (lv_at hl 0 rfl) ?_
  refine tp_get (cy := cy) (ci := 6) (v := .int x_2) (C := RX6) (T := TX6) (N := 3) hx hb hta inlX6 hown hK hP ho.1 hf_1 rfl 0 (by decide) (hta _ wk_85) (fun _ h9 => h9) rfl dX6_add_5 ?_
  refine lv_icmp_lt (tgt := 13) hx hb dX6_add_8 (by decide) (fun c_5 => ?_) (fun c_5 => ?_)
  · have c_5 : x_4.toInt < x_2.toInt := tl_lt c_5
    refine lv_aload_n hx hb dX6_add_13 rfl (lv_at hl 0 rfl) ?_
    refine tp_get (cy := cy) (ci := 6) (v := .int x_4) (C := RX6) (T := TX6) (N := 3) hx hb hta inlX6 hown hK hP ho.1 hf_1 rfl 2 (by decide) (hta _ wk_266) (fun _ h9 => h9) rfl dX6_add_14 ?_
    refine lv_istore (lv' := [(5, .int x_4), (0, .ref o), (1, .int p0), (2, .int p1), (3, .int p2), (4, .int p3)]) hx hb dX6_add_17 hl (by decide) rfl (fun ls hl => ?_)
    refine lv_aload_n hx hb dX6_add_19 rfl (lv_at hl 1 rfl) ?_
    refine lv_dup hx hb dX6_add_20 rfl ?_
    refine tp_get (cy := cy) (ci := 6) (v := .int x_4) (C := RX6) (T := TX6) (N := 3) hx hb hta inlX6 hown hK hP ho.1 hf_1 rfl 2 (by decide) (hta _ wk_266) (fun _ h9 => h9) rfl dX6_add_21 ?_
    refine lv_iconst (v := 1) hx hb dX6_add_24 (by decide) ?_
    refine lv_iadd hx hb dX6_add_25 ?_
    refine lv_topi (fun z_6 ez_6 => ?_)
    try have iz_6 : z_6.toInt = x_4.toInt + (1 : Int) := by rw [ez_6]; exact tl_addN x_4 1 rfl rfl (by omega) (by omega)
    obtain ⟨Γ_7, eΓ_7⟩ : ∃ y : tk_G, y = tg Γ (7, n, w) 0 (z_6.toInt) := ⟨_, rfl⟩
    have hI9 : tp_I cy L K Γ_7 (va_up f o (.inr (6, [.int x_2, .ref x_3, .int z_6]))) := by rw [eΓ_7]; exact hI.setg hU rfl ho (show tp_o_TABLE L K (n) w (tgu (Γ (7, n, w)) 0 (z_6.toInt)) _ from ⟨x_2, x_3, z_6, rfl, (show x_2.toInt = (n) from by omega), hx_3, (show 0 ≤ z_6.toInt ∧ z_6.toInt ≤ (n) ∧ z_6.toInt = (tgu (Γ (7, n, w)) 0 (z_6.toInt)) 0 from by rw [tgu_s]; omega)⟩)
    have sΓ_7 : Γ_7 (7, n, w) 0 = z_6.toInt := by rw [eΓ_7]; exact tg_s
    have hfr9 : ∀ b, (K b).1 ∉ ([7, 8] : List Nat) → va_up f o (.inr (6, [.int x_2, .ref x_3, .int z_6])) b = f b := tp_fr hfr ho (by decide)
    refine tp_put (cy := cy) (ci := 6) (v := .int z_6) (ty := tyX6 2) (C := RX6) (T := TX6) (N := 3) hx hb hta inlX6 tyX6 tyX6_ok nmX6 hown hK hP hD hS ho.1 hf_1 rfl 2 (by decide) (hta _ wk_266) (fun _ h9 => h9) rfl (tyX6_ok 2 (by decide)) rfl rfl (Nat.le_of_ble_eq_true rfl) dX6_add_26 (fun H locs hP hD hS => ?_)
    have hP : va_P D vwCl (va_pl L (va_up f o (.inr (6, [.int x_2, .ref x_3, .int z_6])))) H := hP
    generalize hfe : va_up f o (.inr (6, [.int x_2, .ref x_3, .int z_6])) = f_8 at hP hI9 hfr9
    have hD : va_D A (va_pl L f_8) := tp_D hL hAL
    have hf_9 : f_8 o = .inr (6, [.int x_2, .ref x_3, .int z_6]) := by rw [← hfe]; exact va_up_self _ _ _
    clear hfe
    have hI := hI9
    have hfr := hfr9
    clear hI9 hfr9
    refine lv_aload_n hx hb dX6_add_29 rfl (lv_at hl 1 rfl) ?_
    refine lv_iload hx hb dX6_add_30 (lv_at hl 0 rfl) ?_
    refine lv_iconst (v := 0) hx hb dX6_add_32 (by decide) ?_
    refine lv_iload_n hx hb dX6_add_33 rfl (lv_at hl 2 rfl) ?_
    refine tq_cv hS (hAf _ hS.1) (tq_rV (As := [.int x_4, .int 0, .int p0]) (rest := []) ⟨hx, hb, hml, hown, hta⟩ (tp_P.pre hK hN hL hU hI hP) (tp_recv hK hP ho.1 hf_9 rfl) lk_X6_28 (t_X6_set l D cy H.size L K Γ_7 f_8 n w o x_4 0 p0 ho (by first | omega | (simp only [Int32.toInt_toInt64]; omega) | decide | assumption) (by first | omega | (simp only [Int32.toInt_toInt64]; omega) | decide | assumption) (by first | omega | (simp only [Int32.toInt_toInt64]; omega) | decide | assumption)) rfl rfl ⟨Nat.le_of_ble_eq_true rfl, Nat.le_of_ble_eq_true rfl⟩ rfl hl.1 rfl (Nat.le_of_ble_eq_true rfl) dX6_add_34 ⟨Nat.le_of_ble_eq_true rfl, Nat.le_of_ble_eq_true rfl⟩) (fun f_12 H locs hw_10 hP hI hc_13 hS => ?_)
    have hD : va_D A (va_pl L f_12) := tp_D hL hAL
    have hfr := tp_fr2 hfr hc_13 (by decide)
    have hf_14 := (tp_un hc_13 ho (by decide)).trans hf_9
    obtain ⟨Γ_15, eΓ_15⟩ : ∃ y : tk_G, y = tg Γ_7 (8, 4 * n, w) (4 * x_4.toInt + (0 : Int)).toNat p0.toInt := ⟨_, rfl⟩
    have hI : tp_I cy L K Γ_15 f_12 := by rw [eΓ_15]; exact hI
    have sΓ_15 : Γ_15 (7, n, w) 0 = Γ_7 (7, n, w) 0 := by rw [eΓ_15, tg_r (by decide)]
    refine lv_aload_n hx hb dX6_add_37 rfl (lv_at hl 1 rfl) ?_
    refine lv_iload hx hb dX6_add_38 (lv_at hl 0 rfl) ?_
    refine lv_iconst (v := 1) hx hb dX6_add_40 (by decide) ?_
    refine lv_iload_n hx hb dX6_add_41 rfl (lv_at hl 3 rfl) ?_
    obtain ⟨x_17, x_18, x_19, hf_16, hx_17, hx_18, hx_19⟩ := (show tp_o_TABLE L K (n) w (Γ_15 (7, n, w)) (f_12 o) from hI.at ho)
    refine tq_cv hS (hAf _ hS.1) (tq_rV (As := [.int x_4, .int 1, .int p1]) (rest := []) ⟨hx, hb, hml, hown, hta⟩ (tp_P.pre hK hN hL hU hI hP) (tp_recv hK hP ho.1 hf_16 rfl) lk_X6_28 (t_X6_set l D cy H.size L K Γ_15 f_12 n w o x_4 1 p1 ho (by first | omega | (simp only [Int32.toInt_toInt64]; omega) | decide | assumption) (by first | omega | (simp only [Int32.toInt_toInt64]; omega) | decide | assumption) (by first | omega | (simp only [Int32.toInt_toInt64]; omega) | decide | assumption)) rfl rfl ⟨Nat.le_of_ble_eq_true rfl, Nat.le_of_ble_eq_true rfl⟩ rfl hl.1 rfl (Nat.le_of_ble_eq_true rfl) dX6_add_42 ⟨Nat.le_of_ble_eq_true rfl, Nat.le_of_ble_eq_true rfl⟩) (fun f_22 H locs hw_20 hP hI hc_23 hS => ?_)
    have hD : va_D A (va_pl L f_22) := tp_D hL hAL
    have hfr := tp_fr2 hfr hc_23 (by decide)
    have hf_24 := (tp_un hc_23 ho (by decide)).trans hf_16
    obtain ⟨Γ_25, eΓ_25⟩ : ∃ y : tk_G, y = tg Γ_15 (8, 4 * n, w) (4 * x_4.toInt + (1 : Int)).toNat p1.toInt := ⟨_, rfl⟩
    have hI : tp_I cy L K Γ_25 f_22 := by rw [eΓ_25]; exact hI
    have sΓ_25 : Γ_25 (7, n, w) 0 = Γ_15 (7, n, w) 0 := by rw [eΓ_25, tg_r (by decide)]
    refine lv_aload_n hx hb dX6_add_45 rfl (lv_at hl 1 rfl) ?_
    refine lv_iload hx hb dX6_add_46 (lv_at hl 0 rfl) ?_
    refine lv_iconst (v := 2) hx hb dX6_add_48 (by decide) ?_
    refine lv_iload_n hx hb dX6_add_49 rfl (lv_at hl 4 rfl) ?_
    obtain ⟨x_27, x_28, x_29, hf_26, hx_27, hx_28, hx_29⟩ := (show tp_o_TABLE L K (n) w (Γ_25 (7, n, w)) (f_22 o) from hI.at ho)
    refine tq_cv hS (hAf _ hS.1) (tq_rV (As := [.int x_4, .int 2, .int p2]) (rest := []) ⟨hx, hb, hml, hown, hta⟩ (tp_P.pre hK hN hL hU hI hP) (tp_recv hK hP ho.1 hf_26 rfl) lk_X6_28 (t_X6_set l D cy H.size L K Γ_25 f_22 n w o x_4 2 p2 ho (by first | omega | (simp only [Int32.toInt_toInt64]; omega) | decide | assumption) (by first | omega | (simp only [Int32.toInt_toInt64]; omega) | decide | assumption) (by first | omega | (simp only [Int32.toInt_toInt64]; omega) | decide | assumption)) rfl rfl ⟨Nat.le_of_ble_eq_true rfl, Nat.le_of_ble_eq_true rfl⟩ rfl hl.1 rfl (Nat.le_of_ble_eq_true rfl) dX6_add_50 ⟨Nat.le_of_ble_eq_true rfl, Nat.le_of_ble_eq_true rfl⟩) (fun f_32 H locs hw_30 hP hI hc_33 hS => ?_)
    have hD : va_D A (va_pl L f_32) := tp_D hL hAL
    have hfr := tp_fr2 hfr hc_33 (by decide)
    have hf_34 := (tp_un hc_33 ho (by decide)).trans hf_26
    obtain ⟨Γ_35, eΓ_35⟩ : ∃ y : tk_G, y = tg Γ_25 (8, 4 * n, w) (4 * x_4.toInt + (2 : Int)).toNat p2.toInt := ⟨_, rfl⟩
    have hI : tp_I cy L K Γ_35 f_32 := by rw [eΓ_35]; exact hI
    have sΓ_35 : Γ_35 (7, n, w) 0 = Γ_25 (7, n, w) 0 := by rw [eΓ_35, tg_r (by decide)]
    refine lv_aload_n hx hb dX6_add_53 rfl (lv_at hl 1 rfl) ?_
    refine lv_iload hx hb dX6_add_54 (lv_at hl 0 rfl) ?_
    refine lv_iconst (v := 3) hx hb dX6_add_56 (by decide) ?_
    refine lv_iload hx hb dX6_add_57 (lv_at hl 5 rfl) ?_
    obtain ⟨x_37, x_38, x_39, hf_36, hx_37, hx_38, hx_39⟩ := (show tp_o_TABLE L K (n) w (Γ_35 (7, n, w)) (f_32 o) from hI.at ho)
    refine tq_cv hS (hAf _ hS.1) (tq_rV (As := [.int x_4, .int 3, .int p3]) (rest := []) ⟨hx, hb, hml, hown, hta⟩ (tp_P.pre hK hN hL hU hI hP) (tp_recv hK hP ho.1 hf_36 rfl) lk_X6_28 (t_X6_set l D cy H.size L K Γ_35 f_32 n w o x_4 3 p3 ho (by first | omega | (simp only [Int32.toInt_toInt64]; omega) | decide | assumption) (by first | omega | (simp only [Int32.toInt_toInt64]; omega) | decide | assumption) (by first | omega | (simp only [Int32.toInt_toInt64]; omega) | decide | assumption)) rfl rfl ⟨Nat.le_of_ble_eq_true rfl, Nat.le_of_ble_eq_true rfl⟩ rfl hl.1 rfl (Nat.le_of_ble_eq_true rfl) dX6_add_59 ⟨Nat.le_of_ble_eq_true rfl, Nat.le_of_ble_eq_true rfl⟩) (fun f_42 H locs hw_40 hP hI hc_43 hS => ?_)
    have hD : va_D A (va_pl L f_42) := tp_D hL hAL
    have hfr := tp_fr2 hfr hc_43 (by decide)
    have hf_44 := (tp_un hc_43 ho (by decide)).trans hf_36
    obtain ⟨Γ_45, eΓ_45⟩ : ∃ y : tk_G, y = tg Γ_35 (8, 4 * n, w) (4 * x_4.toInt + (3 : Int)).toNat p3.toInt := ⟨_, rfl⟩
    have hI : tp_I cy L K Γ_45 f_42 := by rw [eΓ_45]; exact hI
    have sΓ_45 : Γ_45 (7, n, w) 0 = Γ_35 (7, n, w) 0 := by rw [eΓ_45, tg_r (by decide)]
    refine lv_iload hx hb dX6_add_62 (lv_at hl 0 rfl) ?_
    have hG9 : Γ_45 = tm_add Γ (7, n, w) (8, 4 * n, w) n p0.toInt p1.toInt p2.toInt p3.toInt := (by rw [eΓ_45, eΓ_35, eΓ_25, eΓ_15, eΓ_7]; exact tm_add_eq (by intro q; cases q) (by omega) (by omega) (by omega))
    exact W.iret (v := x_4) hx hb hr (fun t ht hW => ⟨⟨_, f_42, rfl, (by rw [tm_at_lt (by omega)]; omega), by rw [ht]; exact hP, (by rw [← hG9]; exact hI), hfr⟩, hS.F ht⟩) hS.2.2 dX6_add_64
  · have c_5 : x_2.toInt ≤ x_4.toInt := tl_nlt c_5
    refine lv_iconst (v := (-1)) hx hb dX6_add_11 (by decide) ?_
    have hG9 : Γ = tm_add Γ (7, n, w) (8, 4 * n, w) n p0.toInt p1.toInt p2.toInt p3.toInt := (by unfold tm_add; rw [if_neg (by omega)])
    exact W.iret (v := (-1)) hx hb hr (fun t ht hW => ⟨⟨_, f, rfl, (by rw [tm_at_ge (by omega)]; rfl), by rw [ht]; exact hP, (by rw [← hG9]; exact hI), hfr⟩, hS.F ht⟩) hS.2.2 dX6_add_12
set_option maxHeartbeats 4000000 in
set_option maxRecDepth 100000 in
theorem t_X6_copyFrom (l : Launch) (D : va_G) (cy : Nat → ClassId) (sz : Nat) (L : List Nat) (K : Nat → tk_K) (Γ : tk_G) (f : Nat → va_E) (n : Nat) (w : Nat) (o : Nat) (w2 : Nat) (q : Nat) (ho : tp_r L K 7 (n) w o) (hq : tp_r L K 7 (n) w2 q) (hn : n ≤ 60) : Met l yX6_copyFrom (tl_w yX6_copyFrom cX6_copyFrom 2 none) ({ frames := 1, cells := 0, slots := 0, locals := 40 }) (va_Pc [.ref o, .ref q] (tp_P D cy L K Γ f sz)) (va_Qv (fun (u : Nat → va_E) => True) (tp_B D cy L K (tm_cT Γ n w w2) f [7, 8]) (tp_A L sz)) 0 0 (tp_A L sz) := by
  refine Met.ofW (cc := cX6_copyFrom) (maxL := 2) (ret := none) (by decide) rfl ?_
  intro p e s m args below meth c s₁ B hml hv
  obtain ⟨rfl, hsz, hP, hK, hL, hI, hN, hU⟩ := hv
  have hx := B.exec
  have hb := B.bytes
  have hr := B.returns
  have hta := tl_hta (atoms_spec (ws := tl_w yX6_copyFrom cX6_copyFrom 2 none) B.pre)
  have hown : s.vm.findClass RX6 = some m.cls := findClass_of_methodNamed B.named
  have hlocks := B.notSynchronized
  subst hsz
  have hI0 := hI
  generalize hAe : tp_A L s.heap.size = A
  have hA : ∀ q : Nat, s.heap.size ≤ q → A q := fun q h => by rw [← hAe]; exact Or.inr h
  have hAL : ∀ q ∈ L, A q := fun q h => by rw [← hAe]; exact Or.inl h
  have hAf : ∀ (H : Heap), s.heap.size ≤ H.size → ∀ q, tp_A L H.size q → A q := fun H h q hq => hq.elim (hAL q) (fun h2 => hA q (Nat.le_trans h h2))
  have hS : va_S A s.heap s.heap [] := va_S.rf
  have hD : va_D A (va_pl L f) := tp_D hL hAL
  have hfr : ∀ b, (K b).1 ∉ ([7, 8] : List Nat) → f b = f b := fun _ _ => rfl
  have hl := lv_entry ([.ref o, .ref q]) (n := 2) (Nat.le_of_ble_eq_true rfl)
  rw [lg_entry_eq]
  generalize (lg_sl ([.ref o, .ref q]) ++ List.replicate (2 - (lg_sl ([.ref o, .ref q])).length) Slot.unset).toArray = ls at hl ⊢
  have hl : lv_has ls 2 [(0, .ref o), (1, .ref q)] := hl
  have hnn : (nI (4 * n)).toInt = ((4 * n : Nat) : Int) := nI_toInt (by omega)
  refine lv_aload_n hx hb dX6_copyFrom_0 rfl (lv_at hl 0 rfl) ?_
  refine lv_aload_n hx hb dX6_copyFrom_1 rfl (lv_at hl 0 rfl) ?_
  obtain ⟨x_2, x_3, x_4, hf_1, hx_2, hx_3, hx_4⟩ := (show tp_o_TABLE L K (n) w (Γ (7, n, w)) (f o) from hI.at ho)
  refine tp_get (cy := cy) (ci := 6) (v := .int x_2) (C := RX6) (T := TX6) (N := 3) hx hb hta inlX6 hown hK hP ho.1 hf_1 rfl 0 (by decide) (hta _ wk_85) (fun _ h9 => h9) rfl dX6_copyFrom_2 ?_
  refine lv_aload_n hx hb dX6_copyFrom_5 rfl (lv_at hl 1 rfl) ?_
  obtain ⟨x_6, x_7, x_8, hf_5, hx_6, hx_7, hx_8⟩ := (show tp_o_TABLE L K (n) w2 (Γ (7, n, w2)) (f q) from hI.at hq)
  refine tp_get (cy := cy) (ci := 6) (v := .int x_8) (C := RX6) (T := TX6) (N := 3) hx hb hta inlX6 hown hK hP hq.1 hf_5 rfl 2 (by decide) (hta _ wk_266) (fun _ h9 => h9) rfl dX6_copyFrom_6 ?_
  refine va_mmin hx hb (by rw [hml]; exact hl.1.symm) hown (hta _ wk_1514) (hta _ wk_770) (hta _ wk_83) (hta _ wk_771) (Nat.le_of_ble_eq_true rfl) (Nat.le_of_ble_eq_true rfl) (Nat.le_of_ble_eq_true rfl) (Nat.le_of_ble_eq_true rfl) dX6_copyFrom_9 ?_
  refine lv_topi (fun z_9 ez_9 => ?_)
  have iz_9 : (z_9.toInt = x_8.toInt ∧ x_8.toInt ≤ x_2.toInt) ∨ (z_9.toInt = x_2.toInt ∧ x_2.toInt ≤ x_8.toInt) := by rw [ez_9]; exact tl_minF
  obtain ⟨Γ_10, eΓ_10⟩ : ∃ y : tk_G, y = tg Γ (7, n, w) 0 (Γ (7, n, w2) 0) := ⟨_, rfl⟩
  have hI9 : tp_I cy L K Γ_10 (va_up f o (.inr (6, [.int x_2, .ref x_3, .int z_9]))) := by rw [eΓ_10]; exact hI.setg hU rfl ho (show tp_o_TABLE L K (n) w (tgu (Γ (7, n, w)) 0 (Γ (7, n, w2) 0)) _ from ⟨x_2, x_3, z_9, rfl, (show x_2.toInt = (n) from by omega), hx_3, (show 0 ≤ z_9.toInt ∧ z_9.toInt ≤ (n) ∧ z_9.toInt = (tgu (Γ (7, n, w)) 0 (Γ (7, n, w2) 0)) 0 from by rw [tgu_s]; omega)⟩)
  have sΓ_10 : Γ_10 (7, n, w) 0 = Γ (7, n, w2) 0 := by rw [eΓ_10]; exact tg_s
  have hfr9 : ∀ b, (K b).1 ∉ ([7, 8] : List Nat) → va_up f o (.inr (6, [.int x_2, .ref x_3, .int z_9])) b = f b := tp_fr hfr ho (by decide)
  refine tp_put (cy := cy) (ci := 6) (v := .int z_9) (ty := tyX6 2) (C := RX6) (T := TX6) (N := 3) hx hb hta inlX6 tyX6 tyX6_ok nmX6 hown hK hP hD hS ho.1 hf_1 rfl 2 (by decide) (hta _ wk_266) (fun _ h9 => h9) rfl (tyX6_ok 2 (by decide)) rfl rfl (Nat.le_of_ble_eq_true rfl) dX6_copyFrom_12 (fun H locs hP hD hS => ?_)
  have hP : va_P D vwCl (va_pl L (va_up f o (.inr (6, [.int x_2, .ref x_3, .int z_9])))) H := hP
  generalize hfe : va_up f o (.inr (6, [.int x_2, .ref x_3, .int z_9])) = f_11 at hP hI9 hfr9
  have hD : va_D A (va_pl L f_11) := tp_D hL hAL
  have hf_12 : f_11 o = .inr (6, [.int x_2, .ref x_3, .int z_9]) := by rw [← hfe]; exact va_up_self _ _ _
  clear hfe
  have hI := hI9
  have hfr := hfr9
  clear hI9 hfr9
  refine lv_aload_n hx hb dX6_copyFrom_15 rfl (lv_at hl 1 rfl) ?_
  obtain ⟨x_14, x_15, x_16, hf_13, hx_14, hx_15, hx_16⟩ := (show tp_o_TABLE L K (n) w2 (Γ_10 (7, n, w2)) (f_11 q) from hI.at hq)
  refine tp_get (cy := cy) (ci := 6) (v := .ref x_15) (C := RX6) (T := TX6) (N := 3) hx hb hta inlX6 hown hK hP hq.1 hf_13 rfl 1 (by decide) (hta _ wk_86) (fun _ h9 => h9) rfl dX6_copyFrom_16 ?_
  refine lv_iconst (v := 0) hx hb dX6_copyFrom_19 (by decide) ?_
  refine lv_aload_n hx hb dX6_copyFrom_20 rfl (lv_at hl 0 rfl) ?_
  refine tp_get (cy := cy) (ci := 6) (v := .ref x_3) (C := RX6) (T := TX6) (N := 3) hx hb hta inlX6 hown hK hP ho.1 hf_12 rfl 1 (by decide) (hta _ wk_86) (fun _ h9 => h9) rfl dX6_copyFrom_21 ?_
  refine lv_iconst (v := 0) hx hb dX6_copyFrom_24 (by decide) ?_
  refine lv_aload_n hx hb dX6_copyFrom_25 rfl (lv_at hl 0 rfl) ?_
  refine tp_get (cy := cy) (ci := 6) (v := .ref x_3) (C := RX6) (T := TX6) (N := 3) hx hb hta inlX6 hown hK hP ho.1 hf_12 rfl 1 (by decide) (hta _ wk_86) (fun _ h9 => h9) rfl dX6_copyFrom_26 ?_
  obtain ⟨g_18, hf_17, hg_19⟩ := (show tp_gi cy (4 * n) (Γ_10 (8, 4 * n, w)) (f_11 x_3) from hI.at hx_3)
  refine tp_alen (cy := cy) (t0 := 0) (v := nI (4 * n)) hx hb hK hP hx_3.1 rfl hf_17 rfl dX6_copyFrom_29 ?_
  refine lv_aload_n hx hb dX6_copyFrom_30 rfl (lv_at hl 1 rfl) ?_
  refine tp_get (cy := cy) (ci := 6) (v := .ref x_15) (C := RX6) (T := TX6) (N := 3) hx hb hta inlX6 hown hK hP hq.1 hf_13 rfl 1 (by decide) (hta _ wk_86) (fun _ h9 => h9) rfl dX6_copyFrom_31 ?_
  obtain ⟨g_21, hf_20, hg_22⟩ := (show tp_gi cy (4 * n) (Γ_10 (8, 4 * n, w2)) (f_11 x_15) from hI.at hx_15)
  refine tp_alen (cy := cy) (t0 := 0) (v := nI (4 * n)) hx hb hK hP hx_15.1 rfl hf_20 rfl dX6_copyFrom_34 ?_
  refine va_mmin hx hb (by rw [hml]; exact hl.1.symm) hown (hta _ wk_1514) (hta _ wk_770) (hta _ wk_83) (hta _ wk_771) (Nat.le_of_ble_eq_true rfl) (Nat.le_of_ble_eq_true rfl) (Nat.le_of_ble_eq_true rfl) (Nat.le_of_ble_eq_true rfl) dX6_copyFrom_35 ?_
  refine lv_topi (fun z_23 ez_23 => ?_)
  have iz_23 : (z_23.toInt = (nI (4 * n)).toInt ∧ (nI (4 * n)).toInt ≤ (nI (4 * n)).toInt) ∨ (z_23.toInt = (nI (4 * n)).toInt ∧ (nI (4 * n)).toInt ≤ (nI (4 * n)).toInt) := by rw [ez_23]; exact tl_minF
  obtain ⟨Γ_24, eΓ_24⟩ : ∃ y : tk_G, y = tgc Γ_10 (8, 4 * n, w) (Γ_10 (8, 4 * n, w2)) := ⟨_, rfl⟩
  have hI9 : tp_I cy L K Γ_24 (va_up f_11 x_3 (.inl (cy 0, 4 * n, .inl (va_cpy g_21 g_18 0 0 (4 * n))))) := by rw [eΓ_24]; exact hI.setG hU rfl hx_3 (show tp_gi cy (4 * n) (Γ_10 (8, 4 * n, w2)) _ from ⟨_, rfl, tp_gi_cpy hg_22⟩)
  have hfr9 : ∀ b, (K b).1 ∉ ([7, 8] : List Nat) → va_up f_11 x_3 (.inl (cy 0, 4 * n, .inl (va_cpy g_21 g_18 0 0 (4 * n)))) b = f b := tp_fr hfr hx_3 (by decide)
  refine tp_copyi (cy := cy) hx hb (by rw [hml]; exact hl.1.symm) hown (hta _ wk_1515) (hta _ wk_1504) (hta _ wk_1505) (hta _ wk_1506) hK hP hD hS hx_15.1 hx_3.1 hf_20 hf_17 (k := z_23) (by omega) (Nat.le_of_ble_eq_true rfl) (Nat.le_of_ble_eq_true rfl) dX6_copyFrom_38 (fun H locs hP hD hS => ?_)
  have hP : va_P D vwCl (va_pl L (va_up f_11 x_3 (.inl (cy 0, 4 * n, .inl (va_cpy g_21 g_18 0 0 (4 * n)))))) H := hP
  generalize hfe : va_up f_11 x_3 (.inl (cy 0, 4 * n, .inl (va_cpy g_21 g_18 0 0 (4 * n)))) = f_25 at hP hI9 hfr9
  have hD : va_D A (va_pl L f_25) := tp_D hL hAL
  have hf_26 : f_25 x_3 = .inl (cy 0, 4 * n, .inl (va_cpy g_21 g_18 0 0 (4 * n))) := by rw [← hfe]; exact va_up_self _ _ _
  clear hfe
  have hI := hI9
  have hfr := hfr9
  clear hI9 hfr9
  have hG9 : Γ_24 = tm_cT Γ n w w2 := (by rw [eΓ_24, eΓ_10, tg_rf (by decide)]; rfl)
  exact W.vret hx hb hr (fun t ht hW => ⟨⟨f_25, rfl, trivial, by rw [ht]; exact hP, (by rw [← hG9]; exact hI), hfr⟩, hS.F ht⟩) hS.2.2 dX6_copyFrom_41
set_option maxHeartbeats 4000000 in
set_option maxRecDepth 100000 in
theorem th_has (l : Launch) (D : va_G) (cy : Nat → ClassId) (sz : Nat) (L : List Nat) (K : Nat → tk_K) (Γ : tk_G) (f : Nat → va_E) (n : Nat) (w : Nat) (o : Nat) (p0 : Int32) (ho : tp_r L K 9 (n) w o) (hn : n ≤ 60) : Met l yX6_has (tl_w yX6_has cX6_has 2 (some .boolean)) ({ frames := 0, cells := 0, slots := 0, locals := 0 }) (va_Pc [.ref o, .int p0] (tp_P D cy L K Γ f sz)) (vp_Si (fun r : Int32 => tl_J r (0 ≤ p0.toInt ∧ p0.toInt < n))) 0 0 (fun _ => False) := by
  refine Met.ofW (cc := cX6_has) (maxL := 2) (ret := (some .boolean)) (by decide) rfl ?_
  intro p e s m args below meth c s₁ B hml hv
  obtain ⟨rfl, hsz, hP, hK, hL, hI, hN, hU⟩ := hv
  have hx := B.exec
  have hb := B.bytes
  have hr := B.returns
  have hta := tl_hta (atoms_spec (ws := tl_w yX6_has cX6_has 2 (some .boolean)) B.pre)
  have hown : s.vm.findClass RX6 = some m.cls := findClass_of_methodNamed B.named
  have hlocks := B.notSynchronized
  subst hsz
  have hI0 := hI
  have hl := lv_entry ([.ref o, .int p0]) (n := 2) (Nat.le_of_ble_eq_true rfl)
  rw [lg_entry_eq]
  generalize (lg_sl ([.ref o, .int p0]) ++ List.replicate (2 - (lg_sl ([.ref o, .int p0])).length) Slot.unset).toArray = ls at hl ⊢
  have hl : lv_has ls 2 [(0, .ref o), (1, .int p0)] := hl
  refine lv_iload_n hx hb dX6_has_0 rfl (lv_at hl 1 rfl) ?_
  refine lv_if_lt (tgt := 16) hx hb dX6_has_1 (by decide) (fun c_1 => ?_) (fun c_1 => ?_)
  · have c_1 : p0.toInt < (0 : Int) := tl_lt c_1
    refine lv_iconst (v := 0) hx hb dX6_has_16 (by decide) ?_
    exact W.zret (ty := .boolean) (v := 0) hx hb hr rfl (fun t ht hW => ⟨_, rfl, (Or.inr rfl), ht⟩) (fun q h => by cases h) dX6_has_17
  · have c_1 : (0 : Int) ≤ p0.toInt := tl_nlt c_1
    refine lv_iload_n hx hb dX6_has_4 rfl (lv_at hl 1 rfl) ?_
    refine lv_aload_n hx hb dX6_has_5 rfl (lv_at hl 0 rfl) ?_
    obtain ⟨x_3, x_4, x_5, hf_2, hx_3, hx_4, hx_5⟩ := (show tp_o_HTABLE L K (n) w (Γ (9, n, w)) (f o) from hI0.at ho)
    refine tp_get (cy := cy) (ci := 6) (v := .int x_5) (C := RX6) (T := TX6) (N := 3) hx hb hta inlX6 hown hK hP ho.1 hf_2 rfl 2 (by decide) (hta _ wk_266) (fun _ h9 => h9) rfl dX6_has_6 ?_
    refine lv_icmp_ge (tgt := 16) hx hb dX6_has_9 (by decide) (fun c_6 => ?_) (fun c_6 => ?_)
    · have c_6 : x_5.toInt ≤ p0.toInt := tl_le c_6
      refine lv_iconst (v := 0) hx hb dX6_has_16 (by decide) ?_
      exact W.zret (ty := .boolean) (v := 0) hx hb hr rfl (fun t ht hW => ⟨_, rfl, (Or.inr rfl), ht⟩) (fun q h => by cases h) dX6_has_17
    · have c_6 : p0.toInt < x_5.toInt := tl_nle c_6
      refine lv_iconst (v := 1) hx hb dX6_has_12 (by decide) ?_
      refine lv_goto (tgt := 17) hx hb dX6_has_13 (by decide) ?_
      exact W.zret (ty := .boolean) (v := 1) hx hb hr rfl (fun t ht hW => ⟨_, rfl, (Or.inl ⟨rfl, by omega⟩), ht⟩) (fun q h => by cases h) dX6_has_17
set_option maxHeartbeats 4000000 in
set_option maxRecDepth 100000 in
theorem th_cell (l : Launch) (D : va_G) (cy : Nat → ClassId) (sz : Nat) (L : List Nat) (K : Nat → tk_K) (Γ : tk_G) (f : Nat → va_E) (n : Nat) (w : Nat) (o : Nat) (p0 : Int32) (p1 : Int32) (ho : tp_r L K 9 (n) w o) (hn : n ≤ 60) : Met l yX6_cell (tl_w yX6_cell cX6_cell 4 (some .int)) ({ frames := 0, cells := 0, slots := 0, locals := 0 }) (va_Pc [.ref o, .int p0, .int p1] (tp_P D cy L K Γ f sz)) (vp_Si (fun r : Int32 => True)) 0 0 (fun _ => False) := by
  refine Met.ofW (cc := cX6_cell) (maxL := 4) (ret := (some .int)) (by decide) rfl ?_
  intro p e s m args below meth c s₁ B hml hv
  obtain ⟨rfl, hsz, hP, hK, hL, hI, hN, hU⟩ := hv
  have hx := B.exec
  have hb := B.bytes
  have hr := B.returns
  have hta := tl_hta (atoms_spec (ws := tl_w yX6_cell cX6_cell 4 (some .int)) B.pre)
  have hown : s.vm.findClass RX6 = some m.cls := findClass_of_methodNamed B.named
  have hlocks := B.notSynchronized
  subst hsz
  have hI0 := hI
  have hl := lv_entry ([.ref o, .int p0, .int p1]) (n := 4) (Nat.le_of_ble_eq_true rfl)
  rw [lg_entry_eq]
  generalize (lg_sl ([.ref o, .int p0, .int p1]) ++ List.replicate (4 - (lg_sl ([.ref o, .int p0, .int p1])).length) Slot.unset).toArray = ls at hl ⊢
  have hl : lv_has ls 4 [(0, .ref o), (1, .int p0), (2, .int p1)] := hl
  refine lv_iload_n hx hb dX6_cell_0 rfl (lv_at hl 1 rfl) ?_
  refine lv_if_lt (tgt := 25) hx hb dX6_cell_1 (by decide) (fun c_1 => ?_) (fun c_1 => ?_)
  · have c_1 : p0.toInt < (0 : Int) := tl_lt c_1
    refine lv_iconst (v := 0) hx hb dX6_cell_25 (by decide) ?_
    refine lv_istore_n (lv' := [(3, .int 0), (0, .ref o), (1, .int p0), (2, .int p1)]) hx hb dX6_cell_26 rfl hl (by decide) rfl (fun ls hl => ?_)
    refine lv_iload_n hx hb dX6_cell_27 rfl (lv_at hl 0 rfl) ?_
    refine lv_if_eq (tgt := 44) hx hb dX6_cell_28 (by decide) (fun _ => ?_) (fun c => absurd c (by decide))
    refine lv_iconst (v := 0) hx hb dX6_cell_44 (by decide) ?_
    exact W.iret (v := 0) hx hb hr (fun t ht hW => ⟨_, rfl, trivial, ht⟩) (fun q h => by cases h) dX6_cell_45
  · have c_1 : (0 : Int) ≤ p0.toInt := tl_nlt c_1
    refine lv_iload_n hx hb dX6_cell_4 rfl (lv_at hl 1 rfl) ?_
    refine lv_aload_n hx hb dX6_cell_5 rfl (lv_at hl 0 rfl) ?_
    obtain ⟨x_3, x_4, x_5, hf_2, hx_3, hx_4, hx_5⟩ := (show tp_o_HTABLE L K (n) w (Γ (9, n, w)) (f o) from hI0.at ho)
    refine tp_get (cy := cy) (ci := 6) (v := .int x_5) (C := RX6) (T := TX6) (N := 3) hx hb hta inlX6 hown hK hP ho.1 hf_2 rfl 2 (by decide) (hta _ wk_266) (fun _ h9 => h9) rfl dX6_cell_6 ?_
    refine lv_icmp_ge (tgt := 25) hx hb dX6_cell_9 (by decide) (fun c_6 => ?_) (fun c_6 => ?_)
    · have c_6 : x_5.toInt ≤ p0.toInt := tl_le c_6
      refine lv_iconst (v := 0) hx hb dX6_cell_25 (by decide) ?_
      refine lv_istore_n (lv' := [(3, .int 0), (0, .ref o), (1, .int p0), (2, .int p1)]) hx hb dX6_cell_26 rfl hl (by decide) rfl (fun ls hl => ?_)
      refine lv_iload_n hx hb dX6_cell_27 rfl (lv_at hl 0 rfl) ?_
      refine lv_if_eq (tgt := 44) hx hb dX6_cell_28 (by decide) (fun _ => ?_) (fun c => absurd c (by decide))
      refine lv_iconst (v := 0) hx hb dX6_cell_44 (by decide) ?_
      exact W.iret (v := 0) hx hb hr (fun t ht hW => ⟨_, rfl, trivial, ht⟩) (fun q h => by cases h) dX6_cell_45
    · have c_6 : p0.toInt < x_5.toInt := tl_nle c_6
      refine lv_iload_n hx hb dX6_cell_12 rfl (lv_at hl 2 rfl) ?_
      refine lv_if_lt (tgt := 25) hx hb dX6_cell_13 (by decide) (fun c_7 => ?_) (fun c_7 => ?_)
      · have c_7 : p1.toInt < (0 : Int) := tl_lt c_7
        refine lv_iconst (v := 0) hx hb dX6_cell_25 (by decide) ?_
        refine lv_istore_n (lv' := [(3, .int 0), (0, .ref o), (1, .int p0), (2, .int p1)]) hx hb dX6_cell_26 rfl hl (by decide) rfl (fun ls hl => ?_)
        refine lv_iload_n hx hb dX6_cell_27 rfl (lv_at hl 0 rfl) ?_
        refine lv_if_eq (tgt := 44) hx hb dX6_cell_28 (by decide) (fun _ => ?_) (fun c => absurd c (by decide))
        refine lv_iconst (v := 0) hx hb dX6_cell_44 (by decide) ?_
        exact W.iret (v := 0) hx hb hr (fun t ht hW => ⟨_, rfl, trivial, ht⟩) (fun q h => by cases h) dX6_cell_45
      · have c_7 : (0 : Int) ≤ p1.toInt := tl_nlt c_7
        refine lv_iload_n hx hb dX6_cell_16 rfl (lv_at hl 2 rfl) ?_
        refine lv_iconst (v := 4) hx hb dX6_cell_17 (by decide) ?_
        refine lv_icmp_ge (tgt := 25) hx hb dX6_cell_18 (by decide) (fun c_8 => ?_) (fun c_8 => ?_)
        · have c_8 : (4 : Int) ≤ p1.toInt := tl_le c_8
          refine lv_iconst (v := 0) hx hb dX6_cell_25 (by decide) ?_
          refine lv_istore_n (lv' := [(3, .int 0), (0, .ref o), (1, .int p0), (2, .int p1)]) hx hb dX6_cell_26 rfl hl (by decide) rfl (fun ls hl => ?_)
          refine lv_iload_n hx hb dX6_cell_27 rfl (lv_at hl 0 rfl) ?_
          refine lv_if_eq (tgt := 44) hx hb dX6_cell_28 (by decide) (fun _ => ?_) (fun c => absurd c (by decide))
          refine lv_iconst (v := 0) hx hb dX6_cell_44 (by decide) ?_
          exact W.iret (v := 0) hx hb hr (fun t ht hW => ⟨_, rfl, trivial, ht⟩) (fun q h => by cases h) dX6_cell_45
        · have c_8 : p1.toInt < (4 : Int) := tl_nle c_8
          refine lv_iconst (v := 1) hx hb dX6_cell_21 (by decide) ?_
          refine lv_goto (tgt := 26) hx hb dX6_cell_22 (by decide) ?_
          refine lv_istore_n (lv' := [(3, .int 1), (0, .ref o), (1, .int p0), (2, .int p1)]) hx hb dX6_cell_26 rfl hl (by decide) rfl (fun ls hl => ?_)
          refine lv_iload_n hx hb dX6_cell_27 rfl (lv_at hl 0 rfl) ?_
          refine lv_if_eq (tgt := 44) hx hb dX6_cell_28 (by decide) (fun c => absurd c (by decide)) (fun _ => ?_)
          refine lv_aload_n hx hb dX6_cell_31 rfl (lv_at hl 1 rfl) ?_
          refine tp_get (cy := cy) (ci := 6) (v := .ref x_4) (C := RX6) (T := TX6) (N := 3) hx hb hta inlX6 hown hK hP ho.1 hf_2 rfl 1 (by decide) (hta _ wk_86) (fun _ h9 => h9) rfl dX6_cell_32 ?_
          refine lv_iload_n hx hb dX6_cell_35 rfl (lv_at hl 2 rfl) ?_
          refine lv_iconst (v := 4) hx hb dX6_cell_36 (by decide) ?_
          refine lv_imul hx hb dX6_cell_37 ?_
          refine lv_topi (fun z_9 ez_9 => ?_)
          try have iz_9 : z_9.toInt = p0.toInt * (4 : Int) := by rw [ez_9]; exact tl_mulN p0 4 rfl rfl (by omega) (by omega)
          refine lv_iload_n hx hb dX6_cell_38 rfl (lv_at hl 3 rfl) ?_
          refine lv_iadd hx hb dX6_cell_39 ?_
          refine lv_topi (fun z_10 ez_10 => ?_)
          try have iz_10 : z_10.toInt = z_9.toInt + p1.toInt := by rw [ez_10]; exact tl_addN z_9 p1 rfl rfl (by omega) (by omega)
          obtain ⟨g_12, hf_11, hg_13⟩ := (show tp_ai cy 10 (4 * n) (f x_4) from hI0.at hx_4)
          have hn_14 : vp_in z_10 (4 * n) := tl_in (by omega) (by omega)
          refine tp_iald (cy := cy) hx hb hK hP hx_4.1 hf_11 hn_14 dX6_cell_40 ?_
          refine lv_topi (fun z_15 ez_15 => ?_)
          refine lv_goto (tgt := 45) hx hb dX6_cell_41 (by decide) ?_
          exact W.iret (v := z_15) hx hb hr (fun t ht hW => ⟨_, rfl, trivial, ht⟩) (fun q h => by cases h) dX6_cell_45
set_option maxHeartbeats 4000000 in
set_option maxRecDepth 100000 in
theorem th_set (l : Launch) (D : va_G) (cy : Nat → ClassId) (sz : Nat) (L : List Nat) (K : Nat → tk_K) (Γ : tk_G) (f : Nat → va_E) (n : Nat) (w : Nat) (o : Nat) (p0 : Int32) (p1 : Int32) (p2 : Int32) (ho : tp_r L K 9 (n) w o) (hn : n ≤ 60) : Met l yX6_set (tl_w yX6_set cX6_set 4 none) ({ frames := 1, cells := 0, slots := 0, locals := 21 }) (va_Pc [.ref o, .int p0, .int p1, .int p2] (tp_P D cy L K Γ f sz)) (va_Qv (fun (u : Nat → va_E) => True) (tp_B D cy L K Γ f [10]) (tp_A L sz)) 0 0 (tp_A L sz) := by
  refine Met.ofW (cc := cX6_set) (maxL := 4) (ret := none) (by decide) rfl ?_
  intro p e s m args below meth c s₁ B hml hv
  obtain ⟨rfl, hsz, hP, hK, hL, hI, hN, hU⟩ := hv
  have hx := B.exec
  have hb := B.bytes
  have hr := B.returns
  have hta := tl_hta (atoms_spec (ws := tl_w yX6_set cX6_set 4 none) B.pre)
  have hown : s.vm.findClass RX6 = some m.cls := findClass_of_methodNamed B.named
  have hlocks := B.notSynchronized
  subst hsz
  have hI0 := hI
  generalize hAe : tp_A L s.heap.size = A
  have hA : ∀ q : Nat, s.heap.size ≤ q → A q := fun q h => by rw [← hAe]; exact Or.inr h
  have hAL : ∀ q ∈ L, A q := fun q h => by rw [← hAe]; exact Or.inl h
  have hAf : ∀ (H : Heap), s.heap.size ≤ H.size → ∀ q, tp_A L H.size q → A q := fun H h q hq => hq.elim (hAL q) (fun h2 => hA q (Nat.le_trans h h2))
  have hS : va_S A s.heap s.heap [] := va_S.rf
  have hD : va_D A (va_pl L f) := tp_D hL hAL
  have hfr : ∀ b, (K b).1 ∉ ([10] : List Nat) → f b = f b := fun _ _ => rfl
  have hl := lv_entry ([.ref o, .int p0, .int p1, .int p2]) (n := 4) (Nat.le_of_ble_eq_true rfl)
  rw [lg_entry_eq]
  generalize (lg_sl ([.ref o, .int p0, .int p1, .int p2]) ++ List.replicate (4 - (lg_sl ([.ref o, .int p0, .int p1, .int p2])).length) Slot.unset).toArray = ls at hl ⊢
  have hl : lv_has ls 4 [(0, .ref o), (1, .int p0), (2, .int p1), (3, .int p2)] := hl
  refine lv_aload_n hx hb dX6_set_0 rfl (lv_at hl 0 rfl) ?_
  refine lv_iload_n hx hb dX6_set_1 rfl (lv_at hl 1 rfl) ?_
  obtain ⟨x_2, x_3, x_4, hf_1, hx_2, hx_3, hx_4⟩ := (show tp_o_HTABLE L K (n) w (Γ (9, n, w)) (f o) from hI0.at ho)
  refine tl_si (tq_rV (As := [.int p0]) (rest := []) ⟨hx, hb, hml, hown, hta⟩ (tp_P.pre hK hN hL hU hI hP) (tp_recv hK hP ho.1 hf_1 rfl) lk_X6_32 (th_has l D cy s.heap.size L K Γ f n w o p0 ho (by first | omega | (simp only [Int32.toInt_toInt64]; omega) | decide | assumption)) rfl rfl ⟨Nat.le_of_ble_eq_true rfl, Nat.le_of_ble_eq_true rfl⟩ rfl hl.1 rfl (Nat.le_of_ble_eq_true rfl) dX6_set_2 ⟨Nat.le_of_ble_eq_true rfl, Nat.le_of_ble_eq_true rfl⟩) (fun r_6 hw_5 => ?_)
  have hw_5 : tl_J r_6 (0 ≤ p0.toInt ∧ p0.toInt < n) := hw_5
  refine lv_if_eq (tgt := 28) hx hb dX6_set_5 (by decide) (fun c_7 => ?_) (fun c_7 => ?_)
  · have c_7 := c_7
    exact W.vret hx hb hr (fun t ht hW => ⟨⟨f, rfl, trivial, by rw [ht]; exact hP, hI, hfr⟩, hS.F ht⟩) hS.2.2 dX6_set_28
  · have c_7 := hw_5.t c_7
    refine lv_iload_n hx hb dX6_set_8 rfl (lv_at hl 2 rfl) ?_
    refine lv_if_lt (tgt := 28) hx hb dX6_set_9 (by decide) (fun c_8 => ?_) (fun c_8 => ?_)
    · have c_8 : p1.toInt < (0 : Int) := tl_lt c_8
      exact W.vret hx hb hr (fun t ht hW => ⟨⟨f, rfl, trivial, by rw [ht]; exact hP, hI, hfr⟩, hS.F ht⟩) hS.2.2 dX6_set_28
    · have c_8 : (0 : Int) ≤ p1.toInt := tl_nlt c_8
      refine lv_iload_n hx hb dX6_set_12 rfl (lv_at hl 2 rfl) ?_
      refine lv_iconst (v := 4) hx hb dX6_set_13 (by decide) ?_
      refine lv_icmp_ge (tgt := 28) hx hb dX6_set_14 (by decide) (fun c_9 => ?_) (fun c_9 => ?_)
      · have c_9 : (4 : Int) ≤ p1.toInt := tl_le c_9
        exact W.vret hx hb hr (fun t ht hW => ⟨⟨f, rfl, trivial, by rw [ht]; exact hP, hI, hfr⟩, hS.F ht⟩) hS.2.2 dX6_set_28
      · have c_9 : p1.toInt < (4 : Int) := tl_nle c_9
        refine lv_aload_n hx hb dX6_set_17 rfl (lv_at hl 0 rfl) ?_
        refine tp_get (cy := cy) (ci := 6) (v := .ref x_3) (C := RX6) (T := TX6) (N := 3) hx hb hta inlX6 hown hK hP ho.1 hf_1 rfl 1 (by decide) (hta _ wk_86) (fun _ h9 => h9) rfl dX6_set_18 ?_
        refine lv_iload_n hx hb dX6_set_21 rfl (lv_at hl 1 rfl) ?_
        refine lv_iconst (v := 4) hx hb dX6_set_22 (by decide) ?_
        refine lv_imul hx hb dX6_set_23 ?_
        refine lv_topi (fun z_10 ez_10 => ?_)
        try have iz_10 : z_10.toInt = p0.toInt * (4 : Int) := by rw [ez_10]; exact tl_mulN p0 4 rfl rfl (by omega) (by omega)
        refine lv_iload_n hx hb dX6_set_24 rfl (lv_at hl 2 rfl) ?_
        refine lv_iadd hx hb dX6_set_25 ?_
        refine lv_topi (fun z_11 ez_11 => ?_)
        try have iz_11 : z_11.toInt = z_10.toInt + p1.toInt := by rw [ez_11]; exact tl_addN z_10 p1 rfl rfl (by omega) (by omega)
        refine lv_iload_n hx hb dX6_set_26 rfl (lv_at hl 3 rfl) ?_
        obtain ⟨g_13, hf_12, hg_14⟩ := (show tp_ai cy 10 (4 * n) (f x_3) from hI.at hx_3)
        have hn_15 : vp_in z_11 (4 * n) := tl_in (by omega) (by omega)
        have hI9 : tp_I cy L K Γ (va_up f x_3 (.inl (cy 0, 4 * n, .inl (upd g_13 z_11.toNatClampNeg p2)))) := hI.set hx_3 (show tp_ai cy 10 (4 * n) _ from ⟨_, rfl, tp_pi_upd hg_14 trivial⟩)
        have hfr9 : ∀ b, (K b).1 ∉ ([10] : List Nat) → va_up f x_3 (.inl (cy 0, 4 * n, .inl (upd g_13 z_11.toNatClampNeg p2))) b = f b := tp_fr hfr hx_3 (by decide)
        refine tp_iast (cy := cy) hx hb hK hP hD hS hx_3.1 hf_12 hn_15 dX6_set_27 (fun H locs hP hD hS => ?_)
        have hP : va_P D vwCl (va_pl L (va_up f x_3 (.inl (cy 0, 4 * n, .inl (upd g_13 z_11.toNatClampNeg p2))))) H := hP
        generalize hfe : va_up f x_3 (.inl (cy 0, 4 * n, .inl (upd g_13 z_11.toNatClampNeg p2))) = f_16 at hP hI9 hfr9
        have hD : va_D A (va_pl L f_16) := tp_D hL hAL
        have hf_17 : f_16 x_3 = .inl (cy 0, 4 * n, .inl (upd g_13 z_11.toNatClampNeg p2)) := by rw [← hfe]; exact va_up_self _ _ _
        clear hfe
        have hI := hI9
        have hfr := hfr9
        clear hI9 hfr9
        exact W.vret hx hb hr (fun t ht hW => ⟨⟨f_16, rfl, trivial, by rw [ht]; exact hP, hI, hfr⟩, hS.F ht⟩) hS.2.2 dX6_set_28
set_option maxHeartbeats 4000000 in
set_option maxRecDepth 100000 in
theorem th_add (l : Launch) (D : va_G) (cy : Nat → ClassId) (sz : Nat) (L : List Nat) (K : Nat → tk_K) (Γ : tk_G) (f : Nat → va_E) (n : Nat) (w : Nat) (o : Nat) (p0 : Int32) (p1 : Int32) (p2 : Int32) (p3 : Int32) (ho : tp_r L K 9 (n) w o) (hn : n ≤ 60) : Met l yX6_add (tl_w yX6_add cX6_add 6 (some .int)) ({ frames := 2, cells := 0, slots := 0, locals := 44 }) (va_Pc [.ref o, .int p0, .int p1, .int p2, .int p3] (tp_P D cy L K Γ f sz)) (va_Qi (fun (r : Int32) (u : Nat → va_E) => True) (tp_B D cy L K Γ f [9, 10]) (tp_A L sz)) 0 0 (tp_A L sz) := by
  refine Met.ofW (cc := cX6_add) (maxL := 6) (ret := (some .int)) (by decide) rfl ?_
  intro p e s m args below meth c s₁ B hml hv
  obtain ⟨rfl, hsz, hP, hK, hL, hI, hN, hU⟩ := hv
  have hx := B.exec
  have hb := B.bytes
  have hr := B.returns
  have hta := tl_hta (atoms_spec (ws := tl_w yX6_add cX6_add 6 (some .int)) B.pre)
  have hown : s.vm.findClass RX6 = some m.cls := findClass_of_methodNamed B.named
  have hlocks := B.notSynchronized
  subst hsz
  have hI0 := hI
  generalize hAe : tp_A L s.heap.size = A
  have hA : ∀ q : Nat, s.heap.size ≤ q → A q := fun q h => by rw [← hAe]; exact Or.inr h
  have hAL : ∀ q ∈ L, A q := fun q h => by rw [← hAe]; exact Or.inl h
  have hAf : ∀ (H : Heap), s.heap.size ≤ H.size → ∀ q, tp_A L H.size q → A q := fun H h q hq => hq.elim (hAL q) (fun h2 => hA q (Nat.le_trans h h2))
  have hS : va_S A s.heap s.heap [] := va_S.rf
  have hD : va_D A (va_pl L f) := tp_D hL hAL
  have hfr : ∀ b, (K b).1 ∉ ([9, 10] : List Nat) → f b = f b := fun _ _ => rfl
  have hl := lv_entry ([.ref o, .int p0, .int p1, .int p2, .int p3]) (n := 6) (Nat.le_of_ble_eq_true rfl)
  rw [lg_entry_eq]
  generalize (lg_sl ([.ref o, .int p0, .int p1, .int p2, .int p3]) ++ List.replicate (6 - (lg_sl ([.ref o, .int p0, .int p1, .int p2, .int p3])).length) Slot.unset).toArray = ls at hl ⊢
  have hl : lv_has ls 6 [(0, .ref o), (1, .int p0), (2, .int p1), (3, .int p2), (4, .int p3)] := hl
  refine lv_aload_n hx hb dX6_add_0 rfl (lv_at hl 0 rfl) ?_
  obtain ⟨x_2, x_3, x_4, hf_1, hx_2, hx_3, hx_4⟩ := (show tp_o_HTABLE L K (n) w (Γ (9, n, w)) (f o) from hI.at ho)
  refine tp_get (cy := cy) (ci := 6) (v := .int x_4) (C := RX6) (T := TX6) (N := 3) hx hb hta inlX6 hown hK hP ho.1 hf_1 rfl 2 (by decide) (hta _ wk_266) (fun _ h9 => h9) rfl dX6_add_1 ?_
  refine lv_aload_n hx hb dX6_add_4 rfl (lv_at hl 0 rfl) ?_
  refine tp_get (cy := cy) (ci := 6) (v := .int x_2) (C := RX6) (T := TX6) (N := 3) hx hb hta inlX6 hown hK hP ho.1 hf_1 rfl 0 (by decide) (hta _ wk_85) (fun _ h9 => h9) rfl dX6_add_5 ?_
  refine lv_icmp_lt (tgt := 13) hx hb dX6_add_8 (by decide) (fun c_5 => ?_) (fun c_5 => ?_)
  · have c_5 : x_4.toInt < x_2.toInt := tl_lt c_5
    refine lv_aload_n hx hb dX6_add_13 rfl (lv_at hl 0 rfl) ?_
    refine tp_get (cy := cy) (ci := 6) (v := .int x_4) (C := RX6) (T := TX6) (N := 3) hx hb hta inlX6 hown hK hP ho.1 hf_1 rfl 2 (by decide) (hta _ wk_266) (fun _ h9 => h9) rfl dX6_add_14 ?_
    refine lv_istore (lv' := [(5, .int x_4), (0, .ref o), (1, .int p0), (2, .int p1), (3, .int p2), (4, .int p3)]) hx hb dX6_add_17 hl (by decide) rfl (fun ls hl => ?_)
    refine lv_aload_n hx hb dX6_add_19 rfl (lv_at hl 1 rfl) ?_
    refine lv_dup hx hb dX6_add_20 rfl ?_
    refine tp_get (cy := cy) (ci := 6) (v := .int x_4) (C := RX6) (T := TX6) (N := 3) hx hb hta inlX6 hown hK hP ho.1 hf_1 rfl 2 (by decide) (hta _ wk_266) (fun _ h9 => h9) rfl dX6_add_21 ?_
    refine lv_iconst (v := 1) hx hb dX6_add_24 (by decide) ?_
    refine lv_iadd hx hb dX6_add_25 ?_
    refine lv_topi (fun z_6 ez_6 => ?_)
    try have iz_6 : z_6.toInt = x_4.toInt + (1 : Int) := by rw [ez_6]; exact tl_addN x_4 1 rfl rfl (by omega) (by omega)
    have hI9 : tp_I cy L K Γ (va_up f o (.inr (6, [.int x_2, .ref x_3, .int z_6]))) := hI.set ho (show tp_o_HTABLE L K (n) w (Γ (9, n, w)) _ from ⟨x_2, x_3, z_6, rfl, (show x_2.toInt = (n) from by omega), hx_3, (show 0 ≤ z_6.toInt ∧ z_6.toInt ≤ (n) from by omega)⟩)
    have hfr9 : ∀ b, (K b).1 ∉ ([9, 10] : List Nat) → va_up f o (.inr (6, [.int x_2, .ref x_3, .int z_6])) b = f b := tp_fr hfr ho (by decide)
    refine tp_put (cy := cy) (ci := 6) (v := .int z_6) (ty := tyX6 2) (C := RX6) (T := TX6) (N := 3) hx hb hta inlX6 tyX6 tyX6_ok nmX6 hown hK hP hD hS ho.1 hf_1 rfl 2 (by decide) (hta _ wk_266) (fun _ h9 => h9) rfl (tyX6_ok 2 (by decide)) rfl rfl (Nat.le_of_ble_eq_true rfl) dX6_add_26 (fun H locs hP hD hS => ?_)
    have hP : va_P D vwCl (va_pl L (va_up f o (.inr (6, [.int x_2, .ref x_3, .int z_6])))) H := hP
    generalize hfe : va_up f o (.inr (6, [.int x_2, .ref x_3, .int z_6])) = f_7 at hP hI9 hfr9
    have hD : va_D A (va_pl L f_7) := tp_D hL hAL
    have hf_8 : f_7 o = .inr (6, [.int x_2, .ref x_3, .int z_6]) := by rw [← hfe]; exact va_up_self _ _ _
    clear hfe
    have hI := hI9
    have hfr := hfr9
    clear hI9 hfr9
    refine lv_aload_n hx hb dX6_add_29 rfl (lv_at hl 1 rfl) ?_
    refine lv_iload hx hb dX6_add_30 (lv_at hl 0 rfl) ?_
    refine lv_iconst (v := 0) hx hb dX6_add_32 (by decide) ?_
    refine lv_iload_n hx hb dX6_add_33 rfl (lv_at hl 2 rfl) ?_
    refine tq_cv hS (hAf _ hS.1) (tq_rV (As := [.int x_4, .int 0, .int p0]) (rest := []) ⟨hx, hb, hml, hown, hta⟩ (tp_P.pre hK hN hL hU hI hP) (tp_recv hK hP ho.1 hf_8 rfl) lk_X6_28 (th_set l D cy H.size L K Γ f_7 n w o x_4 0 p0 ho (by first | omega | (simp only [Int32.toInt_toInt64]; omega) | decide | assumption)) rfl rfl ⟨Nat.le_of_ble_eq_true rfl, Nat.le_of_ble_eq_true rfl⟩ rfl hl.1 rfl (Nat.le_of_ble_eq_true rfl) dX6_add_34 ⟨Nat.le_of_ble_eq_true rfl, Nat.le_of_ble_eq_true rfl⟩) (fun f_11 H locs hw_9 hP hI hc_12 hS => ?_)
    have hD : va_D A (va_pl L f_11) := tp_D hL hAL
    have hfr := tp_fr2 hfr hc_12 (by decide)
    have hf_13 := (tp_un hc_12 ho (by decide)).trans hf_8
    refine lv_aload_n hx hb dX6_add_37 rfl (lv_at hl 1 rfl) ?_
    refine lv_iload hx hb dX6_add_38 (lv_at hl 0 rfl) ?_
    refine lv_iconst (v := 1) hx hb dX6_add_40 (by decide) ?_
    refine lv_iload_n hx hb dX6_add_41 rfl (lv_at hl 3 rfl) ?_
    refine tq_cv hS (hAf _ hS.1) (tq_rV (As := [.int x_4, .int 1, .int p1]) (rest := []) ⟨hx, hb, hml, hown, hta⟩ (tp_P.pre hK hN hL hU hI hP) (tp_recv hK hP ho.1 hf_13 rfl) lk_X6_28 (th_set l D cy H.size L K Γ f_11 n w o x_4 1 p1 ho (by first | omega | (simp only [Int32.toInt_toInt64]; omega) | decide | assumption)) rfl rfl ⟨Nat.le_of_ble_eq_true rfl, Nat.le_of_ble_eq_true rfl⟩ rfl hl.1 rfl (Nat.le_of_ble_eq_true rfl) dX6_add_42 ⟨Nat.le_of_ble_eq_true rfl, Nat.le_of_ble_eq_true rfl⟩) (fun f_16 H locs hw_14 hP hI hc_17 hS => ?_)
    have hD : va_D A (va_pl L f_16) := tp_D hL hAL
    have hfr := tp_fr2 hfr hc_17 (by decide)
    have hf_18 := (tp_un hc_17 ho (by decide)).trans hf_13
    refine lv_aload_n hx hb dX6_add_45 rfl (lv_at hl 1 rfl) ?_
    refine lv_iload hx hb dX6_add_46 (lv_at hl 0 rfl) ?_
    refine lv_iconst (v := 2) hx hb dX6_add_48 (by decide) ?_
    refine lv_iload_n hx hb dX6_add_49 rfl (lv_at hl 4 rfl) ?_
    refine tq_cv hS (hAf _ hS.1) (tq_rV (As := [.int x_4, .int 2, .int p2]) (rest := []) ⟨hx, hb, hml, hown, hta⟩ (tp_P.pre hK hN hL hU hI hP) (tp_recv hK hP ho.1 hf_18 rfl) lk_X6_28 (th_set l D cy H.size L K Γ f_16 n w o x_4 2 p2 ho (by first | omega | (simp only [Int32.toInt_toInt64]; omega) | decide | assumption)) rfl rfl ⟨Nat.le_of_ble_eq_true rfl, Nat.le_of_ble_eq_true rfl⟩ rfl hl.1 rfl (Nat.le_of_ble_eq_true rfl) dX6_add_50 ⟨Nat.le_of_ble_eq_true rfl, Nat.le_of_ble_eq_true rfl⟩) (fun f_21 H locs hw_19 hP hI hc_22 hS => ?_)
    have hD : va_D A (va_pl L f_21) := tp_D hL hAL
    have hfr := tp_fr2 hfr hc_22 (by decide)
    have hf_23 := (tp_un hc_22 ho (by decide)).trans hf_18
    refine lv_aload_n hx hb dX6_add_53 rfl (lv_at hl 1 rfl) ?_
    refine lv_iload hx hb dX6_add_54 (lv_at hl 0 rfl) ?_
    refine lv_iconst (v := 3) hx hb dX6_add_56 (by decide) ?_
    refine lv_iload hx hb dX6_add_57 (lv_at hl 5 rfl) ?_
    refine tq_cv hS (hAf _ hS.1) (tq_rV (As := [.int x_4, .int 3, .int p3]) (rest := []) ⟨hx, hb, hml, hown, hta⟩ (tp_P.pre hK hN hL hU hI hP) (tp_recv hK hP ho.1 hf_23 rfl) lk_X6_28 (th_set l D cy H.size L K Γ f_21 n w o x_4 3 p3 ho (by first | omega | (simp only [Int32.toInt_toInt64]; omega) | decide | assumption)) rfl rfl ⟨Nat.le_of_ble_eq_true rfl, Nat.le_of_ble_eq_true rfl⟩ rfl hl.1 rfl (Nat.le_of_ble_eq_true rfl) dX6_add_59 ⟨Nat.le_of_ble_eq_true rfl, Nat.le_of_ble_eq_true rfl⟩) (fun f_26 H locs hw_24 hP hI hc_27 hS => ?_)
    have hD : va_D A (va_pl L f_26) := tp_D hL hAL
    have hfr := tp_fr2 hfr hc_27 (by decide)
    have hf_28 := (tp_un hc_27 ho (by decide)).trans hf_23
    refine lv_iload hx hb dX6_add_62 (lv_at hl 0 rfl) ?_
    exact W.iret (v := x_4) hx hb hr (fun t ht hW => ⟨⟨_, f_26, rfl, trivial, by rw [ht]; exact hP, hI, hfr⟩, hS.F ht⟩) hS.2.2 dX6_add_64
  · have c_5 : x_2.toInt ≤ x_4.toInt := tl_nlt c_5
    refine lv_iconst (v := (-1)) hx hb dX6_add_11 (by decide) ?_
    exact W.iret (v := (-1)) hx hb hr (fun t ht hW => ⟨⟨_, f, rfl, trivial, by rw [ht]; exact hP, hI, hfr⟩, hS.F ht⟩) hS.2.2 dX6_add_12
set_option maxHeartbeats 4000000 in
set_option maxRecDepth 100000 in
theorem th_copyFrom (l : Launch) (D : va_G) (cy : Nat → ClassId) (sz : Nat) (L : List Nat) (K : Nat → tk_K) (Γ : tk_G) (f : Nat → va_E) (n : Nat) (w : Nat) (o : Nat) (w2 : Nat) (q : Nat) (ho : tp_r L K 9 (n) w o) (hq : tp_r L K 9 (n) w2 q) (hn : n ≤ 60) : Met l yX6_copyFrom (tl_w yX6_copyFrom cX6_copyFrom 2 none) ({ frames := 1, cells := 0, slots := 0, locals := 40 }) (va_Pc [.ref o, .ref q] (tp_P D cy L K Γ f sz)) (va_Qv (fun (u : Nat → va_E) => True) (tp_B D cy L K Γ f [9, 10]) (tp_A L sz)) 0 0 (tp_A L sz) := by
  refine Met.ofW (cc := cX6_copyFrom) (maxL := 2) (ret := none) (by decide) rfl ?_
  intro p e s m args below meth c s₁ B hml hv
  obtain ⟨rfl, hsz, hP, hK, hL, hI, hN, hU⟩ := hv
  have hx := B.exec
  have hb := B.bytes
  have hr := B.returns
  have hta := tl_hta (atoms_spec (ws := tl_w yX6_copyFrom cX6_copyFrom 2 none) B.pre)
  have hown : s.vm.findClass RX6 = some m.cls := findClass_of_methodNamed B.named
  have hlocks := B.notSynchronized
  subst hsz
  have hI0 := hI
  generalize hAe : tp_A L s.heap.size = A
  have hA : ∀ q : Nat, s.heap.size ≤ q → A q := fun q h => by rw [← hAe]; exact Or.inr h
  have hAL : ∀ q ∈ L, A q := fun q h => by rw [← hAe]; exact Or.inl h
  have hAf : ∀ (H : Heap), s.heap.size ≤ H.size → ∀ q, tp_A L H.size q → A q := fun H h q hq => hq.elim (hAL q) (fun h2 => hA q (Nat.le_trans h h2))
  have hS : va_S A s.heap s.heap [] := va_S.rf
  have hD : va_D A (va_pl L f) := tp_D hL hAL
  have hfr : ∀ b, (K b).1 ∉ ([9, 10] : List Nat) → f b = f b := fun _ _ => rfl
  have hl := lv_entry ([.ref o, .ref q]) (n := 2) (Nat.le_of_ble_eq_true rfl)
  rw [lg_entry_eq]
  generalize (lg_sl ([.ref o, .ref q]) ++ List.replicate (2 - (lg_sl ([.ref o, .ref q])).length) Slot.unset).toArray = ls at hl ⊢
  have hl : lv_has ls 2 [(0, .ref o), (1, .ref q)] := hl
  have hnn : (nI (4 * n)).toInt = ((4 * n : Nat) : Int) := nI_toInt (by omega)
  refine lv_aload_n hx hb dX6_copyFrom_0 rfl (lv_at hl 0 rfl) ?_
  refine lv_aload_n hx hb dX6_copyFrom_1 rfl (lv_at hl 0 rfl) ?_
  obtain ⟨x_2, x_3, x_4, hf_1, hx_2, hx_3, hx_4⟩ := (show tp_o_HTABLE L K (n) w (Γ (9, n, w)) (f o) from hI.at ho)
  refine tp_get (cy := cy) (ci := 6) (v := .int x_2) (C := RX6) (T := TX6) (N := 3) hx hb hta inlX6 hown hK hP ho.1 hf_1 rfl 0 (by decide) (hta _ wk_85) (fun _ h9 => h9) rfl dX6_copyFrom_2 ?_
  refine lv_aload_n hx hb dX6_copyFrom_5 rfl (lv_at hl 1 rfl) ?_
  obtain ⟨x_6, x_7, x_8, hf_5, hx_6, hx_7, hx_8⟩ := (show tp_o_HTABLE L K (n) w2 (Γ (9, n, w2)) (f q) from hI.at hq)
  refine tp_get (cy := cy) (ci := 6) (v := .int x_8) (C := RX6) (T := TX6) (N := 3) hx hb hta inlX6 hown hK hP hq.1 hf_5 rfl 2 (by decide) (hta _ wk_266) (fun _ h9 => h9) rfl dX6_copyFrom_6 ?_
  refine va_mmin hx hb (by rw [hml]; exact hl.1.symm) hown (hta _ wk_1514) (hta _ wk_770) (hta _ wk_83) (hta _ wk_771) (Nat.le_of_ble_eq_true rfl) (Nat.le_of_ble_eq_true rfl) (Nat.le_of_ble_eq_true rfl) (Nat.le_of_ble_eq_true rfl) dX6_copyFrom_9 ?_
  refine lv_topi (fun z_9 ez_9 => ?_)
  have iz_9 : (z_9.toInt = x_8.toInt ∧ x_8.toInt ≤ x_2.toInt) ∨ (z_9.toInt = x_2.toInt ∧ x_2.toInt ≤ x_8.toInt) := by rw [ez_9]; exact tl_minF
  have hI9 : tp_I cy L K Γ (va_up f o (.inr (6, [.int x_2, .ref x_3, .int z_9]))) := hI.set ho (show tp_o_HTABLE L K (n) w (Γ (9, n, w)) _ from ⟨x_2, x_3, z_9, rfl, (show x_2.toInt = (n) from by omega), hx_3, (show 0 ≤ z_9.toInt ∧ z_9.toInt ≤ (n) from by omega)⟩)
  have hfr9 : ∀ b, (K b).1 ∉ ([9, 10] : List Nat) → va_up f o (.inr (6, [.int x_2, .ref x_3, .int z_9])) b = f b := tp_fr hfr ho (by decide)
  refine tp_put (cy := cy) (ci := 6) (v := .int z_9) (ty := tyX6 2) (C := RX6) (T := TX6) (N := 3) hx hb hta inlX6 tyX6 tyX6_ok nmX6 hown hK hP hD hS ho.1 hf_1 rfl 2 (by decide) (hta _ wk_266) (fun _ h9 => h9) rfl (tyX6_ok 2 (by decide)) rfl rfl (Nat.le_of_ble_eq_true rfl) dX6_copyFrom_12 (fun H locs hP hD hS => ?_)
  have hP : va_P D vwCl (va_pl L (va_up f o (.inr (6, [.int x_2, .ref x_3, .int z_9])))) H := hP
  generalize hfe : va_up f o (.inr (6, [.int x_2, .ref x_3, .int z_9])) = f_10 at hP hI9 hfr9
  have hD : va_D A (va_pl L f_10) := tp_D hL hAL
  have hf_11 : f_10 o = .inr (6, [.int x_2, .ref x_3, .int z_9]) := by rw [← hfe]; exact va_up_self _ _ _
  clear hfe
  have hI := hI9
  have hfr := hfr9
  clear hI9 hfr9
  refine lv_aload_n hx hb dX6_copyFrom_15 rfl (lv_at hl 1 rfl) ?_
  obtain ⟨x_13, x_14, x_15, hf_12, hx_13, hx_14, hx_15⟩ := (show tp_o_HTABLE L K (n) w2 (Γ (9, n, w2)) (f_10 q) from hI.at hq)
  refine tp_get (cy := cy) (ci := 6) (v := .ref x_14) (C := RX6) (T := TX6) (N := 3) hx hb hta inlX6 hown hK hP hq.1 hf_12 rfl 1 (by decide) (hta _ wk_86) (fun _ h9 => h9) rfl dX6_copyFrom_16 ?_
  refine lv_iconst (v := 0) hx hb dX6_copyFrom_19 (by decide) ?_
  refine lv_aload_n hx hb dX6_copyFrom_20 rfl (lv_at hl 0 rfl) ?_
  refine tp_get (cy := cy) (ci := 6) (v := .ref x_3) (C := RX6) (T := TX6) (N := 3) hx hb hta inlX6 hown hK hP ho.1 hf_11 rfl 1 (by decide) (hta _ wk_86) (fun _ h9 => h9) rfl dX6_copyFrom_21 ?_
  refine lv_iconst (v := 0) hx hb dX6_copyFrom_24 (by decide) ?_
  refine lv_aload_n hx hb dX6_copyFrom_25 rfl (lv_at hl 0 rfl) ?_
  refine tp_get (cy := cy) (ci := 6) (v := .ref x_3) (C := RX6) (T := TX6) (N := 3) hx hb hta inlX6 hown hK hP ho.1 hf_11 rfl 1 (by decide) (hta _ wk_86) (fun _ h9 => h9) rfl dX6_copyFrom_26 ?_
  obtain ⟨g_17, hf_16, hg_18⟩ := (show tp_ai cy 10 (4 * n) (f_10 x_3) from hI.at hx_3)
  refine tp_alen (cy := cy) (t0 := 0) (v := nI (4 * n)) hx hb hK hP hx_3.1 rfl hf_16 rfl dX6_copyFrom_29 ?_
  refine lv_aload_n hx hb dX6_copyFrom_30 rfl (lv_at hl 1 rfl) ?_
  refine tp_get (cy := cy) (ci := 6) (v := .ref x_14) (C := RX6) (T := TX6) (N := 3) hx hb hta inlX6 hown hK hP hq.1 hf_12 rfl 1 (by decide) (hta _ wk_86) (fun _ h9 => h9) rfl dX6_copyFrom_31 ?_
  obtain ⟨g_20, hf_19, hg_21⟩ := (show tp_ai cy 10 (4 * n) (f_10 x_14) from hI.at hx_14)
  refine tp_alen (cy := cy) (t0 := 0) (v := nI (4 * n)) hx hb hK hP hx_14.1 rfl hf_19 rfl dX6_copyFrom_34 ?_
  refine va_mmin hx hb (by rw [hml]; exact hl.1.symm) hown (hta _ wk_1514) (hta _ wk_770) (hta _ wk_83) (hta _ wk_771) (Nat.le_of_ble_eq_true rfl) (Nat.le_of_ble_eq_true rfl) (Nat.le_of_ble_eq_true rfl) (Nat.le_of_ble_eq_true rfl) dX6_copyFrom_35 ?_
  refine lv_topi (fun z_22 ez_22 => ?_)
  have iz_22 : (z_22.toInt = (nI (4 * n)).toInt ∧ (nI (4 * n)).toInt ≤ (nI (4 * n)).toInt) ∨ (z_22.toInt = (nI (4 * n)).toInt ∧ (nI (4 * n)).toInt ≤ (nI (4 * n)).toInt) := by rw [ez_22]; exact tl_minF
  have hI9 : tp_I cy L K Γ (va_up f_10 x_3 (.inl (cy 0, 4 * n, .inl (va_cpy g_20 g_17 0 0 (4 * n))))) := hI.set hx_3 (show tp_ai cy 10 (4 * n) _ from ⟨_, rfl, tp_pi_cpy hg_21 hg_18⟩)
  have hfr9 : ∀ b, (K b).1 ∉ ([9, 10] : List Nat) → va_up f_10 x_3 (.inl (cy 0, 4 * n, .inl (va_cpy g_20 g_17 0 0 (4 * n)))) b = f b := tp_fr hfr hx_3 (by decide)
  refine tp_copyi (cy := cy) hx hb (by rw [hml]; exact hl.1.symm) hown (hta _ wk_1515) (hta _ wk_1504) (hta _ wk_1505) (hta _ wk_1506) hK hP hD hS hx_14.1 hx_3.1 hf_19 hf_16 (k := z_22) (by omega) (Nat.le_of_ble_eq_true rfl) (Nat.le_of_ble_eq_true rfl) dX6_copyFrom_38 (fun H locs hP hD hS => ?_)
  have hP : va_P D vwCl (va_pl L (va_up f_10 x_3 (.inl (cy 0, 4 * n, .inl (va_cpy g_20 g_17 0 0 (4 * n)))))) H := hP
  generalize hfe : va_up f_10 x_3 (.inl (cy 0, 4 * n, .inl (va_cpy g_20 g_17 0 0 (4 * n)))) = f_23 at hP hI9 hfr9
  have hD : va_D A (va_pl L f_23) := tp_D hL hAL
  have hf_24 := (show f_23 o = _ from by rw [← hfe, va_up_ne _ _ (tp_ne ho hx_3 (by decide))]).trans hf_11
  have hf_25 := (show f_23 q = _ from by rw [← hfe, va_up_ne _ _ (tp_ne hq hx_3 (by decide))]).trans hf_12
  have hf_26 : f_23 x_3 = .inl (cy 0, 4 * n, .inl (va_cpy g_20 g_17 0 0 (4 * n))) := by rw [← hfe]; exact va_up_self _ _ _
  clear hfe
  have hI := hI9
  have hfr := hfr9
  clear hI9 hfr9
  exact W.vret hx hb hr (fun t ht hW => ⟨⟨f_23, rfl, trivial, by rw [ht]; exact hP, hI, hfr⟩, hS.F ht⟩) hS.2.2 dX6_copyFrom_41
