theorem dX12_isInside_0 : decode cX12_isInside 0 = .ok (.iconst 0, 1) := by decide +kernel
theorem dX12_isInside_1 : decode cX12_isInside 1 = .ok (.istore_n 1, 1) := by decide +kernel
theorem dX12_isInside_2 : decode cX12_isInside 2 = .ok (.iload_n 1, 1) := by decide +kernel
theorem dX12_isInside_3 : decode cX12_isInside 3 = .ok (.aload_n 0, 1) := by decide +kernel
theorem dX12_isInside_4 : decode cX12_isInside 4 = .ok (.getfield 222, 3) := by decide +kernel
theorem dX12_isInside_7 : decode cX12_isInside 7 = .ok (.if_icmp .ge 22, 3) := by decide +kernel
theorem dX12_isInside_10 : decode cX12_isInside 10 = .ok (.aload_n 0, 1) := by decide +kernel
theorem dX12_isInside_11 : decode cX12_isInside 11 = .ok (.getfield 59, 3) := by decide +kernel
theorem dX12_isInside_14 : decode cX12_isInside 14 = .ok (.iload_n 1, 1) := by decide +kernel
theorem dX12_isInside_15 : decode cX12_isInside 15 = .ok (.iaload, 1) := by decide +kernel
theorem dX12_isInside_16 : decode cX12_isInside 16 = .ok (.bipush 91, 2) := by decide +kernel
theorem dX12_isInside_18 : decode cX12_isInside 18 = .ok (.if_icmp .ne 5, 3) := by decide +kernel
theorem dX12_isInside_21 : decode cX12_isInside 21 = .ok (.iconst 1, 1) := by decide +kernel
theorem dX12_isInside_22 : decode cX12_isInside 22 = .ok (.ireturn, 1) := by decide +kernel
theorem dX12_isInside_23 : decode cX12_isInside 23 = .ok (.iinc 1 1, 3) := by decide +kernel
theorem dX12_isInside_26 : decode cX12_isInside 26 = .ok (.goto (-24), 3) := by decide +kernel
theorem dX12_isInside_29 : decode cX12_isInside 29 = .ok (.iconst 0, 1) := by decide +kernel
theorem dX12_isInside_30 : decode cX12_isInside 30 = .ok (.ireturn, 1) := by decide +kernel
theorem dX12_settles_0 : decode cX12_settles 0 = .ok (.aload_n 0, 1) := by decide +kernel
theorem dX12_settles_1 : decode cX12_settles 1 = .ok (.getfield 222, 3) := by decide +kernel
theorem dX12_settles_4 : decode cX12_settles 4 = .ok (.ifCond .le 72, 3) := by decide +kernel
theorem dX12_settles_7 : decode cX12_settles 7 = .ok (.aload_n 0, 1) := by decide +kernel
theorem dX12_settles_8 : decode cX12_settles 8 = .ok (.getfield 59, 3) := by decide +kernel
theorem dX12_settles_11 : decode cX12_settles 11 = .ok (.aload_n 0, 1) := by decide +kernel
theorem dX12_settles_12 : decode cX12_settles 12 = .ok (.getfield 222, 3) := by decide +kernel
theorem dX12_settles_15 : decode cX12_settles 15 = .ok (.iconst 1, 1) := by decide +kernel
theorem dX12_settles_16 : decode cX12_settles 16 = .ok (.isub, 1) := by decide +kernel
theorem dX12_settles_17 : decode cX12_settles 17 = .ok (.iaload, 1) := by decide +kernel
theorem dX12_settles_18 : decode cX12_settles 18 = .ok (.invokestatic 225, 3) := by decide +kernel
theorem dX12_settles_21 : decode cX12_settles 21 = .ok (.iload_n 1, 1) := by decide +kernel
theorem dX12_settles_22 : decode cX12_settles 22 = .ok (.if_icmp .lt 54, 3) := by decide +kernel
theorem dX12_settles_25 : decode cX12_settles 25 = .ok (.aload_n 0, 1) := by decide +kernel
theorem dX12_settles_26 : decode cX12_settles 26 = .ok (.dup, 1) := by decide +kernel
theorem dX12_settles_27 : decode cX12_settles 27 = .ok (.getfield 222, 3) := by decide +kernel
theorem dX12_settles_30 : decode cX12_settles 30 = .ok (.iconst 1, 1) := by decide +kernel
theorem dX12_settles_31 : decode cX12_settles 31 = .ok (.isub, 1) := by decide +kernel
theorem dX12_settles_32 : decode cX12_settles 32 = .ok (.putfield 222, 3) := by decide +kernel
theorem dX12_settles_35 : decode cX12_settles 35 = .ok (.aload_n 0, 1) := by decide +kernel
theorem dX12_settles_36 : decode cX12_settles 36 = .ok (.aload_n 0, 1) := by decide +kernel
theorem dX12_settles_37 : decode cX12_settles 37 = .ok (.getfield 59, 3) := by decide +kernel
theorem dX12_settles_40 : decode cX12_settles 40 = .ok (.aload_n 0, 1) := by decide +kernel
theorem dX12_settles_41 : decode cX12_settles 41 = .ok (.getfield 222, 3) := by decide +kernel
theorem dX12_settles_44 : decode cX12_settles 44 = .ok (.iaload, 1) := by decide +kernel
theorem dX12_settles_45 : decode cX12_settles 45 = .ok (.iconst 0, 1) := by decide +kernel
theorem dX12_settles_46 : decode cX12_settles 46 = .ok (.invokevirtual 228, 3) := by decide +kernel
theorem dX12_settles_49 : decode cX12_settles 49 = .ok (.aload_n 0, 1) := by decide +kernel
theorem dX12_settles_50 : decode cX12_settles 50 = .ok (.getfield 59, 3) := by decide +kernel
theorem dX12_settles_53 : decode cX12_settles 53 = .ok (.aload_n 0, 1) := by decide +kernel
theorem dX12_settles_54 : decode cX12_settles 54 = .ok (.getfield 222, 3) := by decide +kernel
theorem dX12_settles_57 : decode cX12_settles 57 = .ok (.iaload, 1) := by decide +kernel
theorem dX12_settles_58 : decode cX12_settles 58 = .ok (.bipush 11, 2) := by decide +kernel
theorem dX12_settles_60 : decode cX12_settles 60 = .ok (.if_icmp .ne (-60), 3) := by decide +kernel
theorem dX12_settles_63 : decode cX12_settles 63 = .ok (.aload_n 0, 1) := by decide +kernel
theorem dX12_settles_64 : decode cX12_settles 64 = .ok (.dup, 1) := by decide +kernel
theorem dX12_settles_65 : decode cX12_settles 65 = .ok (.getfield 219, 3) := by decide +kernel
theorem dX12_settles_68 : decode cX12_settles 68 = .ok (.iconst 1, 1) := by decide +kernel
theorem dX12_settles_69 : decode cX12_settles 69 = .ok (.isub, 1) := by decide +kernel
theorem dX12_settles_70 : decode cX12_settles 70 = .ok (.putfield 219, 3) := by decide +kernel
theorem dX12_settles_73 : decode cX12_settles 73 = .ok (.goto (-73), 3) := by decide +kernel
theorem dX12_settles_76 : decode cX12_settles 76 = .ok (.return_, 1) := by decide +kernel
theorem wk_682 : Cond.methodLink RX12 225 yX12_strength ∈ tl_L := List.mem_filter.mpr ⟨lw_m7 (i := 189) rfl, rfl⟩
theorem wk_683 : Cond.static yX12_strength ∈ tl_L := List.mem_filter.mpr ⟨lw_m7 (i := 190) rfl, rfl⟩
theorem wk_684 : Cond.code yX12_strength cX12_strength 1 (some .int) ∈ tl_L := List.mem_filter.mpr ⟨lw_m7 (i := 191) rfl, rfl⟩
theorem lk_X12_225 : tl_kS RX12 225 yX12_strength cX12_strength 1 (some .int) 1 := ⟨wk_684, wk_682, wk_683, wk_5, ⟨by decide +kernel, by decide +kernel, by decide +kernel⟩⟩
theorem dX12_closes_0 : decode cX12_closes 0 = .ok (.aload_n 0, 1) := by decide +kernel
theorem dX12_closes_1 : decode cX12_closes 1 = .ok (.iconst 3, 1) := by decide +kernel
theorem dX12_closes_2 : decode cX12_closes 2 = .ok (.invokevirtual 260, 3) := by decide +kernel
theorem dX12_closes_5 : decode cX12_closes 5 = .ok (.aload_n 0, 1) := by decide +kernel
theorem dX12_closes_6 : decode cX12_closes 6 = .ok (.invokevirtual 167, 3) := by decide +kernel
theorem dX12_closes_9 : decode cX12_closes 9 = .ok (.bipush 93, 2) := by decide +kernel
theorem dX12_closes_11 : decode cX12_closes 11 = .ok (.if_icmp .ne 53, 3) := by decide +kernel
theorem dX12_closes_14 : decode cX12_closes 14 = .ok (.aload_n 0, 1) := by decide +kernel
theorem dX12_closes_15 : decode cX12_closes 15 = .ok (.invokevirtual 263, 3) := by decide +kernel
theorem dX12_closes_18 : decode cX12_closes 18 = .ok (.ifCond .eq 46, 3) := by decide +kernel
theorem dX12_closes_21 : decode cX12_closes 21 = .ok (.aload_n 0, 1) := by decide +kernel
theorem dX12_closes_22 : decode cX12_closes 22 = .ok (.iconst 1, 1) := by decide +kernel
theorem dX12_closes_23 : decode cX12_closes 23 = .ok (.invokevirtual 260, 3) := by decide +kernel
theorem dX12_closes_26 : decode cX12_closes 26 = .ok (.aload_n 0, 1) := by decide +kernel
theorem dX12_closes_27 : decode cX12_closes 27 = .ok (.dup, 1) := by decide +kernel
theorem dX12_closes_28 : decode cX12_closes 28 = .ok (.getfield 222, 3) := by decide +kernel
theorem dX12_closes_31 : decode cX12_closes 31 = .ok (.iconst 1, 1) := by decide +kernel
theorem dX12_closes_32 : decode cX12_closes 32 = .ok (.isub, 1) := by decide +kernel
theorem dX12_closes_33 : decode cX12_closes 33 = .ok (.putfield 222, 3) := by decide +kernel
theorem dX12_closes_36 : decode cX12_closes 36 = .ok (.aload_n 0, 1) := by decide +kernel
theorem dX12_closes_37 : decode cX12_closes 37 = .ok (.dup, 1) := by decide +kernel
theorem dX12_closes_38 : decode cX12_closes 38 = .ok (.getfield 219, 3) := by decide +kernel
theorem dX12_closes_41 : decode cX12_closes 41 = .ok (.iconst 1, 1) := by decide +kernel
theorem dX12_closes_42 : decode cX12_closes 42 = .ok (.isub, 1) := by decide +kernel
theorem dX12_closes_43 : decode cX12_closes 43 = .ok (.putfield 219, 3) := by decide +kernel
theorem dX12_closes_46 : decode cX12_closes 46 = .ok (.aload_n 0, 1) := by decide +kernel
theorem dX12_closes_47 : decode cX12_closes 47 = .ok (.dup, 1) := by decide +kernel
theorem dX12_closes_48 : decode cX12_closes 48 = .ok (.getfield 164, 3) := by decide +kernel
theorem dX12_closes_51 : decode cX12_closes 51 = .ok (.iconst 1, 1) := by decide +kernel
theorem dX12_closes_52 : decode cX12_closes 52 = .ok (.iadd, 1) := by decide +kernel
theorem dX12_closes_53 : decode cX12_closes 53 = .ok (.putfield 164, 3) := by decide +kernel
theorem dX12_closes_56 : decode cX12_closes 56 = .ok (.aload_n 0, 1) := by decide +kernel
theorem dX12_closes_57 : decode cX12_closes 57 = .ok (.iconst 3, 1) := by decide +kernel
theorem dX12_closes_58 : decode cX12_closes 58 = .ok (.invokevirtual 260, 3) := by decide +kernel
theorem dX12_closes_61 : decode cX12_closes 61 = .ok (.goto (-56), 3) := by decide +kernel
theorem dX12_closes_64 : decode cX12_closes 64 = .ok (.return_, 1) := by decide +kernel
theorem wk_678 : Cond.methodLink RX12 260 yX12_settles ∈ tl_L := List.mem_filter.mpr ⟨lw_m7 (i := 185) rfl, rfl⟩
theorem wk_679 : Cond.instanceMethod yX12_settles ∈ tl_L := List.mem_filter.mpr ⟨lw_m7 (i := 187) rfl, rfl⟩
theorem wk_680 : Cond.selects RX12 yX12_settles yX12_settles ∈ tl_L := List.mem_filter.mpr ⟨lw_s9 (i := 8) (q := (yX12_settles, 49)) rfl, rfl⟩
theorem wk_681 : Cond.code yX12_settles cX12_settles 2 none ∈ tl_L := List.mem_filter.mpr ⟨lw_m7 (i := 188) rfl, rfl⟩
theorem wk_685 : Cond.methodLink RX12 263 yX12_isInside ∈ tl_L := List.mem_filter.mpr ⟨lw_m7 (i := 192) rfl, rfl⟩
theorem wk_686 : Cond.instanceMethod yX12_isInside ∈ tl_L := List.mem_filter.mpr ⟨lw_m7 (i := 194) rfl, rfl⟩
theorem wk_687 : Cond.selects RX12 yX12_isInside yX12_isInside ∈ tl_L := List.mem_filter.mpr ⟨lw_s9 (i := 9) (q := (yX12_isInside, 49)) rfl, rfl⟩
theorem wk_688 : Cond.code yX12_isInside cX12_isInside 2 (some .boolean) ∈ tl_L := List.mem_filter.mpr ⟨lw_m7 (i := 195) rfl, rfl⟩
theorem lk_X12_260 : tl_kV RX12 260 RX12 yX12_settles cX12_settles 2 none 1 := ⟨wk_681, wk_678, wk_679, wk_680, wk_5, ⟨by decide +kernel, by decide +kernel, by decide +kernel⟩⟩
theorem lk_X12_263 : tl_kV RX12 263 RX12 yX12_isInside cX12_isInside 2 (some .boolean) 0 := ⟨wk_688, wk_685, wk_686, wk_687, wk_5, ⟨by decide +kernel, by decide +kernel, by decide +kernel⟩⟩
theorem dX12_fact_0 : decode cX12_fact 0 = .ok (.iconst 1, 1) := by decide +kernel
theorem dX12_fact_1 : decode cX12_fact 1 = .ok (.istore_n 1, 1) := by decide +kernel
theorem dX12_fact_2 : decode cX12_fact 2 = .ok (.iload_n 1, 1) := by decide +kernel
theorem dX12_fact_3 : decode cX12_fact 3 = .ok (.ifCond .eq 72, 3) := by decide +kernel
theorem dX12_fact_6 : decode cX12_fact 6 = .ok (.iconst 0, 1) := by decide +kernel
theorem dX12_fact_7 : decode cX12_fact 7 = .ok (.istore_n 1, 1) := by decide +kernel
theorem dX12_fact_8 : decode cX12_fact 8 = .ok (.aload_n 0, 1) := by decide +kernel
theorem dX12_fact_9 : decode cX12_fact 9 = .ok (.invokevirtual 167, 3) := by decide +kernel
theorem dX12_fact_12 : decode cX12_fact 12 = .ok (.istore_n 2, 1) := by decide +kernel
theorem dX12_fact_13 : decode cX12_fact 13 = .ok (.aload_n 0, 1) := by decide +kernel
theorem dX12_fact_14 : decode cX12_fact 14 = .ok (.ldc2_w 252, 3) := by decide +kernel
theorem dX12_fact_17 : decode cX12_fact 17 = .ok (.invokevirtual 174, 3) := by decide +kernel
theorem dX12_fact_20 : decode cX12_fact 20 = .ok (.ifCond .eq 23, 3) := by decide +kernel
theorem dX12_fact_23 : decode cX12_fact 23 = .ok (.aload_n 0, 1) := by decide +kernel
theorem dX12_fact_24 : decode cX12_fact 24 = .ok (.bipush 11, 2) := by decide +kernel
theorem dX12_fact_26 : decode cX12_fact 26 = .ok (.invokevirtual 254, 3) := by decide +kernel
theorem dX12_fact_29 : decode cX12_fact 29 = .ok (.ifCond .ne 5, 3) := by decide +kernel
theorem dX12_fact_32 : decode cX12_fact 32 = .ok (.iconst 0, 1) := by decide +kernel
theorem dX12_fact_33 : decode cX12_fact 33 = .ok (.ireturn, 1) := by decide +kernel
theorem dX12_fact_34 : decode cX12_fact 34 = .ok (.aload_n 0, 1) := by decide +kernel
theorem dX12_fact_35 : decode cX12_fact 35 = .ok (.invokevirtual 178, 3) := by decide +kernel
theorem dX12_fact_38 : decode cX12_fact 38 = .ok (.iconst 1, 1) := by decide +kernel
theorem dX12_fact_39 : decode cX12_fact 39 = .ok (.istore_n 1, 1) := by decide +kernel
theorem dX12_fact_40 : decode cX12_fact 40 = .ok (.goto 32, 3) := by decide +kernel
theorem dX12_fact_43 : decode cX12_fact 43 = .ok (.iload_n 2, 1) := by decide +kernel
theorem dX12_fact_44 : decode cX12_fact 44 = .ok (.bipush 91, 2) := by decide +kernel
theorem dX12_fact_46 : decode cX12_fact 46 = .ok (.if_icmp .ne 26, 3) := by decide +kernel
theorem dX12_fact_49 : decode cX12_fact 49 = .ok (.aload_n 0, 1) := by decide +kernel
theorem dX12_fact_50 : decode cX12_fact 50 = .ok (.bipush 91, 2) := by decide +kernel
theorem dX12_fact_52 : decode cX12_fact 52 = .ok (.invokevirtual 254, 3) := by decide +kernel
theorem dX12_fact_55 : decode cX12_fact 55 = .ok (.ifCond .ne 5, 3) := by decide +kernel
theorem dX12_fact_58 : decode cX12_fact 58 = .ok (.iconst 0, 1) := by decide +kernel
theorem dX12_fact_59 : decode cX12_fact 59 = .ok (.ireturn, 1) := by decide +kernel
theorem dX12_fact_60 : decode cX12_fact 60 = .ok (.aload_n 0, 1) := by decide +kernel
theorem dX12_fact_61 : decode cX12_fact 61 = .ok (.dup, 1) := by decide +kernel
theorem dX12_fact_62 : decode cX12_fact 62 = .ok (.getfield 164, 3) := by decide +kernel
theorem dX12_fact_65 : decode cX12_fact 65 = .ok (.iconst 1, 1) := by decide +kernel
theorem dX12_fact_66 : decode cX12_fact 66 = .ok (.iadd, 1) := by decide +kernel
theorem dX12_fact_67 : decode cX12_fact 67 = .ok (.putfield 164, 3) := by decide +kernel
theorem dX12_fact_70 : decode cX12_fact 70 = .ok (.iconst 1, 1) := by decide +kernel
theorem dX12_fact_71 : decode cX12_fact 71 = .ok (.istore_n 1, 1) := by decide +kernel
theorem dX12_fact_72 : decode cX12_fact 72 = .ok (.goto (-70), 3) := by decide +kernel
theorem dX12_fact_75 : decode cX12_fact 75 = .ok (.aload_n 0, 1) := by decide +kernel
theorem dX12_fact_76 : decode cX12_fact 76 = .ok (.invokevirtual 257, 3) := by decide +kernel
theorem dX12_fact_79 : decode cX12_fact 79 = .ok (.ireturn, 1) := by decide +kernel
theorem wk_665 : Cond.constantLong RX12 252 (7237492) ∈ tl_L := List.mem_filter.mpr ⟨lw_m7 (i := 172) rfl, rfl⟩
theorem wk_666 : Cond.methodLink RX12 254 yX12_opens ∈ tl_L := List.mem_filter.mpr ⟨lw_m7 (i := 173) rfl, rfl⟩
theorem wk_667 : Cond.instanceMethod yX12_opens ∈ tl_L := List.mem_filter.mpr ⟨lw_m7 (i := 175) rfl, rfl⟩
theorem wk_668 : Cond.selects RX12 yX12_opens yX12_opens ∈ tl_L := List.mem_filter.mpr ⟨lw_s9 (i := 5) (q := (yX12_opens, 49)) rfl, rfl⟩
theorem wk_669 : Cond.code yX12_opens cX12_opens 2 (some .boolean) ∈ tl_L := List.mem_filter.mpr ⟨lw_m7 (i := 176) rfl, rfl⟩
theorem wk_670 : Cond.methodLink RX12 257 yX12_compare ∈ tl_L := List.mem_filter.mpr ⟨lw_m7 (i := 177) rfl, rfl⟩
theorem wk_671 : Cond.instanceMethod yX12_compare ∈ tl_L := List.mem_filter.mpr ⟨lw_m7 (i := 179) rfl, rfl⟩
theorem wk_672 : Cond.selects RX12 yX12_compare yX12_compare ∈ tl_L := List.mem_filter.mpr ⟨lw_s9 (i := 6) (q := (yX12_compare, 49)) rfl, rfl⟩
theorem wk_673 : Cond.code yX12_compare cX12_compare 5 (some .boolean) ∈ tl_L := List.mem_filter.mpr ⟨lw_m7 (i := 180) rfl, rfl⟩
theorem lk_X12_254 : tl_kV RX12 254 RX12 yX12_opens cX12_opens 2 (some .boolean) 1 := ⟨wk_669, wk_666, wk_667, wk_668, wk_5, ⟨by decide +kernel, by decide +kernel, by decide +kernel⟩⟩
theorem lk_X12_257 : tl_kV RX12 257 RX12 yX12_compare cX12_compare 5 (some .boolean) 0 := ⟨wk_673, wk_670, wk_671, wk_672, wk_5, ⟨by decide +kernel, by decide +kernel, by decide +kernel⟩⟩
set_option maxHeartbeats 4000000 in
set_option maxRecDepth 100000 in
theorem r_X12_isInside (l : Launch) (D : va_G) (cy : Nat → ClassId) (sz : Nat) (L : List Nat) (K : Nat → tk_K) (Γ : tk_G) (f : Nat → va_E) (o : Nat) (ω : Nat → Int) (ho : tp_r L K 39 (0) 0 o) (hom : Γ (52, 400, 0) = ω) (h8 : 0 ≤ Γ (39, 0, 0) 8 ∧ Γ (39, 0, 0) 8 ≤ 400) : Met l yX12_isInside (tl_w yX12_isInside cX12_isInside 2 (some .boolean)) ({ frames := 0, cells := 0, slots := 0, locals := 0 }) (va_Pc [.ref o] (tp_P D cy L K Γ f sz)) (vp_Si (fun r : Int32 => tl_E r (∃ k : Nat, (k : Int) < Γ (39, 0, 0) 8 ∧ ω k = 91) 1 0)) 0 0 (fun _ => False) := by
  refine Met.ofW (cc := cX12_isInside) (maxL := 2) (ret := (some .boolean)) (by decide) rfl ?_
  intro p e s m args below meth c s₁ B hml hv
  obtain ⟨rfl, hsz, hP, hK, hL, hI, hN, hU⟩ := hv
  have hx := B.exec
  have hb := B.bytes
  have hr := B.returns
  have hta := tl_hta (atoms_spec (ws := tl_w yX12_isInside cX12_isInside 2 (some .boolean)) B.pre)
  have hown : s.vm.findClass RX12 = some m.cls := findClass_of_methodNamed B.named
  have hlocks := B.notSynchronized
  subst hsz
  have hI0 := hI
  have hl := lv_entry ([.ref o]) (n := 2) (Nat.le_of_ble_eq_true rfl)
  rw [lg_entry_eq]
  generalize (lg_sl ([.ref o]) ++ List.replicate (2 - (lg_sl ([.ref o])).length) Slot.unset).toArray = ls at hl ⊢
  have hl : lv_has ls 2 [(0, .ref o)] := hl
  refine lv_iconst (v := 0) hx hb dX12_isInside_0 (by decide) ?_
  refine lv_istore_n (lv' := [(1, .int 0), (0, .ref o)]) hx hb dX12_isInside_1 rfl hl (by decide) rfl (fun ls hl => ?_)
  refine tl_indR (G := fun ls => W p l e ((headSpec (tl_w yX12_isInside cX12_isInside 2 (some .boolean)) ({ frames := 0, cells := 0, slots := 0, locals := 0 })).room) s m #[.ref o] below meth c s.heap [] 0 0 (MQ below (vp_Si (fun r : Int32 => tl_E r (∃ k : Nat, (k : Int) < Γ (39, 0, 0) 8 ∧ ω k = 91) 1 0)) #[.ref o] s 0 0 (fun _ => False)) (F0 m 2 ls [])) (α := Int32) (fun aq => (400 - aq.toInt).toNat) (fun aq ls => (0 ≤ aq.toInt ∧ aq.toInt ≤ 400) ∧ (∀ j : Nat, (j : Int) < aq.toInt → ¬ ω j = 91) ∧ lv_has ls 2 [(1, .int aq), (0, .ref o)]) ?_ (0 : Int32) ls ⟨(show 0 ≤ (0 : Int) ∧ (0 : Int) ≤ 400 from (by omega)), (show ∀ j : Nat, (j : Int) < (0 : Int) → ¬ ω j = 91 from (fun j hj => absurd hj (by omega))), lv_sub hl [0, 1] rfl⟩
  rintro v1 ls ⟨h1, hno, hl⟩ ih2
  have h1 : 0 ≤ v1.toInt ∧ v1.toInt ≤ 400 := h1
  have hno : ∀ j : Nat, (j : Int) < v1.toInt → ¬ ω j = 91 := hno
  have hl : lv_has ls 2 [(1, .int v1), (0, .ref o)] := hl
  refine lv_iload_n hx hb dX12_isInside_2 rfl (lv_at hl 0 rfl) ?_
  refine lv_aload_n hx hb dX12_isInside_3 rfl (lv_at hl 1 rfl) ?_
  obtain ⟨r_2, v_3, q_4, hf_1, hr_5, hv_6⟩ := (show tp_o_M L K 0 0 (Γ (39, 0, 0)) (f o) from hI0.at ho)
  have hx_15 : (v_3 8).toInt = Γ (39, 0, 0) 8 := hv_6 8 (by decide)
  refine tp_get (cy := cy) (ci := 12) (v := .int (v_3 8)) (C := RX12) (T := TX12) (N := 49) hx hb hta inlX12 hown hK hP ho.1 hf_1 rfl 25 (by decide) (hta _ wk_657) (fun _ h9 => h9) rfl dX12_isInside_4 ?_
  refine lv_icmp_ge (tgt := 29) hx hb dX12_isInside_7 (by decide) (fun c_23 => ?_) (fun c_23 => ?_)
  · have c_23 : (v_3 8).toInt ≤ v1.toInt := tl_le c_23
    refine lv_iconst (v := 0) hx hb dX12_isInside_29 (by decide) ?_
    exact W.zret (ty := .boolean) (v := 0) hx hb hr rfl (fun t ht hW => ⟨_, rfl, (Or.inr ⟨fun ⟨k9, hk9, e9⟩ => hno k9 (by omega) e9, rfl⟩), ht⟩) (fun q h => by cases h) dX12_isInside_30
  · have c_23 : v1.toInt < (v_3 8).toInt := tl_nle c_23
    refine lv_aload_n hx hb dX12_isInside_10 rfl (lv_at hl 1 rfl) ?_
    refine tp_get (cy := cy) (ci := 12) (v := .ref (r_2 16)) (C := RX12) (T := TX12) (N := 49) hx hb hta inlX12 hown hK hP ho.1 hf_1 rfl 24 (by decide) (hta _ wk_166) (fun _ h9 => h9) rfl dX12_isInside_11 ?_
    refine lv_iload_n hx hb dX12_isInside_14 rfl (lv_at hl 0 rfl) ?_
    obtain ⟨g_25, hf_24, hg_26⟩ := (show tp_gi cy (400) (Γ (52, 400, 0)) (f (r_2 16)) from hI0.at (show tp_r L K 52 400 0 (r_2 16) from hr_5 16 (by decide)))
    have hn_27 : vp_in v1 (400) := tl_in (by omega) (by omega)
    refine tp_iald (cy := cy) hx hb hK hP (show tp_r L K 52 400 0 (r_2 16) from hr_5 16 (by decide)).1 hf_24 hn_27 dX12_isInside_15 ?_
    refine lv_topi (fun z_28 ez_28 => ?_)
    have iz_28 : z_28.toInt = Γ (52, 400, 0) v1.toInt.toNat := by rw [ez_28]; exact hg_26 _ (tp_pin hn_27)
    rw [hom] at iz_28
    refine lv_bipush (v := 91) hx hb dX12_isInside_16 (by decide) ?_
    refine lv_icmp_ne (tgt := 23) hx hb dX12_isInside_18 (by decide) (fun c_29 => ?_) (fun c_29 => ?_)
    · have c_29 : ¬ z_28.toInt = (91 : Int) := tl_neq c_29
      obtain ⟨z_30, ez_30⟩ : ∃ y : Int32, y = v1 + 1 := ⟨_, rfl⟩
      refine lv_iinc (v := z_30) (lv' := [(1, .int z_30), (0, .ref o)]) hx hb dX12_isInside_23 hl (k := 0) rfl (by rw [ez_30]; rfl) (by decide) rfl (fun ls hl => ?_)
      try have iz_30 : z_30.toInt = v1.toInt + 1 := by rw [ez_30]; exact tl_addL v1 1 (by decide) (by omega) (by omega)
      refine lv_goto (tgt := 2) hx hb dX12_isInside_26 (by decide) ?_
      exact ih2 z_30 ls (by show (400 - z_30.toInt).toNat < (400 - v1.toInt).toNat; omega) ⟨(show 0 ≤ z_30.toInt ∧ z_30.toInt ≤ 400 from (by omega)), (show ∀ j : Nat, (j : Int) < z_30.toInt → ¬ ω j = 91 from (fun j hj => by by_cases q9 : (j : Int) = v1.toInt; (rw [show j = v1.toInt.toNat from by omega]; omega); exact hno j (by omega))), lv_sub hl [0, 1] rfl⟩
    · have c_29 : z_28.toInt = (91 : Int) := tl_eq c_29
      refine lv_iconst (v := 1) hx hb dX12_isInside_21 (by decide) ?_
      exact W.zret (ty := .boolean) (v := 1) hx hb hr rfl (fun t ht hW => ⟨_, rfl, (Or.inl ⟨⟨v1.toInt.toNat, by omega, by omega⟩, rfl⟩), ht⟩) (fun q h => by cases h) dX12_isInside_22
set_option maxHeartbeats 4000000 in
set_option maxRecDepth 100000 in
theorem r_X12_settles (l : Launch) (D : va_G) (cy : Nat → ClassId) (sz : Nat) (L : List Nat) (K : Nat → tk_K) (Γ : tk_G) (f : Nat → va_E) (o : Nat) (p0 : Int32) (τ : Nat → Int) (T0 : Int) (t0 : Int) (a : Nat) (d : Int) (ω : Nat → Int) (ho : tp_r L K 39 (0) 0 o) (ht : Γ (41, 400, 0) = τ) (hT : Γ (39, 0, 0) 0 = T0) (hb0 : 0 ≤ Γ (39, 0, 0) 1 ∧ Γ (39, 0, 0) 1 ≤ T0 ∧ T0 ≤ 400) (h4 : Γ (39, 0, 0) 4 = t0) (hp : ps (Γ (43, 8800, 0)) t0 (Γ (44, 22, 0) t0.toNat) (Γ (39, 0, 0) 1) T0 (Γ (39, 0, 0) 5) a (d)) (hom : Γ (52, 400, 0) = ω) (h8 : 0 ≤ Γ (39, 0, 0) 8 ∧ Γ (44, 22, 0) t0.toNat + Γ (39, 0, 0) 8 ≤ Γ (39, 0, 0) 1) (hd : d = 1 + cn ω (Γ (39, 0, 0) 8).toNat) (hpp : 1 ≤ p0.toInt) : Met l yX12_settles (tl_w yX12_settles cX12_settles 2 none) ({ frames := 1, cells := 0, slots := 0, locals := 22 }) (va_Pc [.ref o, .int p0] (tp_P D cy L K Γ f sz)) (va_Qv (fun (u : (Nat → va_E) × tk_G) => ps (u.2 (43, 8800, 0)) t0 (u.2 (44, 22, 0) t0.toNat) (u.2 (39, 0, 0) 1) T0 (u.2 (39, 0, 0) 5) a (1 + cn ω (u.2 (39, 0, 0) 8).toNat) ∧ fz (Γ (43, 8800, 0)) (u.2 (43, 8800, 0)) (Γ (44, 22, 0)) (u.2 (44, 22, 0)) t0 ∧ u.2 (39, 0, 0) 0 = Γ (39, 0, 0) 0 ∧ u.2 (39, 0, 0) 1 = Γ (39, 0, 0) 1 ∧ u.2 (39, 0, 0) 4 = Γ (39, 0, 0) 4 ∧ u.2 (39, 0, 0) 5 = Γ (39, 0, 0) 5 ∧ u.2 (39, 0, 0) 7 = Γ (39, 0, 0) 7 ∧ (0 ≤ u.2 (39, 0, 0) 8 ∧ u.2 (39, 0, 0) 8 ≤ Γ (39, 0, 0) 8) ∧ u.2 (44, 22, 0) t0.toNat + u.2 (39, 0, 0) 8 = Γ (44, 22, 0) t0.toNat + Γ (39, 0, 0) 8 ∧ (∀ j : Nat, (j : Int) < Γ (39, 0, 0) 8 → ω j = 91 → (j : Int) < u.2 (39, 0, 0) 8) ∧ (u.2 (39, 0, 0) 8 = 0 ∨ stren (ω (u.2 (39, 0, 0) 8 - 1).toNat) < p0.toInt)) (tp_BG D cy L K Γ f [39, 43, 44]) (tp_A L sz)) 0 0 (tp_A L sz) := by
  refine Met.ofW (cc := cX12_settles) (maxL := 2) (ret := none) (by decide) rfl ?_
  intro p e s m args below meth c s₁ B hml hv
  obtain ⟨rfl, hsz, hP, hK, hL, hI, hN, hU⟩ := hv
  have hx := B.exec
  have hb := B.bytes
  have hr := B.returns
  have hta := tl_hta (atoms_spec (ws := tl_w yX12_settles cX12_settles 2 none) B.pre)
  have hown : s.vm.findClass RX12 = some m.cls := findClass_of_methodNamed B.named
  have hlocks := B.notSynchronized
  subst hsz
  have hI0 := hI
  generalize hAe : tp_A L s.heap.size = A
  have hA : ∀ q : Nat, s.heap.size ≤ q → A q := fun q h => by rw [← hAe]; exact Or.inr h
  have hAL : ∀ q ∈ L, A q := fun q h => by rw [← hAe]; exact Or.inl h
  have hAf : ∀ (H : Heap), s.heap.size ≤ H.size → ∀ q, tp_A L H.size q → A q := fun H h q hq => hq.elim (hAL q) (fun h2 => hA q (Nat.le_trans h h2))
  have hS : va_S A s.heap s.heap [] := va_S.rf
  have hD : va_D A (va_pl L f) := tp_D hL hAL
  have hfr : ∀ b, (K b).1 ∉ ([39, 43, 44] : List Nat) → f b = f b := fun _ _ => rfl
  have hgr : ∀ κ : tk_K, κ.1 ∉ ([39, 43, 44] : List Nat) → Γ κ = Γ κ := fun _ _ => rfl
  have hl := lv_entry ([.ref o, .int p0]) (n := 2) (Nat.le_of_ble_eq_true rfl)
  rw [lg_entry_eq]
  generalize (lg_sl ([.ref o, .int p0]) ++ List.replicate (2 - (lg_sl ([.ref o, .int p0])).length) Slot.unset).toArray = ls at hl ⊢
  have hl : lv_has ls 2 [(0, .ref o), (1, .int p0)] := hl
  have hz : fz (Γ (43, 8800, 0)) (Γ (43, 8800, 0)) (Γ (44, 22, 0)) (Γ (44, 22, 0)) t0 := fz.rfl
  have hfw : fw (Γ (43, 8800, 0)) (Γ (43, 8800, 0)) (Γ (44, 22, 0)) (Γ (44, 22, 0)) t0 := fw.same
  have hpo := hp
  obtain ⟨hp1, hp2, hp3, hp4, _⟩ := hpo
  refine tq_start hP hS (fun H locs hP hS => ?_)
  refine tl_ind (G := fun H locs ls => W p l e ((headSpec (tl_w yX12_settles cX12_settles 2 none) ({ frames := 1, cells := 0, slots := 0, locals := 22 })).room) s m #[.ref o, .int p0] below meth c H locs 0 0 (MQ below (va_Qv (fun (u : (Nat → va_E) × tk_G) => ps (u.2 (43, 8800, 0)) t0 (u.2 (44, 22, 0) t0.toNat) (u.2 (39, 0, 0) 1) T0 (u.2 (39, 0, 0) 5) a (1 + cn ω (u.2 (39, 0, 0) 8).toNat) ∧ fz (Γ (43, 8800, 0)) (u.2 (43, 8800, 0)) (Γ (44, 22, 0)) (u.2 (44, 22, 0)) t0 ∧ u.2 (39, 0, 0) 0 = Γ (39, 0, 0) 0 ∧ u.2 (39, 0, 0) 1 = Γ (39, 0, 0) 1 ∧ u.2 (39, 0, 0) 4 = Γ (39, 0, 0) 4 ∧ u.2 (39, 0, 0) 5 = Γ (39, 0, 0) 5 ∧ u.2 (39, 0, 0) 7 = Γ (39, 0, 0) 7 ∧ (0 ≤ u.2 (39, 0, 0) 8 ∧ u.2 (39, 0, 0) 8 ≤ Γ (39, 0, 0) 8) ∧ u.2 (44, 22, 0) t0.toNat + u.2 (39, 0, 0) 8 = Γ (44, 22, 0) t0.toNat + Γ (39, 0, 0) 8 ∧ (∀ j : Nat, (j : Int) < Γ (39, 0, 0) 8 → ω j = 91 → (j : Int) < u.2 (39, 0, 0) 8) ∧ (u.2 (39, 0, 0) 8 = 0 ∨ stren (ω (u.2 (39, 0, 0) 8 - 1).toNat) < p0.toInt)) (tp_BG D cy L K Γ f [39, 43, 44]) A) #[.ref o, .int p0] s 0 0 A) (F0 m 0 ls [])) (α := (Nat → va_E) × tk_G) (fun aq => (aq.2 (39, 0, 0) 8).toNat) (fun aq H locs ls => (ps (aq.2 (43, 8800, 0)) t0 (aq.2 (44, 22, 0) t0.toNat) (aq.2 (39, 0, 0) 1) T0 (aq.2 (39, 0, 0) 5) a (1 + cn ω (aq.2 (39, 0, 0) 8).toNat)) ∧ (fz (Γ (43, 8800, 0)) (aq.2 (43, 8800, 0)) (Γ (44, 22, 0)) (aq.2 (44, 22, 0)) t0) ∧ (fw (Γ (43, 8800, 0)) (aq.2 (43, 8800, 0)) (Γ (44, 22, 0)) (aq.2 (44, 22, 0)) t0) ∧ (aq.2 (39, 0, 0) 0 = Γ (39, 0, 0) 0) ∧ (aq.2 (39, 0, 0) 1 = Γ (39, 0, 0) 1) ∧ (aq.2 (39, 0, 0) 4 = Γ (39, 0, 0) 4) ∧ (aq.2 (39, 0, 0) 5 = Γ (39, 0, 0) 5) ∧ (aq.2 (39, 0, 0) 7 = Γ (39, 0, 0) 7) ∧ (0 ≤ aq.2 (39, 0, 0) 8 ∧ aq.2 (39, 0, 0) 8 ≤ Γ (39, 0, 0) 8) ∧ (aq.2 (44, 22, 0) t0.toNat + aq.2 (39, 0, 0) 8 = Γ (44, 22, 0) t0.toNat + Γ (39, 0, 0) 8) ∧ (∀ j : Nat, (j : Int) < Γ (39, 0, 0) 8 → ω j = 91 → (j : Int) < aq.2 (39, 0, 0) 8) ∧ va_P D vwCl (va_pl L aq.1) H ∧ tp_I cy L K aq.2 aq.1 ∧ (∀ b, (K b).1 ∉ ([39, 43, 44] : List Nat) → aq.1 b = f b) ∧ (∀ κ : tk_K, κ.1 ∉ ([39, 43, 44] : List Nat) → aq.2 κ = Γ κ) ∧ va_S A s.heap H locs ∧ lv_has ls 2 [(0, .ref o), (1, .int p0)]) ?_ (f, Γ) H locs ls ⟨(show ps (Γ (43, 8800, 0)) t0 (Γ (44, 22, 0) t0.toNat) (Γ (39, 0, 0) 1) T0 (Γ (39, 0, 0) 5) a (1 + cn ω (Γ (39, 0, 0) 8).toNat) from (hp.dd (by omega))), (show fz (Γ (43, 8800, 0)) (Γ (43, 8800, 0)) (Γ (44, 22, 0)) (Γ (44, 22, 0)) t0 from hz), (show fw (Γ (43, 8800, 0)) (Γ (43, 8800, 0)) (Γ (44, 22, 0)) (Γ (44, 22, 0)) t0 from hfw), (show Γ (39, 0, 0) 0 = Γ (39, 0, 0) 0 from (by omega)), (show Γ (39, 0, 0) 1 = Γ (39, 0, 0) 1 from (by omega)), (show Γ (39, 0, 0) 4 = Γ (39, 0, 0) 4 from (by omega)), (show Γ (39, 0, 0) 5 = Γ (39, 0, 0) 5 from (by omega)), (show Γ (39, 0, 0) 7 = Γ (39, 0, 0) 7 from (by omega)), (show 0 ≤ Γ (39, 0, 0) 8 ∧ Γ (39, 0, 0) 8 ≤ Γ (39, 0, 0) 8 from (by omega)), (show Γ (44, 22, 0) t0.toNat + Γ (39, 0, 0) 8 = Γ (44, 22, 0) t0.toNat + Γ (39, 0, 0) 8 from (by omega)), (show ∀ j : Nat, (j : Int) < Γ (39, 0, 0) 8 → ω j = 91 → (j : Int) < Γ (39, 0, 0) 8 from (fun _ q _ => q)), hP, hI, hfr, hgr, hS, lv_sub hl [0, 1] rfl⟩
  rintro ⟨f_1, Γ_2⟩ H locs ls ⟨hp, hz, hfw, q0, q1, q4, q5, q7, h8, hlm, h91, hP, hI, hfr, hgr, hS, hl⟩ ih0
  have hgr : ∀ κ : tk_K, κ.1 ∉ ([39, 43, 44] : List Nat) → Γ_2 κ = Γ κ := hgr
  have hP : va_P D vwCl (va_pl L f_1) H := hP
  have hI : tp_I cy L K Γ_2 f_1 := hI
  have hfr : ∀ b, (K b).1 ∉ ([39, 43, 44] : List Nat) → f_1 b = f b := hfr
  have hD : va_D A (va_pl L f_1) := tp_D hL hAL
  have hp : ps (Γ_2 (43, 8800, 0)) t0 (Γ_2 (44, 22, 0) t0.toNat) (Γ_2 (39, 0, 0) 1) T0 (Γ_2 (39, 0, 0) 5) a (1 + cn ω (Γ_2 (39, 0, 0) 8).toNat) := hp
  have hz : fz (Γ (43, 8800, 0)) (Γ_2 (43, 8800, 0)) (Γ (44, 22, 0)) (Γ_2 (44, 22, 0)) t0 := hz
  have hfw : fw (Γ (43, 8800, 0)) (Γ_2 (43, 8800, 0)) (Γ (44, 22, 0)) (Γ_2 (44, 22, 0)) t0 := hfw
  have q0 : Γ_2 (39, 0, 0) 0 = Γ (39, 0, 0) 0 := q0
  have q1 : Γ_2 (39, 0, 0) 1 = Γ (39, 0, 0) 1 := q1
  have q4 : Γ_2 (39, 0, 0) 4 = Γ (39, 0, 0) 4 := q4
  have q5 : Γ_2 (39, 0, 0) 5 = Γ (39, 0, 0) 5 := q5
  have q7 : Γ_2 (39, 0, 0) 7 = Γ (39, 0, 0) 7 := q7
  have h8 : 0 ≤ Γ_2 (39, 0, 0) 8 ∧ Γ_2 (39, 0, 0) 8 ≤ Γ (39, 0, 0) 8 := h8
  have hlm : Γ_2 (44, 22, 0) t0.toNat + Γ_2 (39, 0, 0) 8 = Γ (44, 22, 0) t0.toNat + Γ (39, 0, 0) 8 := hlm
  have h91 : ∀ j : Nat, (j : Int) < Γ (39, 0, 0) 8 → ω j = 91 → (j : Int) < Γ_2 (39, 0, 0) 8 := h91
  have hl : lv_has ls 2 [(0, .ref o), (1, .int p0)] := hl
  refine lv_aload_n hx hb dX12_settles_0 rfl (lv_at hl 0 rfl) ?_
  obtain ⟨r_4, v_5, q_6, hf_3, hr_7, hv_8⟩ := (show tp_o_M L K 0 0 (Γ_2 (39, 0, 0)) (f_1 o) from hI.at ho)
  have hx_9 : (v_5 0).toInt = Γ_2 (39, 0, 0) 0 := hv_8 0 (by decide)
  have hx_10 : (v_5 1).toInt = Γ_2 (39, 0, 0) 1 := hv_8 1 (by decide)
  have hx_11 : (v_5 3).toInt = Γ_2 (39, 0, 0) 3 := hv_8 3 (by decide)
  have hx_12 : (v_5 4).toInt = Γ_2 (39, 0, 0) 4 := hv_8 4 (by decide)
  have hx_13 : (v_5 5).toInt = Γ_2 (39, 0, 0) 5 := hv_8 5 (by decide)
  have hx_14 : (v_5 6).toInt = Γ_2 (39, 0, 0) 6 := hv_8 6 (by decide)
  have hx_15 : (v_5 7).toInt = Γ_2 (39, 0, 0) 7 := hv_8 7 (by decide)
  have hx_16 : (v_5 8).toInt = Γ_2 (39, 0, 0) 8 := hv_8 8 (by decide)
  refine tp_get (cy := cy) (ci := 12) (v := .int (v_5 8)) (C := RX12) (T := TX12) (N := 49) hx hb hta inlX12 hown hK hP ho.1 hf_3 rfl 25 (by decide) (hta _ wk_657) (fun _ h9 => h9) rfl dX12_settles_1 ?_
  refine lv_if_le (tgt := 76) hx hb dX12_settles_4 (by decide) (fun c_17 => ?_) (fun c_17 => ?_)
  · have c_17 : (v_5 8).toInt ≤ (0 : Int) := tl_le c_17
    have hpo9 : ps (Γ_2 (43, 8800, 0)) t0 (Γ_2 (44, 22, 0) t0.toNat) (Γ_2 (39, 0, 0) 1) T0 (Γ_2 (39, 0, 0) 5) a (1 + cn ω (Γ_2 (39, 0, 0) 8).toNat) ∧ fz (Γ (43, 8800, 0)) (Γ_2 (43, 8800, 0)) (Γ (44, 22, 0)) (Γ_2 (44, 22, 0)) t0 ∧ Γ_2 (39, 0, 0) 0 = Γ (39, 0, 0) 0 ∧ Γ_2 (39, 0, 0) 1 = Γ (39, 0, 0) 1 ∧ Γ_2 (39, 0, 0) 4 = Γ (39, 0, 0) 4 ∧ Γ_2 (39, 0, 0) 5 = Γ (39, 0, 0) 5 ∧ Γ_2 (39, 0, 0) 7 = Γ (39, 0, 0) 7 ∧ (0 ≤ Γ_2 (39, 0, 0) 8 ∧ Γ_2 (39, 0, 0) 8 ≤ Γ (39, 0, 0) 8) ∧ Γ_2 (44, 22, 0) t0.toNat + Γ_2 (39, 0, 0) 8 = Γ (44, 22, 0) t0.toNat + Γ (39, 0, 0) 8 ∧ (∀ j : Nat, (j : Int) < Γ (39, 0, 0) 8 → ω j = 91 → (j : Int) < Γ_2 (39, 0, 0) 8) ∧ (Γ_2 (39, 0, 0) 8 = 0 ∨ stren (ω (Γ_2 (39, 0, 0) 8 - 1).toNat) < p0.toInt) := ⟨hp, hz, (by omega), (by omega), (by omega), (by omega), (by omega), (by omega), (by omega), h91, (by first | exact Or.inl (by omega) | exact Or.inr (by rw [htop]; omega))⟩
    exact W.vret hx hb hr (fun t ht hW => ⟨⟨(f_1, Γ_2), rfl, hpo9, by rw [ht]; exact hP, hI, hfr, hgr⟩, hS.F ht⟩) hS.2.2 dX12_settles_76
  · have c_17 : (0 : Int) < (v_5 8).toInt := tl_nle c_17
    refine lv_aload_n hx hb dX12_settles_7 rfl (lv_at hl 0 rfl) ?_
    refine tp_get (cy := cy) (ci := 12) (v := .ref (r_4 16)) (C := RX12) (T := TX12) (N := 49) hx hb hta inlX12 hown hK hP ho.1 hf_3 rfl 24 (by decide) (hta _ wk_166) (fun _ h9 => h9) rfl dX12_settles_8 ?_
    refine lv_aload_n hx hb dX12_settles_11 rfl (lv_at hl 0 rfl) ?_
    refine tp_get (cy := cy) (ci := 12) (v := .int (v_5 8)) (C := RX12) (T := TX12) (N := 49) hx hb hta inlX12 hown hK hP ho.1 hf_3 rfl 25 (by decide) (hta _ wk_657) (fun _ h9 => h9) rfl dX12_settles_12 ?_
    refine lv_iconst (v := 1) hx hb dX12_settles_15 (by decide) ?_
    refine lv_isub hx hb dX12_settles_16 ?_
    refine lv_topi (fun z_18 ez_18 => ?_)
    try have iz_18 : z_18.toInt = (v_5 8).toInt - (1 : Int) := by rw [ez_18]; exact tl_subN (v_5 8) 1 rfl rfl (by omega) (by omega)
    obtain ⟨g_20, hf_19, hg_21⟩ := (show tp_gi cy (400) (Γ (52, 400, 0)) (f (r_4 16)) from hI0.at (show tp_r L K 52 400 0 (r_4 16) from hr_7 16 (by decide)))
    have hn_22 : vp_in z_18 (400) := tl_in (by omega) (by omega)
    refine tp_iald (cy := cy) hx hb hK hP (show tp_r L K 52 400 0 (r_4 16) from hr_7 16 (by decide)).1 ((tp_un hfr (show tp_r L K 52 400 0 (r_4 16) from hr_7 16 (by decide)) (by decide)).trans hf_19) hn_22 dX12_settles_17 ?_
    refine lv_topi (fun z_23 ez_23 => ?_)
    have iz_23 : z_23.toInt = Γ (52, 400, 0) z_18.toInt.toNat := by rw [ez_23]; exact hg_21 _ (tp_pin hn_22)
    rw [hom] at iz_23
    refine tl_si (tq_rS (As := [.int z_23]) (rest := []) ⟨hx, hb, hml, hown, hta⟩ (tp_P.pre hK hN hL hU hI hP) lk_X12_225 (r_X12_strength l D cy H.size L K Γ_2 f_1 z_23 ) rfl rfl ⟨Nat.le_of_ble_eq_true rfl, Nat.le_of_ble_eq_true rfl⟩ rfl hl.1 rfl (Nat.le_of_ble_eq_true rfl) dX12_settles_18 ⟨Nat.le_of_ble_eq_true rfl, Nat.le_of_ble_eq_true rfl⟩) (fun r_25 hw_24 => ?_)
    have hst : r_25.toInt = stren z_23.toInt := stren_of hw_24
    have htop : ω (Γ_2 (39, 0, 0) 8 - 1).toNat = z_23.toInt := by rw [iz_23]; exact congrArg _ (by omega)
    have hw_24 : (z_23.toInt = 13 ∧ r_25.toInt = 1) ∨ (z_23.toInt = 12 ∧ r_25.toInt = 2) ∨ (z_23.toInt = 11 ∧ r_25.toInt = 3) ∨ ((¬ z_23.toInt = 13 ∧ ¬ z_23.toInt = 12 ∧ ¬ z_23.toInt = 11) ∧ r_25.toInt = 0) := hw_24
    refine lv_iload_n hx hb dX12_settles_21 rfl (lv_at hl 1 rfl) ?_
    refine lv_icmp_lt (tgt := 76) hx hb dX12_settles_22 (by decide) (fun c_26 => ?_) (fun c_26 => ?_)
    · have c_26 : r_25.toInt < p0.toInt := tl_lt c_26
      have hpo9 : ps (Γ_2 (43, 8800, 0)) t0 (Γ_2 (44, 22, 0) t0.toNat) (Γ_2 (39, 0, 0) 1) T0 (Γ_2 (39, 0, 0) 5) a (1 + cn ω (Γ_2 (39, 0, 0) 8).toNat) ∧ fz (Γ (43, 8800, 0)) (Γ_2 (43, 8800, 0)) (Γ (44, 22, 0)) (Γ_2 (44, 22, 0)) t0 ∧ Γ_2 (39, 0, 0) 0 = Γ (39, 0, 0) 0 ∧ Γ_2 (39, 0, 0) 1 = Γ (39, 0, 0) 1 ∧ Γ_2 (39, 0, 0) 4 = Γ (39, 0, 0) 4 ∧ Γ_2 (39, 0, 0) 5 = Γ (39, 0, 0) 5 ∧ Γ_2 (39, 0, 0) 7 = Γ (39, 0, 0) 7 ∧ (0 ≤ Γ_2 (39, 0, 0) 8 ∧ Γ_2 (39, 0, 0) 8 ≤ Γ (39, 0, 0) 8) ∧ Γ_2 (44, 22, 0) t0.toNat + Γ_2 (39, 0, 0) 8 = Γ (44, 22, 0) t0.toNat + Γ (39, 0, 0) 8 ∧ (∀ j : Nat, (j : Int) < Γ (39, 0, 0) 8 → ω j = 91 → (j : Int) < Γ_2 (39, 0, 0) 8) ∧ (Γ_2 (39, 0, 0) 8 = 0 ∨ stren (ω (Γ_2 (39, 0, 0) 8 - 1).toNat) < p0.toInt) := ⟨hp, hz, (by omega), (by omega), (by omega), (by omega), (by omega), (by omega), (by omega), h91, (by first | exact Or.inl (by omega) | exact Or.inr (by rw [htop]; omega))⟩
      exact W.vret hx hb hr (fun t ht hW => ⟨⟨(f_1, Γ_2), rfl, hpo9, by rw [ht]; exact hP, hI, hfr, hgr⟩, hS.F ht⟩) hS.2.2 dX12_settles_76
    · have c_26 : p0.toInt ≤ r_25.toInt := tl_nlt c_26
      refine lv_aload_n hx hb dX12_settles_25 rfl (lv_at hl 0 rfl) ?_
      refine lv_dup hx hb dX12_settles_26 rfl ?_
      refine tp_get (cy := cy) (ci := 12) (v := .int (v_5 8)) (C := RX12) (T := TX12) (N := 49) hx hb hta inlX12 hown hK hP ho.1 hf_3 rfl 25 (by decide) (hta _ wk_657) (fun _ h9 => h9) rfl dX12_settles_27 ?_
      refine lv_iconst (v := 1) hx hb dX12_settles_30 (by decide) ?_
      refine lv_isub hx hb dX12_settles_31 ?_
      refine lv_topi (fun z_27 ez_27 => ?_)
      try have iz_27 : z_27.toInt = (v_5 8).toInt - (1 : Int) := by rw [ez_27]; exact tl_subN (v_5 8) 1 rfl rfl (by omega) (by omega)
      obtain ⟨Γ_28, eΓ_28⟩ : ∃ y : tk_G, y = tg Γ_2 (39, 0, 0) 8 z_27.toInt := ⟨_, rfl⟩
      have hv_29 : ∀ i : Nat, i < 16 → ((upd v_5 8 z_27) i).toInt = Γ_28 (39, 0, 0) i := by rw [eΓ_28, tg_f]; exact tp_gi_upd hv_8
      have hI9 : tp_I cy L K Γ_28 (va_up f_1 o (.inr (12, [.ref (r_4 0), .ref (r_4 1), .int (v_5 0), .ref (r_4 2), .ref (r_4 3), .ref (r_4 4), .ref (r_4 5), .ref (r_4 6), .ref (r_4 7), .ref (r_4 8), .ref (r_4 9), .ref (r_4 10), .ref (r_4 11), .ref (r_4 12), .ref (r_4 13), .ref (r_4 14), .ref (r_4 15), .int (v_5 1), .int (v_5 2), .int (v_5 3), .int (v_5 4), .int (v_5 5), .int (v_5 6), .int (v_5 7), .ref (r_4 16), .int z_27, .ref (r_4 17), .int (v_5 9), .ref (r_4 18), .long q_6, .ref (r_4 19), .ref (r_4 20), .int (v_5 10), .int (v_5 11), .int (v_5 12), .ref (r_4 21), .ref (r_4 22), .int (v_5 13), .ref (r_4 23), .int (v_5 14), .int (v_5 15), .ref (r_4 24), .ref (r_4 25), .ref (r_4 26), .ref (r_4 27), .ref (r_4 28), .ref (r_4 29), .ref (r_4 30), .ref (r_4 31)]))) := by have q9 := hv_29; rw [eΓ_28, tg_f] at q9; rw [eΓ_28]; exact hI.setg hU rfl ho (show tp_o_M L K 0 0 (tgu (Γ_2 (39, 0, 0)) 8 z_27.toInt) _ from ⟨r_4, (upd v_5 8 z_27), q_6, rfl, hr_7, q9⟩)
      have hfr9 : ∀ b, (K b).1 ∉ ([39, 43, 44] : List Nat) → va_up f_1 o (.inr (12, [.ref (r_4 0), .ref (r_4 1), .int (v_5 0), .ref (r_4 2), .ref (r_4 3), .ref (r_4 4), .ref (r_4 5), .ref (r_4 6), .ref (r_4 7), .ref (r_4 8), .ref (r_4 9), .ref (r_4 10), .ref (r_4 11), .ref (r_4 12), .ref (r_4 13), .ref (r_4 14), .ref (r_4 15), .int (v_5 1), .int (v_5 2), .int (v_5 3), .int (v_5 4), .int (v_5 5), .int (v_5 6), .int (v_5 7), .ref (r_4 16), .int z_27, .ref (r_4 17), .int (v_5 9), .ref (r_4 18), .long q_6, .ref (r_4 19), .ref (r_4 20), .int (v_5 10), .int (v_5 11), .int (v_5 12), .ref (r_4 21), .ref (r_4 22), .int (v_5 13), .ref (r_4 23), .int (v_5 14), .int (v_5 15), .ref (r_4 24), .ref (r_4 25), .ref (r_4 26), .ref (r_4 27), .ref (r_4 28), .ref (r_4 29), .ref (r_4 30), .ref (r_4 31)])) b = f b := tp_fr hfr ho (by decide)
      refine tp_put (cy := cy) (ci := 12) (v := .int z_27) (ty := tyX12 25) (C := RX12) (T := TX12) (N := 49) hx hb hta inlX12 tyX12 tyX12_ok nmX12 hown hK hP hD hS ho.1 hf_3 rfl 25 (by decide) (hta _ wk_657) (fun _ h9 => h9) rfl (tyX12_ok 25 (by decide)) rfl rfl (Nat.le_of_ble_eq_true rfl) dX12_settles_32 (fun H locs hP hD hS => ?_)
      have hP : va_P D vwCl (va_pl L (va_up f_1 o (.inr (12, [.ref (r_4 0), .ref (r_4 1), .int (v_5 0), .ref (r_4 2), .ref (r_4 3), .ref (r_4 4), .ref (r_4 5), .ref (r_4 6), .ref (r_4 7), .ref (r_4 8), .ref (r_4 9), .ref (r_4 10), .ref (r_4 11), .ref (r_4 12), .ref (r_4 13), .ref (r_4 14), .ref (r_4 15), .int (v_5 1), .int (v_5 2), .int (v_5 3), .int (v_5 4), .int (v_5 5), .int (v_5 6), .int (v_5 7), .ref (r_4 16), .int z_27, .ref (r_4 17), .int (v_5 9), .ref (r_4 18), .long q_6, .ref (r_4 19), .ref (r_4 20), .int (v_5 10), .int (v_5 11), .int (v_5 12), .ref (r_4 21), .ref (r_4 22), .int (v_5 13), .ref (r_4 23), .int (v_5 14), .int (v_5 15), .ref (r_4 24), .ref (r_4 25), .ref (r_4 26), .ref (r_4 27), .ref (r_4 28), .ref (r_4 29), .ref (r_4 30), .ref (r_4 31)])))) H := hP
      generalize hfe : va_up f_1 o (.inr (12, [.ref (r_4 0), .ref (r_4 1), .int (v_5 0), .ref (r_4 2), .ref (r_4 3), .ref (r_4 4), .ref (r_4 5), .ref (r_4 6), .ref (r_4 7), .ref (r_4 8), .ref (r_4 9), .ref (r_4 10), .ref (r_4 11), .ref (r_4 12), .ref (r_4 13), .ref (r_4 14), .ref (r_4 15), .int (v_5 1), .int (v_5 2), .int (v_5 3), .int (v_5 4), .int (v_5 5), .int (v_5 6), .int (v_5 7), .ref (r_4 16), .int z_27, .ref (r_4 17), .int (v_5 9), .ref (r_4 18), .long q_6, .ref (r_4 19), .ref (r_4 20), .int (v_5 10), .int (v_5 11), .int (v_5 12), .ref (r_4 21), .ref (r_4 22), .int (v_5 13), .ref (r_4 23), .int (v_5 14), .int (v_5 15), .ref (r_4 24), .ref (r_4 25), .ref (r_4 26), .ref (r_4 27), .ref (r_4 28), .ref (r_4 29), .ref (r_4 30), .ref (r_4 31)])) = f_30 at hP hI9 hfr9
      have hD : va_D A (va_pl L f_30) := tp_D hL hAL
      have hf_31 : f_30 o = .inr (12, [.ref (r_4 0), .ref (r_4 1), .int (v_5 0), .ref (r_4 2), .ref (r_4 3), .ref (r_4 4), .ref (r_4 5), .ref (r_4 6), .ref (r_4 7), .ref (r_4 8), .ref (r_4 9), .ref (r_4 10), .ref (r_4 11), .ref (r_4 12), .ref (r_4 13), .ref (r_4 14), .ref (r_4 15), .int (v_5 1), .int (v_5 2), .int (v_5 3), .int (v_5 4), .int (v_5 5), .int (v_5 6), .int (v_5 7), .ref (r_4 16), .int z_27, .ref (r_4 17), .int (v_5 9), .ref (r_4 18), .long q_6, .ref (r_4 19), .ref (r_4 20), .int (v_5 10), .int (v_5 11), .int (v_5 12), .ref (r_4 21), .ref (r_4 22), .int (v_5 13), .ref (r_4 23), .int (v_5 14), .int (v_5 15), .ref (r_4 24), .ref (r_4 25), .ref (r_4 26), .ref (r_4 27), .ref (r_4 28), .ref (r_4 29), .ref (r_4 30), .ref (r_4 31)]) := by rw [← hfe]; exact va_up_self _ _ _
      clear hfe
      have hI := hI9
      have hfr := hfr9
      clear hI9 hfr9
      have hgr : ∀ κ : tk_K, κ.1 ∉ ([39, 43, 44] : List Nat) → Γ_28 κ = Γ κ := tg_fr hgr eΓ_28 (by decide)
      have hx_32 : (v_5 0).toInt = Γ_28 (39, 0, 0) 0 := hv_29 0 (by decide)
      have hx_33 : (v_5 1).toInt = Γ_28 (39, 0, 0) 1 := hv_29 1 (by decide)
      have hx_34 : (v_5 3).toInt = Γ_28 (39, 0, 0) 3 := hv_29 3 (by decide)
      have hx_35 : (v_5 4).toInt = Γ_28 (39, 0, 0) 4 := hv_29 4 (by decide)
      have hx_36 : (v_5 5).toInt = Γ_28 (39, 0, 0) 5 := hv_29 5 (by decide)
      have hx_37 : (v_5 6).toInt = Γ_28 (39, 0, 0) 6 := hv_29 6 (by decide)
      have hx_38 : (v_5 7).toInt = Γ_28 (39, 0, 0) 7 := hv_29 7 (by decide)
      have hx_39 : z_27.toInt = Γ_28 (39, 0, 0) 8 := hv_29 8 (by decide)
      obtain ⟨hpa, hpb, hpc, hpd, _⟩ := id hp
      have hle := congrFun (show Γ_28 (44, 22, 0) = _ from by rw [eΓ_28, tg_rf (by decide)]) t0.toNat
      have hp : ps (Γ_28 (43, 8800, 0)) t0 (Γ_28 (44, 22, 0) t0.toNat) (Γ_28 (39, 0, 0) 1) T0 (Γ_28 (39, 0, 0) 5) a (1 + cn ω (Γ_2 (39, 0, 0) 8).toNat) := hp.eq (show Γ_28 (43, 8800, 0) = _ from by rw [eΓ_28, tg_rf (by decide)]) rfl (congrFun (show Γ_28 (44, 22, 0) = _ from by rw [eΓ_28, tg_rf (by decide)]) _) (by omega) rfl (by omega)
      have hz : fz (Γ (43, 8800, 0)) (Γ_28 (43, 8800, 0)) (Γ (44, 22, 0)) (Γ_28 (44, 22, 0)) t0 := by rw [(show Γ_28 (43, 8800, 0) = _ from by rw [eΓ_28, tg_rf (by decide)]), (show Γ_28 (44, 22, 0) = _ from by rw [eΓ_28, tg_rf (by decide)])]; exact hz
      have hfw : fw (Γ (43, 8800, 0)) (Γ_28 (43, 8800, 0)) (Γ (44, 22, 0)) (Γ_28 (44, 22, 0)) t0 := by rw [(show Γ_28 (43, 8800, 0) = _ from by rw [eΓ_28, tg_rf (by decide)]), (show Γ_28 (44, 22, 0) = _ from by rw [eΓ_28, tg_rf (by decide)])]; exact hfw
      refine lv_aload_n hx hb dX12_settles_35 rfl (lv_at hl 0 rfl) ?_
      refine lv_aload_n hx hb dX12_settles_36 rfl (lv_at hl 0 rfl) ?_
      refine tp_get (cy := cy) (ci := 12) (v := .ref (r_4 16)) (C := RX12) (T := TX12) (N := 49) hx hb hta inlX12 hown hK hP ho.1 hf_31 rfl 24 (by decide) (hta _ wk_166) (fun _ h9 => h9) rfl dX12_settles_37 ?_
      refine lv_aload_n hx hb dX12_settles_40 rfl (lv_at hl 0 rfl) ?_
      refine tp_get (cy := cy) (ci := 12) (v := .int z_27) (C := RX12) (T := TX12) (N := 49) hx hb hta inlX12 hown hK hP ho.1 hf_31 rfl 25 (by decide) (hta _ wk_657) (fun _ h9 => h9) rfl dX12_settles_41 ?_
      have hn_40 : vp_in z_27 (400) := tl_in (by omega) (by omega)
      refine tp_iald (cy := cy) hx hb hK hP (show tp_r L K 52 400 0 (r_4 16) from hr_7 16 (by decide)).1 ((tp_un hfr (show tp_r L K 52 400 0 (r_4 16) from hr_7 16 (by decide)) (by decide)).trans hf_19) hn_40 dX12_settles_44 ?_
      refine lv_topi (fun z_41 ez_41 => ?_)
      have iz_41 : z_41.toInt = Γ (52, 400, 0) z_27.toInt.toNat := by rw [ez_41]; exact hg_21 _ (tp_pin hn_40)
      have jz_41 : z_41.toInt = Γ (52, 400, 0) (Γ_28 (39, 0, 0) 8).toNat := by rw [← hx_39]; exact iz_41
      rw [hom] at iz_41 jz_41
      refine lv_iconst (v := 0) hx hb dX12_settles_45 (by decide) ?_
      have hsr : z_41.toInt = z_23.toInt ∧ (z_41.toInt = 11 ∨ z_41.toInt = 12 ∨ z_41.toInt = 13) := by have q9 := stren_pos (show 1 ≤ stren z_23.toInt from by omega); have q8 : z_41.toInt = z_23.toInt := (by rw [jz_41, ← htop]; exact congrArg _ (by omega)); exact ⟨q8, by rw [q8]; exact q9⟩
      refine tq_cvR hS (hAf _ hS.1) (tq_rV (As := [.int z_41, .int 0]) (rest := []) ⟨hx, hb, hml, hown, hta⟩ (tp_P.pre hK hN hL hU hI hP) (tp_recv hK hP ho.1 hf_31 rfl) lk_X12_228 (r_X12_puts l D cy H.size L K Γ_28 f_30 o z_41 0 t0 ho (by first | omega | (simp only [Int32.toInt_toInt64]; omega) | decide | assumption) (by first | omega | (simp only [Int32.toInt_toInt64]; omega) | decide | assumption) (by first | omega | (simp only [Int32.toInt_toInt64]; omega) | decide | assumption) (by first | omega | (simp only [Int32.toInt_toInt64]; omega) | decide | assumption)) rfl rfl ⟨Nat.le_of_ble_eq_true rfl, Nat.le_of_ble_eq_true rfl⟩ rfl hl.1 rfl (Nat.le_of_ble_eq_true rfl) dX12_settles_46 ⟨Nat.le_of_ble_eq_true rfl, Nat.le_of_ble_eq_true rfl⟩) (fun f_44 Γ_46 H locs hw_42 hP hI hc_45 hcg_47 hS => ?_)
      have hD : va_D A (va_pl L f_44) := tp_D hL hAL
      have hfr := tp_fr2 hfr hc_45 (by decide)
      have hgr : ∀ κ : tk_K, κ.1 ∉ ([39, 43, 44] : List Nat) → Γ_46 κ = Γ κ := tg_fr2 hgr hcg_47 (by decide)
      have hf_48 := (tp_un hc_45 ho (by decide)).trans hf_31
      have hv_49 : ∀ i : Nat, i < 16 → ((upd v_5 8 z_27) i).toInt = Γ_46 (39, 0, 0) i := fun i hi => by rw [hcg_47 _ (by decide)]; exact hv_29 i hi
      have hx_50 : (v_5 0).toInt = Γ_46 (39, 0, 0) 0 := hv_49 0 (by decide)
      have hx_51 : (v_5 1).toInt = Γ_46 (39, 0, 0) 1 := hv_49 1 (by decide)
      have hx_52 : (v_5 3).toInt = Γ_46 (39, 0, 0) 3 := hv_49 3 (by decide)
      have hx_53 : (v_5 4).toInt = Γ_46 (39, 0, 0) 4 := hv_49 4 (by decide)
      have hx_54 : (v_5 5).toInt = Γ_46 (39, 0, 0) 5 := hv_49 5 (by decide)
      have hx_55 : (v_5 6).toInt = Γ_46 (39, 0, 0) 6 := hv_49 6 (by decide)
      have hx_56 : (v_5 7).toInt = Γ_46 (39, 0, 0) 7 := hv_49 7 (by decide)
      have hx_57 : z_27.toInt = Γ_46 (39, 0, 0) 8 := hv_49 8 (by decide)
      have mk_46_0 : Γ_46 (39, 0, 0) 0 = Γ_28 (39, 0, 0) 0 := congrFun (hcg_47 (39, 0, 0) (by decide)) 0
      have mk_46_1 : Γ_46 (39, 0, 0) 1 = Γ_28 (39, 0, 0) 1 := congrFun (hcg_47 (39, 0, 0) (by decide)) 1
      have mk_46_3 : Γ_46 (39, 0, 0) 3 = Γ_28 (39, 0, 0) 3 := congrFun (hcg_47 (39, 0, 0) (by decide)) 3
      have mk_46_4 : Γ_46 (39, 0, 0) 4 = Γ_28 (39, 0, 0) 4 := congrFun (hcg_47 (39, 0, 0) (by decide)) 4
      have mk_46_5 : Γ_46 (39, 0, 0) 5 = Γ_28 (39, 0, 0) 5 := congrFun (hcg_47 (39, 0, 0) (by decide)) 5
      have mk_46_6 : Γ_46 (39, 0, 0) 6 = Γ_28 (39, 0, 0) 6 := congrFun (hcg_47 (39, 0, 0) (by decide)) 6
      have mk_46_7 : Γ_46 (39, 0, 0) 7 = Γ_28 (39, 0, 0) 7 := congrFun (hcg_47 (39, 0, 0) (by decide)) 7
      have mk_46_8 : Γ_46 (39, 0, 0) 8 = Γ_28 (39, 0, 0) 8 := congrFun (hcg_47 (39, 0, 0) (by decide)) 8
      have hw_42 : Γ_46 (43, 8800, 0) = tgu (Γ_28 (43, 8800, 0)) (400 * t0 + Γ_28 (44, 22, 0) t0.toNat).toNat (z_41.toInt + 16 * (0 : Int)) ∧ Γ_46 (44, 22, 0) = tgu (Γ_28 (44, 22, 0)) t0.toNat (Γ_28 (44, 22, 0) t0.toNat + 1) := hw_42
      obtain ⟨hpa, hpb, hpc, hpd, _⟩ := id hp
      have hz9 : z_41.toInt = z_23.toInt := by rw [jz_41, ← htop]; exact congrArg _ (by omega)
      have hcn : cn ω (Γ_2 (39, 0, 0) 8).toNat = cn ω (Γ_28 (39, 0, 0) 8).toNat + (if z_41.toInt = 12 ∨ z_41.toInt = 13 then 1 else 0) := by rw [show (Γ_2 (39, 0, 0) 8).toNat = (Γ_28 (39, 0, 0) 8).toNat + 1 from by omega, cn1, ← jz_41]
      have hcn0 := cn_nn ω (Γ_28 (39, 0, 0) 8).toNat
      have hlem := rp_pop (w := z_41.toInt) (D := 1 + cn ω (Γ_2 (39, 0, 0) 8).toNat) (c := cn ω (Γ_28 (39, 0, 0) 8).toNat) (by have q9 := stren_pos (show 1 ≤ stren z_23.toInt from by omega); rw [hz9]; exact q9) hcn0 (by rw [hcn])
      have hput := hp.put (e := (z_41.toInt + 16 * (0 : Int))) (by omega) hlem.1 (by rw [hlem.2]; omega)
      rw [hlem.2] at hput
      have hln2 : Γ_46 (44, 22, 0) t0.toNat = Γ_28 (44, 22, 0) t0.toNat + 1 := by rw [hw_42.2, tgu_s]
      have hfz2 : fz (Γ_28 (43, 8800, 0)) (Γ_46 (43, 8800, 0)) (Γ_28 (44, 22, 0)) (Γ_46 (44, 22, 0)) t0 := by rw [hw_42.1, hw_42.2]; exact fz.put (by omega) (by omega)
      have hp : ps (Γ_46 (43, 8800, 0)) t0 (Γ_46 (44, 22, 0) t0.toNat) (Γ_46 (39, 0, 0) 1) T0 (Γ_46 (39, 0, 0) 5) a (1 + cn ω (Γ_46 (39, 0, 0) 8).toNat) := by rw [hln2, hw_42.1, show Γ_46 (39, 0, 0) 1 = Γ_28 (39, 0, 0) 1 from by omega, show Γ_46 (39, 0, 0) 5 = Γ_28 (39, 0, 0) 5 from by omega, show Γ_46 (39, 0, 0) 8 = Γ_28 (39, 0, 0) 8 from by omega]; exact hput.dd (by omega)
      have hz := hz.trans hfz2
      have hfw := hfw.trans (hfz2.fw (by omega))
      refine lv_aload_n hx hb dX12_settles_49 rfl (lv_at hl 0 rfl) ?_
      refine tp_get (cy := cy) (ci := 12) (v := .ref (r_4 16)) (C := RX12) (T := TX12) (N := 49) hx hb hta inlX12 hown hK hP ho.1 hf_48 rfl 24 (by decide) (hta _ wk_166) (fun _ h9 => h9) rfl dX12_settles_50 ?_
      refine lv_aload_n hx hb dX12_settles_53 rfl (lv_at hl 0 rfl) ?_
      refine tp_get (cy := cy) (ci := 12) (v := .int z_27) (C := RX12) (T := TX12) (N := 49) hx hb hta inlX12 hown hK hP ho.1 hf_48 rfl 25 (by decide) (hta _ wk_657) (fun _ h9 => h9) rfl dX12_settles_54 ?_
      have hn_58 : vp_in z_27 (400) := tl_in (by omega) (by omega)
      refine tp_iald (cy := cy) hx hb hK hP (show tp_r L K 52 400 0 (r_4 16) from hr_7 16 (by decide)).1 ((tp_un hfr (show tp_r L K 52 400 0 (r_4 16) from hr_7 16 (by decide)) (by decide)).trans hf_19) hn_58 dX12_settles_57 ?_
      refine lv_topi (fun z_59 ez_59 => ?_)
      obtain rfl : z_41 = z_59 := ez_41.trans ez_59.symm
      refine lv_bipush (v := 11) hx hb dX12_settles_58 (by decide) ?_
      refine lv_icmp_ne (tgt := 0) hx hb dX12_settles_60 (by decide) (fun c_60 => ?_) (fun c_60 => ?_)
      · have c_60 : ¬ z_41.toInt = (11 : Int) := tl_neq c_60
        exact ih0 (f_44, Γ_46) H locs ls (by show (Γ_46 (39, 0, 0) 8).toNat < (Γ_2 (39, 0, 0) 8).toNat; omega) ⟨(show ps (Γ_46 (43, 8800, 0)) t0 (Γ_46 (44, 22, 0) t0.toNat) (Γ_46 (39, 0, 0) 1) T0 (Γ_46 (39, 0, 0) 5) a (1 + cn ω (Γ_46 (39, 0, 0) 8).toNat) from hp), (show fz (Γ (43, 8800, 0)) (Γ_46 (43, 8800, 0)) (Γ (44, 22, 0)) (Γ_46 (44, 22, 0)) t0 from hz), (show fw (Γ (43, 8800, 0)) (Γ_46 (43, 8800, 0)) (Γ (44, 22, 0)) (Γ_46 (44, 22, 0)) t0 from hfw), (show Γ_46 (39, 0, 0) 0 = Γ (39, 0, 0) 0 from (by omega)), (show Γ_46 (39, 0, 0) 1 = Γ (39, 0, 0) 1 from (by omega)), (show Γ_46 (39, 0, 0) 4 = Γ (39, 0, 0) 4 from (by omega)), (show Γ_46 (39, 0, 0) 5 = Γ (39, 0, 0) 5 from (by omega)), (show Γ_46 (39, 0, 0) 7 = Γ (39, 0, 0) 7 from (by omega)), (show 0 ≤ Γ_46 (39, 0, 0) 8 ∧ Γ_46 (39, 0, 0) 8 ≤ Γ (39, 0, 0) 8 from (by omega)), (show Γ_46 (44, 22, 0) t0.toNat + Γ_46 (39, 0, 0) 8 = Γ (44, 22, 0) t0.toNat + Γ (39, 0, 0) 8 from (by omega)), (show ∀ j : Nat, (j : Int) < Γ (39, 0, 0) 8 → ω j = 91 → (j : Int) < Γ_46 (39, 0, 0) 8 from (fun j9 q8 q7 => by have q6 := h91 j9 q8 q7; by_cases q5 : (j9 : Int) = Γ_2 (39, 0, 0) 8 - 1; (exfalso; have q4 := stren_pos (show 1 ≤ stren z_23.toInt from by omega); rw [← htop, show (Γ_2 (39, 0, 0) 8 - 1).toNat = j9 from by omega, q7] at q4; omega); omega)), hP, hI, hfr, hgr, hS, lv_sub hl [0, 1] rfl⟩
      · have c_60 : z_41.toInt = (11 : Int) := tl_eq c_60
        refine lv_aload_n hx hb dX12_settles_63 rfl (lv_at hl 0 rfl) ?_
        refine lv_dup hx hb dX12_settles_64 rfl ?_
        refine tp_get (cy := cy) (ci := 12) (v := .int (v_5 6)) (C := RX12) (T := TX12) (N := 49) hx hb hta inlX12 hown hK hP ho.1 hf_48 rfl 22 (by decide) (hta _ wk_658) (fun _ h9 => h9) rfl dX12_settles_65 ?_
        refine lv_iconst (v := 1) hx hb dX12_settles_68 (by decide) ?_
        refine lv_isub hx hb dX12_settles_69 ?_
        refine lv_topi (fun z_61 ez_61 => ?_)
        try have iz_61 : z_61.toInt = (v_5 6).toInt - (1 : Int) := by rw [ez_61]; exact tl_subN (v_5 6) 1 rfl rfl (by omega) (by omega)
        obtain ⟨Γ_62, eΓ_62⟩ : ∃ y : tk_G, y = tg Γ_46 (39, 0, 0) 6 z_61.toInt := ⟨_, rfl⟩
        have hv_63 : ∀ i : Nat, i < 16 → ((upd (upd v_5 8 z_27) 6 z_61) i).toInt = Γ_62 (39, 0, 0) i := by rw [eΓ_62, tg_f]; exact tp_gi_upd hv_49
        have hI9 : tp_I cy L K Γ_62 (va_up f_44 o (.inr (12, [.ref (r_4 0), .ref (r_4 1), .int (v_5 0), .ref (r_4 2), .ref (r_4 3), .ref (r_4 4), .ref (r_4 5), .ref (r_4 6), .ref (r_4 7), .ref (r_4 8), .ref (r_4 9), .ref (r_4 10), .ref (r_4 11), .ref (r_4 12), .ref (r_4 13), .ref (r_4 14), .ref (r_4 15), .int (v_5 1), .int (v_5 2), .int (v_5 3), .int (v_5 4), .int (v_5 5), .int z_61, .int (v_5 7), .ref (r_4 16), .int z_27, .ref (r_4 17), .int (v_5 9), .ref (r_4 18), .long q_6, .ref (r_4 19), .ref (r_4 20), .int (v_5 10), .int (v_5 11), .int (v_5 12), .ref (r_4 21), .ref (r_4 22), .int (v_5 13), .ref (r_4 23), .int (v_5 14), .int (v_5 15), .ref (r_4 24), .ref (r_4 25), .ref (r_4 26), .ref (r_4 27), .ref (r_4 28), .ref (r_4 29), .ref (r_4 30), .ref (r_4 31)]))) := by have q9 := hv_63; rw [eΓ_62, tg_f] at q9; rw [eΓ_62]; exact hI.setg hU rfl ho (show tp_o_M L K 0 0 (tgu (Γ_46 (39, 0, 0)) 6 z_61.toInt) _ from ⟨r_4, (upd (upd v_5 8 z_27) 6 z_61), q_6, rfl, hr_7, q9⟩)
        have hfr9 : ∀ b, (K b).1 ∉ ([39, 43, 44] : List Nat) → va_up f_44 o (.inr (12, [.ref (r_4 0), .ref (r_4 1), .int (v_5 0), .ref (r_4 2), .ref (r_4 3), .ref (r_4 4), .ref (r_4 5), .ref (r_4 6), .ref (r_4 7), .ref (r_4 8), .ref (r_4 9), .ref (r_4 10), .ref (r_4 11), .ref (r_4 12), .ref (r_4 13), .ref (r_4 14), .ref (r_4 15), .int (v_5 1), .int (v_5 2), .int (v_5 3), .int (v_5 4), .int (v_5 5), .int z_61, .int (v_5 7), .ref (r_4 16), .int z_27, .ref (r_4 17), .int (v_5 9), .ref (r_4 18), .long q_6, .ref (r_4 19), .ref (r_4 20), .int (v_5 10), .int (v_5 11), .int (v_5 12), .ref (r_4 21), .ref (r_4 22), .int (v_5 13), .ref (r_4 23), .int (v_5 14), .int (v_5 15), .ref (r_4 24), .ref (r_4 25), .ref (r_4 26), .ref (r_4 27), .ref (r_4 28), .ref (r_4 29), .ref (r_4 30), .ref (r_4 31)])) b = f b := tp_fr hfr ho (by decide)
        refine tp_put (cy := cy) (ci := 12) (v := .int z_61) (ty := tyX12 22) (C := RX12) (T := TX12) (N := 49) hx hb hta inlX12 tyX12 tyX12_ok nmX12 hown hK hP hD hS ho.1 hf_48 rfl 22 (by decide) (hta _ wk_658) (fun _ h9 => h9) rfl (tyX12_ok 22 (by decide)) rfl rfl (Nat.le_of_ble_eq_true rfl) dX12_settles_70 (fun H locs hP hD hS => ?_)
        have hP : va_P D vwCl (va_pl L (va_up f_44 o (.inr (12, [.ref (r_4 0), .ref (r_4 1), .int (v_5 0), .ref (r_4 2), .ref (r_4 3), .ref (r_4 4), .ref (r_4 5), .ref (r_4 6), .ref (r_4 7), .ref (r_4 8), .ref (r_4 9), .ref (r_4 10), .ref (r_4 11), .ref (r_4 12), .ref (r_4 13), .ref (r_4 14), .ref (r_4 15), .int (v_5 1), .int (v_5 2), .int (v_5 3), .int (v_5 4), .int (v_5 5), .int z_61, .int (v_5 7), .ref (r_4 16), .int z_27, .ref (r_4 17), .int (v_5 9), .ref (r_4 18), .long q_6, .ref (r_4 19), .ref (r_4 20), .int (v_5 10), .int (v_5 11), .int (v_5 12), .ref (r_4 21), .ref (r_4 22), .int (v_5 13), .ref (r_4 23), .int (v_5 14), .int (v_5 15), .ref (r_4 24), .ref (r_4 25), .ref (r_4 26), .ref (r_4 27), .ref (r_4 28), .ref (r_4 29), .ref (r_4 30), .ref (r_4 31)])))) H := hP
        generalize hfe : va_up f_44 o (.inr (12, [.ref (r_4 0), .ref (r_4 1), .int (v_5 0), .ref (r_4 2), .ref (r_4 3), .ref (r_4 4), .ref (r_4 5), .ref (r_4 6), .ref (r_4 7), .ref (r_4 8), .ref (r_4 9), .ref (r_4 10), .ref (r_4 11), .ref (r_4 12), .ref (r_4 13), .ref (r_4 14), .ref (r_4 15), .int (v_5 1), .int (v_5 2), .int (v_5 3), .int (v_5 4), .int (v_5 5), .int z_61, .int (v_5 7), .ref (r_4 16), .int z_27, .ref (r_4 17), .int (v_5 9), .ref (r_4 18), .long q_6, .ref (r_4 19), .ref (r_4 20), .int (v_5 10), .int (v_5 11), .int (v_5 12), .ref (r_4 21), .ref (r_4 22), .int (v_5 13), .ref (r_4 23), .int (v_5 14), .int (v_5 15), .ref (r_4 24), .ref (r_4 25), .ref (r_4 26), .ref (r_4 27), .ref (r_4 28), .ref (r_4 29), .ref (r_4 30), .ref (r_4 31)])) = f_64 at hP hI9 hfr9
        have hD : va_D A (va_pl L f_64) := tp_D hL hAL
        have hf_65 : f_64 o = .inr (12, [.ref (r_4 0), .ref (r_4 1), .int (v_5 0), .ref (r_4 2), .ref (r_4 3), .ref (r_4 4), .ref (r_4 5), .ref (r_4 6), .ref (r_4 7), .ref (r_4 8), .ref (r_4 9), .ref (r_4 10), .ref (r_4 11), .ref (r_4 12), .ref (r_4 13), .ref (r_4 14), .ref (r_4 15), .int (v_5 1), .int (v_5 2), .int (v_5 3), .int (v_5 4), .int (v_5 5), .int z_61, .int (v_5 7), .ref (r_4 16), .int z_27, .ref (r_4 17), .int (v_5 9), .ref (r_4 18), .long q_6, .ref (r_4 19), .ref (r_4 20), .int (v_5 10), .int (v_5 11), .int (v_5 12), .ref (r_4 21), .ref (r_4 22), .int (v_5 13), .ref (r_4 23), .int (v_5 14), .int (v_5 15), .ref (r_4 24), .ref (r_4 25), .ref (r_4 26), .ref (r_4 27), .ref (r_4 28), .ref (r_4 29), .ref (r_4 30), .ref (r_4 31)]) := by rw [← hfe]; exact va_up_self _ _ _
        clear hfe
        have hI := hI9
        have hfr := hfr9
        clear hI9 hfr9
        have hgr : ∀ κ : tk_K, κ.1 ∉ ([39, 43, 44] : List Nat) → Γ_62 κ = Γ κ := tg_fr hgr eΓ_62 (by decide)
        have hx_66 : (v_5 0).toInt = Γ_62 (39, 0, 0) 0 := hv_63 0 (by decide)
        have hx_67 : (v_5 1).toInt = Γ_62 (39, 0, 0) 1 := hv_63 1 (by decide)
        have hx_68 : (v_5 3).toInt = Γ_62 (39, 0, 0) 3 := hv_63 3 (by decide)
        have hx_69 : (v_5 4).toInt = Γ_62 (39, 0, 0) 4 := hv_63 4 (by decide)
        have hx_70 : (v_5 5).toInt = Γ_62 (39, 0, 0) 5 := hv_63 5 (by decide)
        have hx_71 : z_61.toInt = Γ_62 (39, 0, 0) 6 := hv_63 6 (by decide)
        have hx_72 : (v_5 7).toInt = Γ_62 (39, 0, 0) 7 := hv_63 7 (by decide)
        have hx_73 : z_27.toInt = Γ_62 (39, 0, 0) 8 := hv_63 8 (by decide)
        obtain ⟨hpa, hpb, hpc, hpd, _⟩ := id hp
        have hle := congrFun (show Γ_62 (44, 22, 0) = _ from by rw [eΓ_62, tg_rf (by decide)]) t0.toNat
        have hp : ps (Γ_62 (43, 8800, 0)) t0 (Γ_62 (44, 22, 0) t0.toNat) (Γ_62 (39, 0, 0) 1) T0 (Γ_62 (39, 0, 0) 5) a (1 + cn ω (Γ_46 (39, 0, 0) 8).toNat) := hp.eq (show Γ_62 (43, 8800, 0) = _ from by rw [eΓ_62, tg_rf (by decide)]) rfl (congrFun (show Γ_62 (44, 22, 0) = _ from by rw [eΓ_62, tg_rf (by decide)]) _) (by omega) rfl (by omega)
        have hz : fz (Γ (43, 8800, 0)) (Γ_62 (43, 8800, 0)) (Γ (44, 22, 0)) (Γ_62 (44, 22, 0)) t0 := by rw [(show Γ_62 (43, 8800, 0) = _ from by rw [eΓ_62, tg_rf (by decide)]), (show Γ_62 (44, 22, 0) = _ from by rw [eΓ_62, tg_rf (by decide)])]; exact hz
        have hfw : fw (Γ (43, 8800, 0)) (Γ_62 (43, 8800, 0)) (Γ (44, 22, 0)) (Γ_62 (44, 22, 0)) t0 := by rw [(show Γ_62 (43, 8800, 0) = _ from by rw [eΓ_62, tg_rf (by decide)]), (show Γ_62 (44, 22, 0) = _ from by rw [eΓ_62, tg_rf (by decide)])]; exact hfw
        refine lv_goto (tgt := 0) hx hb dX12_settles_73 (by decide) ?_
        exact ih0 (f_64, Γ_62) H locs ls (by show (Γ_62 (39, 0, 0) 8).toNat < (Γ_2 (39, 0, 0) 8).toNat; omega) ⟨(show ps (Γ_62 (43, 8800, 0)) t0 (Γ_62 (44, 22, 0) t0.toNat) (Γ_62 (39, 0, 0) 1) T0 (Γ_62 (39, 0, 0) 5) a (1 + cn ω (Γ_62 (39, 0, 0) 8).toNat) from (by have h9 := hp; rw [show Γ_46 (39, 0, 0) 8 = Γ_62 (39, 0, 0) 8 from by omega] at h9; exact h9)), (show fz (Γ (43, 8800, 0)) (Γ_62 (43, 8800, 0)) (Γ (44, 22, 0)) (Γ_62 (44, 22, 0)) t0 from hz), (show fw (Γ (43, 8800, 0)) (Γ_62 (43, 8800, 0)) (Γ (44, 22, 0)) (Γ_62 (44, 22, 0)) t0 from hfw), (show Γ_62 (39, 0, 0) 0 = Γ (39, 0, 0) 0 from (by omega)), (show Γ_62 (39, 0, 0) 1 = Γ (39, 0, 0) 1 from (by omega)), (show Γ_62 (39, 0, 0) 4 = Γ (39, 0, 0) 4 from (by omega)), (show Γ_62 (39, 0, 0) 5 = Γ (39, 0, 0) 5 from (by omega)), (show Γ_62 (39, 0, 0) 7 = Γ (39, 0, 0) 7 from (by omega)), (show 0 ≤ Γ_62 (39, 0, 0) 8 ∧ Γ_62 (39, 0, 0) 8 ≤ Γ (39, 0, 0) 8 from (by omega)), (show Γ_62 (44, 22, 0) t0.toNat + Γ_62 (39, 0, 0) 8 = Γ (44, 22, 0) t0.toNat + Γ (39, 0, 0) 8 from (by omega)), (show ∀ j : Nat, (j : Int) < Γ (39, 0, 0) 8 → ω j = 91 → (j : Int) < Γ_62 (39, 0, 0) 8 from (fun j9 q8 q7 => by have q6 := h91 j9 q8 q7; by_cases q5 : (j9 : Int) = Γ_2 (39, 0, 0) 8 - 1; (exfalso; have q4 := stren_pos (show 1 ≤ stren z_23.toInt from by omega); rw [← htop, show (Γ_2 (39, 0, 0) 8 - 1).toNat = j9 from by omega, q7] at q4; omega); omega)), hP, hI, hfr, hgr, hS, lv_sub hl [0, 1] rfl⟩
set_option maxHeartbeats 4000000 in
set_option maxRecDepth 100000 in
theorem r_X12_closes (l : Launch) (D : va_G) (cy : Nat → ClassId) (sz : Nat) (L : List Nat) (K : Nat → tk_K) (Γ : tk_G) (f : Nat → va_E) (o : Nat) (τ : Nat → Int) (T0 : Int) (t0 : Int) (a : Nat) (d : Int) (ω : Nat → Int) (ho : tp_r L K 39 (0) 0 o) (ht : Γ (41, 400, 0) = τ) (hT : Γ (39, 0, 0) 0 = T0) (hb0 : 0 ≤ Γ (39, 0, 0) 1 ∧ Γ (39, 0, 0) 1 ≤ T0 ∧ T0 ≤ 400) (h4 : Γ (39, 0, 0) 4 = t0) (hp : ps (Γ (43, 8800, 0)) t0 (Γ (44, 22, 0) t0.toNat) (Γ (39, 0, 0) 1) T0 (Γ (39, 0, 0) 5) a (d)) (hom : Γ (52, 400, 0) = ω) (h8 : 0 ≤ Γ (39, 0, 0) 8 ∧ Γ (44, 22, 0) t0.toNat + Γ (39, 0, 0) 8 ≤ Γ (39, 0, 0) 1) (hd : d = 1 + cn ω (Γ (39, 0, 0) 8).toNat) : Met l yX12_closes (tl_w yX12_closes cX12_closes 1 none) ({ frames := 2, cells := 0, slots := 0, locals := 43 }) (va_Pc [.ref o] (tp_P D cy L K Γ f sz)) (va_Qv (fun (u : (Nat → va_E) × tk_G) => ps (u.2 (43, 8800, 0)) t0 (u.2 (44, 22, 0) t0.toNat) (u.2 (39, 0, 0) 1) T0 (u.2 (39, 0, 0) 5) a (1 + cn ω (u.2 (39, 0, 0) 8).toNat) ∧ fz (Γ (43, 8800, 0)) (u.2 (43, 8800, 0)) (Γ (44, 22, 0)) (u.2 (44, 22, 0)) t0 ∧ u.2 (39, 0, 0) 0 = Γ (39, 0, 0) 0 ∧ u.2 (39, 0, 0) 4 = Γ (39, 0, 0) 4 ∧ u.2 (39, 0, 0) 5 = Γ (39, 0, 0) 5 ∧ u.2 (39, 0, 0) 7 = Γ (39, 0, 0) 7 ∧ Γ (39, 0, 0) 1 ≤ u.2 (39, 0, 0) 1 ∧ u.2 (39, 0, 0) 1 ≤ T0 ∧ (0 ≤ u.2 (39, 0, 0) 8 ∧ u.2 (39, 0, 0) 8 ≤ Γ (39, 0, 0) 8) ∧ u.2 (44, 22, 0) t0.toNat + u.2 (39, 0, 0) 8 ≤ u.2 (39, 0, 0) 1) (tp_BG D cy L K Γ f [39, 43, 44]) (tp_A L sz)) 0 0 (tp_A L sz) := by
  refine Met.ofW (cc := cX12_closes) (maxL := 1) (ret := none) (by decide) rfl ?_
  intro p e s m args below meth c s₁ B hml hv
  obtain ⟨rfl, hsz, hP, hK, hL, hI, hN, hU⟩ := hv
  have hx := B.exec
  have hb := B.bytes
  have hr := B.returns
  have hta := tl_hta (atoms_spec (ws := tl_w yX12_closes cX12_closes 1 none) B.pre)
  have hown : s.vm.findClass RX12 = some m.cls := findClass_of_methodNamed B.named
  have hlocks := B.notSynchronized
  subst hsz
  have hI0 := hI
  generalize hAe : tp_A L s.heap.size = A
  have hA : ∀ q : Nat, s.heap.size ≤ q → A q := fun q h => by rw [← hAe]; exact Or.inr h
  have hAL : ∀ q ∈ L, A q := fun q h => by rw [← hAe]; exact Or.inl h
  have hAf : ∀ (H : Heap), s.heap.size ≤ H.size → ∀ q, tp_A L H.size q → A q := fun H h q hq => hq.elim (hAL q) (fun h2 => hA q (Nat.le_trans h h2))
  have hS : va_S A s.heap s.heap [] := va_S.rf
  have hD : va_D A (va_pl L f) := tp_D hL hAL
  have hfr : ∀ b, (K b).1 ∉ ([39, 43, 44] : List Nat) → f b = f b := fun _ _ => rfl
  have hgr : ∀ κ : tk_K, κ.1 ∉ ([39, 43, 44] : List Nat) → Γ κ = Γ κ := fun _ _ => rfl
  have hl := lv_entry ([.ref o]) (n := 1) (Nat.le_of_ble_eq_true rfl)
  rw [lg_entry_eq]
  generalize (lg_sl ([.ref o]) ++ List.replicate (1 - (lg_sl ([.ref o])).length) Slot.unset).toArray = ls at hl ⊢
  have hl : lv_has ls 1 [(0, .ref o)] := hl
  have hz : fz (Γ (43, 8800, 0)) (Γ (43, 8800, 0)) (Γ (44, 22, 0)) (Γ (44, 22, 0)) t0 := fz.rfl
  have hfw : fw (Γ (43, 8800, 0)) (Γ (43, 8800, 0)) (Γ (44, 22, 0)) (Γ (44, 22, 0)) t0 := fw.same
  have hpo := hp
  obtain ⟨hp1, hp2, hp3, hp4, _⟩ := hpo
  refine lv_aload_n hx hb dX12_closes_0 rfl (lv_at hl 0 rfl) ?_
  refine lv_iconst (v := 3) hx hb dX12_closes_1 (by decide) ?_
  obtain ⟨r_2, v_3, q_4, hf_1, hr_5, hv_6⟩ := (show tp_o_M L K 0 0 (Γ (39, 0, 0)) (f o) from hI.at ho)
  refine tq_cvR hS (hAf _ hS.1) (tq_rV (As := [.int 3]) (rest := []) ⟨hx, hb, hml, hown, hta⟩ (tp_P.pre hK hN hL hU hI hP) (tp_recv hK hP ho.1 hf_1 rfl) lk_X12_260 (r_X12_settles l D cy s.heap.size L K Γ f o 3 τ T0 t0 a (d) ω ho ht (by first | omega | (simp only [Int32.toInt_toInt64]; omega) | decide | assumption) (by first | omega | (simp only [Int32.toInt_toInt64]; omega) | decide | assumption) (by first | omega | (simp only [Int32.toInt_toInt64]; omega) | decide | assumption) (by first | omega | (simp only [Int32.toInt_toInt64]; omega) | decide | assumption) hom (by first | omega | (simp only [Int32.toInt_toInt64]; omega) | decide | assumption) (by first | omega | (simp only [Int32.toInt_toInt64]; omega) | decide | assumption) (by first | omega | (simp only [Int32.toInt_toInt64]; omega) | decide | assumption)) rfl rfl ⟨Nat.le_of_ble_eq_true rfl, Nat.le_of_ble_eq_true rfl⟩ rfl hl.1 rfl (Nat.le_of_ble_eq_true rfl) dX12_closes_2 ⟨Nat.le_of_ble_eq_true rfl, Nat.le_of_ble_eq_true rfl⟩) (fun f_17 Γ_19 H locs hw_15 hP hI hc_18 hcg_20 hS => ?_)
  have hD : va_D A (va_pl L f_17) := tp_D hL hAL
  have hfr := tp_fr2 hfr hc_18 (by decide)
  have hgr : ∀ κ : tk_K, κ.1 ∉ ([39, 43, 44] : List Nat) → Γ_19 κ = Γ κ := tg_fr2 hgr hcg_20 (by decide)
  have hw_15 : ps (Γ_19 (43, 8800, 0)) t0 (Γ_19 (44, 22, 0) t0.toNat) (Γ_19 (39, 0, 0) 1) T0 (Γ_19 (39, 0, 0) 5) a (1 + cn ω (Γ_19 (39, 0, 0) 8).toNat) ∧ fz (Γ (43, 8800, 0)) (Γ_19 (43, 8800, 0)) (Γ (44, 22, 0)) (Γ_19 (44, 22, 0)) t0 ∧ Γ_19 (39, 0, 0) 0 = Γ (39, 0, 0) 0 ∧ Γ_19 (39, 0, 0) 1 = Γ (39, 0, 0) 1 ∧ Γ_19 (39, 0, 0) 4 = Γ (39, 0, 0) 4 ∧ Γ_19 (39, 0, 0) 5 = Γ (39, 0, 0) 5 ∧ Γ_19 (39, 0, 0) 7 = Γ (39, 0, 0) 7 ∧ (0 ≤ Γ_19 (39, 0, 0) 8 ∧ Γ_19 (39, 0, 0) 8 ≤ Γ (39, 0, 0) 8) ∧ Γ_19 (44, 22, 0) t0.toNat + Γ_19 (39, 0, 0) 8 = Γ (44, 22, 0) t0.toNat + Γ (39, 0, 0) 8 ∧ (∀ j : Nat, (j : Int) < Γ (39, 0, 0) 8 → ω j = 91 → (j : Int) < Γ_19 (39, 0, 0) 8) ∧ (Γ_19 (39, 0, 0) 8 = 0 ∨ stren (ω (Γ_19 (39, 0, 0) 8 - 1).toNat) < (3 : Int)) := hw_15
  obtain ⟨hp, hz9, hst2⟩ := hw_15
  have hz := hz.trans hz9
  have hfw := hfw.trans (hz9.fw (by omega))
  obtain ⟨hs0, hs1, hs4, hs5, hs7, hs8, hslm, hs91, hstp⟩ := hst2
  refine tl_ind (G := fun H locs ls => W p l e ((headSpec (tl_w yX12_closes cX12_closes 1 none) ({ frames := 2, cells := 0, slots := 0, locals := 43 })).room) s m #[.ref o] below meth c H locs 0 0 (MQ below (va_Qv (fun (u : (Nat → va_E) × tk_G) => ps (u.2 (43, 8800, 0)) t0 (u.2 (44, 22, 0) t0.toNat) (u.2 (39, 0, 0) 1) T0 (u.2 (39, 0, 0) 5) a (1 + cn ω (u.2 (39, 0, 0) 8).toNat) ∧ fz (Γ (43, 8800, 0)) (u.2 (43, 8800, 0)) (Γ (44, 22, 0)) (u.2 (44, 22, 0)) t0 ∧ u.2 (39, 0, 0) 0 = Γ (39, 0, 0) 0 ∧ u.2 (39, 0, 0) 4 = Γ (39, 0, 0) 4 ∧ u.2 (39, 0, 0) 5 = Γ (39, 0, 0) 5 ∧ u.2 (39, 0, 0) 7 = Γ (39, 0, 0) 7 ∧ Γ (39, 0, 0) 1 ≤ u.2 (39, 0, 0) 1 ∧ u.2 (39, 0, 0) 1 ≤ T0 ∧ (0 ≤ u.2 (39, 0, 0) 8 ∧ u.2 (39, 0, 0) 8 ≤ Γ (39, 0, 0) 8) ∧ u.2 (44, 22, 0) t0.toNat + u.2 (39, 0, 0) 8 ≤ u.2 (39, 0, 0) 1) (tp_BG D cy L K Γ f [39, 43, 44]) A) #[.ref o] s 0 0 A) (F0 m 5 ls [])) (α := (Nat → va_E) × tk_G) (fun aq => (400 - aq.2 (39, 0, 0) 1).toNat) (fun aq H locs ls => (ps (aq.2 (43, 8800, 0)) t0 (aq.2 (44, 22, 0) t0.toNat) (aq.2 (39, 0, 0) 1) T0 (aq.2 (39, 0, 0) 5) a (1 + cn ω (aq.2 (39, 0, 0) 8).toNat)) ∧ (fz (Γ (43, 8800, 0)) (aq.2 (43, 8800, 0)) (Γ (44, 22, 0)) (aq.2 (44, 22, 0)) t0) ∧ (fw (Γ (43, 8800, 0)) (aq.2 (43, 8800, 0)) (Γ (44, 22, 0)) (aq.2 (44, 22, 0)) t0) ∧ (aq.2 (39, 0, 0) 0 = Γ (39, 0, 0) 0) ∧ (aq.2 (39, 0, 0) 4 = Γ (39, 0, 0) 4) ∧ (aq.2 (39, 0, 0) 5 = Γ (39, 0, 0) 5) ∧ (aq.2 (39, 0, 0) 7 = Γ (39, 0, 0) 7) ∧ (Γ (39, 0, 0) 1 ≤ aq.2 (39, 0, 0) 1 ∧ aq.2 (39, 0, 0) 1 ≤ T0) ∧ (0 ≤ aq.2 (39, 0, 0) 8 ∧ aq.2 (39, 0, 0) 8 ≤ Γ (39, 0, 0) 8 ∧ aq.2 (44, 22, 0) t0.toNat + aq.2 (39, 0, 0) 8 ≤ aq.2 (39, 0, 0) 1) ∧ va_P D vwCl (va_pl L aq.1) H ∧ tp_I cy L K aq.2 aq.1 ∧ (∀ b, (K b).1 ∉ ([39, 43, 44] : List Nat) → aq.1 b = f b) ∧ (∀ κ : tk_K, κ.1 ∉ ([39, 43, 44] : List Nat) → aq.2 κ = Γ κ) ∧ va_S A s.heap H locs ∧ lv_has ls 1 [(0, .ref o)]) ?_ (f_17, Γ_19) H locs ls ⟨(show ps (Γ_19 (43, 8800, 0)) t0 (Γ_19 (44, 22, 0) t0.toNat) (Γ_19 (39, 0, 0) 1) T0 (Γ_19 (39, 0, 0) 5) a (1 + cn ω (Γ_19 (39, 0, 0) 8).toNat) from hp), (show fz (Γ (43, 8800, 0)) (Γ_19 (43, 8800, 0)) (Γ (44, 22, 0)) (Γ_19 (44, 22, 0)) t0 from hz), (show fw (Γ (43, 8800, 0)) (Γ_19 (43, 8800, 0)) (Γ (44, 22, 0)) (Γ_19 (44, 22, 0)) t0 from hfw), (show Γ_19 (39, 0, 0) 0 = Γ (39, 0, 0) 0 from (by omega)), (show Γ_19 (39, 0, 0) 4 = Γ (39, 0, 0) 4 from (by omega)), (show Γ_19 (39, 0, 0) 5 = Γ (39, 0, 0) 5 from (by omega)), (show Γ_19 (39, 0, 0) 7 = Γ (39, 0, 0) 7 from (by omega)), (show Γ (39, 0, 0) 1 ≤ Γ_19 (39, 0, 0) 1 ∧ Γ_19 (39, 0, 0) 1 ≤ T0 from (by omega)), (show 0 ≤ Γ_19 (39, 0, 0) 8 ∧ Γ_19 (39, 0, 0) 8 ≤ Γ (39, 0, 0) 8 ∧ Γ_19 (44, 22, 0) t0.toNat + Γ_19 (39, 0, 0) 8 ≤ Γ_19 (39, 0, 0) 1 from (by omega)), hP, hI, hfr, hgr, hS, lv_sub hl [0] rfl⟩
  rintro ⟨f_21, Γ_22⟩ H locs ls ⟨hp, hz, hfw, q0, q4, q5, q7, h1, h8, hP, hI, hfr, hgr, hS, hl⟩ ih5
  have hgr : ∀ κ : tk_K, κ.1 ∉ ([39, 43, 44] : List Nat) → Γ_22 κ = Γ κ := hgr
  have hP : va_P D vwCl (va_pl L f_21) H := hP
  have hI : tp_I cy L K Γ_22 f_21 := hI
  have hfr : ∀ b, (K b).1 ∉ ([39, 43, 44] : List Nat) → f_21 b = f b := hfr
  have hD : va_D A (va_pl L f_21) := tp_D hL hAL
  have hp : ps (Γ_22 (43, 8800, 0)) t0 (Γ_22 (44, 22, 0) t0.toNat) (Γ_22 (39, 0, 0) 1) T0 (Γ_22 (39, 0, 0) 5) a (1 + cn ω (Γ_22 (39, 0, 0) 8).toNat) := hp
  have hz : fz (Γ (43, 8800, 0)) (Γ_22 (43, 8800, 0)) (Γ (44, 22, 0)) (Γ_22 (44, 22, 0)) t0 := hz
  have hfw : fw (Γ (43, 8800, 0)) (Γ_22 (43, 8800, 0)) (Γ (44, 22, 0)) (Γ_22 (44, 22, 0)) t0 := hfw
  have q0 : Γ_22 (39, 0, 0) 0 = Γ (39, 0, 0) 0 := q0
  have q4 : Γ_22 (39, 0, 0) 4 = Γ (39, 0, 0) 4 := q4
  have q5 : Γ_22 (39, 0, 0) 5 = Γ (39, 0, 0) 5 := q5
  have q7 : Γ_22 (39, 0, 0) 7 = Γ (39, 0, 0) 7 := q7
  have h1 : Γ (39, 0, 0) 1 ≤ Γ_22 (39, 0, 0) 1 ∧ Γ_22 (39, 0, 0) 1 ≤ T0 := h1
  have h8 : 0 ≤ Γ_22 (39, 0, 0) 8 ∧ Γ_22 (39, 0, 0) 8 ≤ Γ (39, 0, 0) 8 ∧ Γ_22 (44, 22, 0) t0.toNat + Γ_22 (39, 0, 0) 8 ≤ Γ_22 (39, 0, 0) 1 := h8
  have hl : lv_has ls 1 [(0, .ref o)] := hl
  refine lv_aload_n hx hb dX12_closes_5 rfl (lv_at hl 0 rfl) ?_
  obtain ⟨r_24, v_25, q_26, hf_23, hr_27, hv_28⟩ := (show tp_o_M L K 0 0 (Γ_22 (39, 0, 0)) (f_21 o) from hI.at ho)
  refine tq_ciR hS (hAf _ hS.1) (tq_rV (As := []) (rest := []) ⟨hx, hb, hml, hown, hta⟩ (tp_P.pre hK hN hL hU hI hP) (tp_recv hK hP ho.1 hf_23 rfl) lk_X12_167 (r_X12_see l D cy H.size L K Γ_22 f_21 o τ T0 ho ((hgr _ (by decide)).trans ht) (by first | omega | (simp only [Int32.toInt_toInt64]; omega) | decide | assumption) (by first | omega | (simp only [Int32.toInt_toInt64]; omega) | decide | assumption)) rfl rfl ⟨Nat.le_of_ble_eq_true rfl, Nat.le_of_ble_eq_true rfl⟩ rfl hl.1 rfl (Nat.le_of_ble_eq_true rfl) dX12_closes_6 ⟨Nat.le_of_ble_eq_true rfl, Nat.le_of_ble_eq_true rfl⟩) (fun r_38 f_39 Γ_41 H locs hw_37 hP hI hc_40 hcg_42 hS => ?_)
  have hD : va_D A (va_pl L f_39) := tp_D hL hAL
  have hfr := tp_fr2 hfr hc_40 (by decide)
  have hgr : ∀ κ : tk_K, κ.1 ∉ ([39, 43, 44] : List Nat) → Γ_41 κ = Γ κ := tg_fr2 hgr hcg_42 (by decide)
  have hw_37 : Γ_41 (39, 0, 0) 0 = Γ_22 (39, 0, 0) 0 ∧ Γ_41 (39, 0, 0) 3 = Γ_22 (39, 0, 0) 3 ∧ Γ_41 (39, 0, 0) 4 = Γ_22 (39, 0, 0) 4 ∧ Γ_41 (39, 0, 0) 5 = Γ_22 (39, 0, 0) 5 ∧ Γ_41 (39, 0, 0) 6 = Γ_22 (39, 0, 0) 6 ∧ Γ_41 (39, 0, 0) 7 = Γ_22 (39, 0, 0) 7 ∧ Γ_41 (39, 0, 0) 8 = Γ_22 (39, 0, 0) 8 ∧ Γ_22 (39, 0, 0) 1 ≤ Γ_41 (39, 0, 0) 1 ∧ Γ_41 (39, 0, 0) 1 ≤ T0 ∧ (¬ τ (Γ_22 (39, 0, 0) 1).toNat = 32 → Γ_41 (39, 0, 0) 1 = Γ_22 (39, 0, 0) 1) ∧ ((r_38.toInt = -1 ∧ Γ_41 (39, 0, 0) 1 = T0) ∨ (0 ≤ r_38.toInt ∧ r_38.toInt ≤ 255 ∧ Γ_41 (39, 0, 0) 1 < T0 ∧ ¬ τ (Γ_41 (39, 0, 0) 1).toNat = 32)) := hw_37
  obtain ⟨hpa, hpb, hpc, hpd, _⟩ := id hp
  have hle := congrFun (hcg_42 (44, 22, 0) (by decide)) t0.toNat
  have hp : ps (Γ_41 (43, 8800, 0)) t0 (Γ_41 (44, 22, 0) t0.toNat) (Γ_41 (39, 0, 0) 1) T0 (Γ_41 (39, 0, 0) 5) a (1 + cn ω (Γ_22 (39, 0, 0) 8).toNat) := hp.eq (hcg_42 (43, 8800, 0) (by decide)) rfl (congrFun (hcg_42 (44, 22, 0) (by decide)) _) (by omega) rfl (by omega)
  have hz : fz (Γ (43, 8800, 0)) (Γ_41 (43, 8800, 0)) (Γ (44, 22, 0)) (Γ_41 (44, 22, 0)) t0 := by rw [(hcg_42 (43, 8800, 0) (by decide)), (hcg_42 (44, 22, 0) (by decide))]; exact hz
  have hfw : fw (Γ (43, 8800, 0)) (Γ_41 (43, 8800, 0)) (Γ (44, 22, 0)) (Γ_41 (44, 22, 0)) t0 := by rw [(hcg_42 (43, 8800, 0) (by decide)), (hcg_42 (44, 22, 0) (by decide))]; exact hfw
  have hp := hp.dd (show 1 + cn ω (Γ_41 (39, 0, 0) 8).toNat = 1 + cn ω (Γ_22 (39, 0, 0) 8).toNat from by rw [show Γ_41 (39, 0, 0) 8 = Γ_22 (39, 0, 0) 8 from by omega])
  refine lv_bipush (v := 93) hx hb dX12_closes_9 (by decide) ?_
  refine lv_icmp_ne (tgt := 64) hx hb dX12_closes_11 (by decide) (fun c_43 => ?_) (fun c_43 => ?_)
  · have c_43 : ¬ r_38.toInt = (93 : Int) := tl_neq c_43
    have hpo9 : ps (Γ_41 (43, 8800, 0)) t0 (Γ_41 (44, 22, 0) t0.toNat) (Γ_41 (39, 0, 0) 1) T0 (Γ_41 (39, 0, 0) 5) a (1 + cn ω (Γ_41 (39, 0, 0) 8).toNat) ∧ fz (Γ (43, 8800, 0)) (Γ_41 (43, 8800, 0)) (Γ (44, 22, 0)) (Γ_41 (44, 22, 0)) t0 ∧ Γ_41 (39, 0, 0) 0 = Γ (39, 0, 0) 0 ∧ Γ_41 (39, 0, 0) 4 = Γ (39, 0, 0) 4 ∧ Γ_41 (39, 0, 0) 5 = Γ (39, 0, 0) 5 ∧ Γ_41 (39, 0, 0) 7 = Γ (39, 0, 0) 7 ∧ Γ (39, 0, 0) 1 ≤ Γ_41 (39, 0, 0) 1 ∧ Γ_41 (39, 0, 0) 1 ≤ T0 ∧ (0 ≤ Γ_41 (39, 0, 0) 8 ∧ Γ_41 (39, 0, 0) 8 ≤ Γ (39, 0, 0) 8) ∧ Γ_41 (44, 22, 0) t0.toNat + Γ_41 (39, 0, 0) 8 ≤ Γ_41 (39, 0, 0) 1 := ⟨hp, hz, (by omega), (by omega), (by omega), (by omega), (by omega), (by omega), (by omega), (by omega)⟩
    exact W.vret hx hb hr (fun t ht hW => ⟨⟨(f_39, Γ_41), rfl, hpo9, by rw [ht]; exact hP, hI, hfr, hgr⟩, hS.F ht⟩) hS.2.2 dX12_closes_64
  · have c_43 : r_38.toInt = (93 : Int) := tl_eq c_43
    refine lv_aload_n hx hb dX12_closes_14 rfl (lv_at hl 0 rfl) ?_
    obtain ⟨r_45, v_46, q_47, hf_44, hr_48, hv_49⟩ := (show tp_o_M L K 0 0 (Γ_41 (39, 0, 0)) (f_39 o) from hI.at ho)
    refine tl_si (tq_rV (As := []) (rest := []) ⟨hx, hb, hml, hown, hta⟩ (tp_P.pre hK hN hL hU hI hP) (tp_recv hK hP ho.1 hf_44 rfl) lk_X12_263 (r_X12_isInside l D cy H.size L K Γ_41 f_39 o ω ho ((hgr _ (by decide)).trans hom) (by first | omega | (simp only [Int32.toInt_toInt64]; omega) | decide | assumption)) rfl rfl ⟨Nat.le_of_ble_eq_true rfl, Nat.le_of_ble_eq_true rfl⟩ rfl hl.1 rfl (Nat.le_of_ble_eq_true rfl) dX12_closes_15 ⟨Nat.le_of_ble_eq_true rfl, Nat.le_of_ble_eq_true rfl⟩) (fun r_59 hw_58 => ?_)
    have hw_58 : tl_E r_59 (∃ k : Nat, (k : Int) < Γ_41 (39, 0, 0) 8 ∧ ω k = 91) 1 0 := hw_58
    refine lv_if_eq (tgt := 64) hx hb dX12_closes_18 (by decide) (fun c_60 => ?_) (fun c_60 => ?_)
    · have c_60 := hw_58.f c_60
      have hpo9 : ps (Γ_41 (43, 8800, 0)) t0 (Γ_41 (44, 22, 0) t0.toNat) (Γ_41 (39, 0, 0) 1) T0 (Γ_41 (39, 0, 0) 5) a (1 + cn ω (Γ_41 (39, 0, 0) 8).toNat) ∧ fz (Γ (43, 8800, 0)) (Γ_41 (43, 8800, 0)) (Γ (44, 22, 0)) (Γ_41 (44, 22, 0)) t0 ∧ Γ_41 (39, 0, 0) 0 = Γ (39, 0, 0) 0 ∧ Γ_41 (39, 0, 0) 4 = Γ (39, 0, 0) 4 ∧ Γ_41 (39, 0, 0) 5 = Γ (39, 0, 0) 5 ∧ Γ_41 (39, 0, 0) 7 = Γ (39, 0, 0) 7 ∧ Γ (39, 0, 0) 1 ≤ Γ_41 (39, 0, 0) 1 ∧ Γ_41 (39, 0, 0) 1 ≤ T0 ∧ (0 ≤ Γ_41 (39, 0, 0) 8 ∧ Γ_41 (39, 0, 0) 8 ≤ Γ (39, 0, 0) 8) ∧ Γ_41 (44, 22, 0) t0.toNat + Γ_41 (39, 0, 0) 8 ≤ Γ_41 (39, 0, 0) 1 := ⟨hp, hz, (by omega), (by omega), (by omega), (by omega), (by omega), (by omega), (by omega), (by omega)⟩
      exact W.vret hx hb hr (fun t ht hW => ⟨⟨(f_39, Γ_41), rfl, hpo9, by rw [ht]; exact hP, hI, hfr, hgr⟩, hS.F ht⟩) hS.2.2 dX12_closes_64
    · have c_60 := hw_58.t c_60
      refine lv_aload_n hx hb dX12_closes_21 rfl (lv_at hl 0 rfl) ?_
      refine lv_iconst (v := 1) hx hb dX12_closes_22 (by decide) ?_
      refine tq_cvR hS (hAf _ hS.1) (tq_rV (As := [.int 1]) (rest := []) ⟨hx, hb, hml, hown, hta⟩ (tp_P.pre hK hN hL hU hI hP) (tp_recv hK hP ho.1 hf_44 rfl) lk_X12_260 (r_X12_settles l D cy H.size L K Γ_41 f_39 o 1 τ T0 t0 a (1 + cn ω (Γ_41 (39, 0, 0) 8).toNat) ω ho ((hgr _ (by decide)).trans ht) (by first | omega | (simp only [Int32.toInt_toInt64]; omega) | decide | assumption) (by first | omega | (simp only [Int32.toInt_toInt64]; omega) | decide | assumption) (by first | omega | (simp only [Int32.toInt_toInt64]; omega) | decide | assumption) (by first | omega | (simp only [Int32.toInt_toInt64]; omega) | decide | assumption) ((hgr _ (by decide)).trans hom) (by first | omega | (simp only [Int32.toInt_toInt64]; omega) | decide | assumption) (by first | omega | (simp only [Int32.toInt_toInt64]; omega) | decide | assumption) (by first | omega | (simp only [Int32.toInt_toInt64]; omega) | decide | assumption)) rfl rfl ⟨Nat.le_of_ble_eq_true rfl, Nat.le_of_ble_eq_true rfl⟩ rfl hl.1 rfl (Nat.le_of_ble_eq_true rfl) dX12_closes_23 ⟨Nat.le_of_ble_eq_true rfl, Nat.le_of_ble_eq_true rfl⟩) (fun f_63 Γ_65 H locs hw_61 hP hI hc_64 hcg_66 hS => ?_)
      have hD : va_D A (va_pl L f_63) := tp_D hL hAL
      have hfr := tp_fr2 hfr hc_64 (by decide)
      have hgr : ∀ κ : tk_K, κ.1 ∉ ([39, 43, 44] : List Nat) → Γ_65 κ = Γ κ := tg_fr2 hgr hcg_66 (by decide)
      have hw_61 : ps (Γ_65 (43, 8800, 0)) t0 (Γ_65 (44, 22, 0) t0.toNat) (Γ_65 (39, 0, 0) 1) T0 (Γ_65 (39, 0, 0) 5) a (1 + cn ω (Γ_65 (39, 0, 0) 8).toNat) ∧ fz (Γ_41 (43, 8800, 0)) (Γ_65 (43, 8800, 0)) (Γ_41 (44, 22, 0)) (Γ_65 (44, 22, 0)) t0 ∧ Γ_65 (39, 0, 0) 0 = Γ_41 (39, 0, 0) 0 ∧ Γ_65 (39, 0, 0) 1 = Γ_41 (39, 0, 0) 1 ∧ Γ_65 (39, 0, 0) 4 = Γ_41 (39, 0, 0) 4 ∧ Γ_65 (39, 0, 0) 5 = Γ_41 (39, 0, 0) 5 ∧ Γ_65 (39, 0, 0) 7 = Γ_41 (39, 0, 0) 7 ∧ (0 ≤ Γ_65 (39, 0, 0) 8 ∧ Γ_65 (39, 0, 0) 8 ≤ Γ_41 (39, 0, 0) 8) ∧ Γ_65 (44, 22, 0) t0.toNat + Γ_65 (39, 0, 0) 8 = Γ_41 (44, 22, 0) t0.toNat + Γ_41 (39, 0, 0) 8 ∧ (∀ j : Nat, (j : Int) < Γ_41 (39, 0, 0) 8 → ω j = 91 → (j : Int) < Γ_65 (39, 0, 0) 8) ∧ (Γ_65 (39, 0, 0) 8 = 0 ∨ stren (ω (Γ_65 (39, 0, 0) 8 - 1).toNat) < (1 : Int)) := hw_61
      obtain ⟨hp, hz9, hst23⟩ := hw_61
      have hz := hz.trans hz9
      have hfw := hfw.trans (hz9.fw (by omega))
      obtain ⟨hs0, hs1, hs4, hs5, hs7, hs8, hslm, hs91, hstp⟩ := hst23
      have h8p : 1 ≤ Γ_65 (39, 0, 0) 8 := by obtain ⟨k9, q9, q8⟩ := (by assumption : ∃ k : Nat, (k : Int) < Γ_41 (39, 0, 0) 8 ∧ ω k = 91); have q7 := hs91 k9 q9 q8; omega
      have hcnt : cn ω (Γ_65 (39, 0, 0) 8).toNat = cn ω (Γ_65 (39, 0, 0) 8 - 1).toNat := by have q9 := stren_no (hstp.resolve_left (by omega)); rw [show (Γ_65 (39, 0, 0) 8).toNat = (Γ_65 (39, 0, 0) 8 - 1).toNat + 1 from by omega, cn1, if_neg (by omega)]; omega
      refine lv_aload_n hx hb dX12_closes_26 rfl (lv_at hl 0 rfl) ?_
      refine lv_dup hx hb dX12_closes_27 rfl ?_
      obtain ⟨r_68, v_69, q_70, hf_67, hr_71, hv_72⟩ := (show tp_o_M L K 0 0 (Γ_65 (39, 0, 0)) (f_63 o) from hI.at ho)
      have hx_73 : (v_69 0).toInt = Γ_65 (39, 0, 0) 0 := hv_72 0 (by decide)
      have hx_74 : (v_69 1).toInt = Γ_65 (39, 0, 0) 1 := hv_72 1 (by decide)
      have hx_75 : (v_69 3).toInt = Γ_65 (39, 0, 0) 3 := hv_72 3 (by decide)
      have hx_76 : (v_69 4).toInt = Γ_65 (39, 0, 0) 4 := hv_72 4 (by decide)
      have hx_77 : (v_69 5).toInt = Γ_65 (39, 0, 0) 5 := hv_72 5 (by decide)
      have hx_78 : (v_69 6).toInt = Γ_65 (39, 0, 0) 6 := hv_72 6 (by decide)
      have hx_79 : (v_69 7).toInt = Γ_65 (39, 0, 0) 7 := hv_72 7 (by decide)
      have hx_80 : (v_69 8).toInt = Γ_65 (39, 0, 0) 8 := hv_72 8 (by decide)
      refine tp_get (cy := cy) (ci := 12) (v := .int (v_69 8)) (C := RX12) (T := TX12) (N := 49) hx hb hta inlX12 hown hK hP ho.1 hf_67 rfl 25 (by decide) (hta _ wk_657) (fun _ h9 => h9) rfl dX12_closes_28 ?_
      refine lv_iconst (v := 1) hx hb dX12_closes_31 (by decide) ?_
      refine lv_isub hx hb dX12_closes_32 ?_
      refine lv_topi (fun z_81 ez_81 => ?_)
      try have iz_81 : z_81.toInt = (v_69 8).toInt - (1 : Int) := by rw [ez_81]; exact tl_subN (v_69 8) 1 rfl rfl (by omega) (by omega)
      obtain ⟨Γ_82, eΓ_82⟩ : ∃ y : tk_G, y = tg Γ_65 (39, 0, 0) 8 z_81.toInt := ⟨_, rfl⟩
      have hv_83 : ∀ i : Nat, i < 16 → ((upd v_69 8 z_81) i).toInt = Γ_82 (39, 0, 0) i := by rw [eΓ_82, tg_f]; exact tp_gi_upd hv_72
      have hI9 : tp_I cy L K Γ_82 (va_up f_63 o (.inr (12, [.ref (r_68 0), .ref (r_68 1), .int (v_69 0), .ref (r_68 2), .ref (r_68 3), .ref (r_68 4), .ref (r_68 5), .ref (r_68 6), .ref (r_68 7), .ref (r_68 8), .ref (r_68 9), .ref (r_68 10), .ref (r_68 11), .ref (r_68 12), .ref (r_68 13), .ref (r_68 14), .ref (r_68 15), .int (v_69 1), .int (v_69 2), .int (v_69 3), .int (v_69 4), .int (v_69 5), .int (v_69 6), .int (v_69 7), .ref (r_68 16), .int z_81, .ref (r_68 17), .int (v_69 9), .ref (r_68 18), .long q_70, .ref (r_68 19), .ref (r_68 20), .int (v_69 10), .int (v_69 11), .int (v_69 12), .ref (r_68 21), .ref (r_68 22), .int (v_69 13), .ref (r_68 23), .int (v_69 14), .int (v_69 15), .ref (r_68 24), .ref (r_68 25), .ref (r_68 26), .ref (r_68 27), .ref (r_68 28), .ref (r_68 29), .ref (r_68 30), .ref (r_68 31)]))) := by have q9 := hv_83; rw [eΓ_82, tg_f] at q9; rw [eΓ_82]; exact hI.setg hU rfl ho (show tp_o_M L K 0 0 (tgu (Γ_65 (39, 0, 0)) 8 z_81.toInt) _ from ⟨r_68, (upd v_69 8 z_81), q_70, rfl, hr_71, q9⟩)
      have hfr9 : ∀ b, (K b).1 ∉ ([39, 43, 44] : List Nat) → va_up f_63 o (.inr (12, [.ref (r_68 0), .ref (r_68 1), .int (v_69 0), .ref (r_68 2), .ref (r_68 3), .ref (r_68 4), .ref (r_68 5), .ref (r_68 6), .ref (r_68 7), .ref (r_68 8), .ref (r_68 9), .ref (r_68 10), .ref (r_68 11), .ref (r_68 12), .ref (r_68 13), .ref (r_68 14), .ref (r_68 15), .int (v_69 1), .int (v_69 2), .int (v_69 3), .int (v_69 4), .int (v_69 5), .int (v_69 6), .int (v_69 7), .ref (r_68 16), .int z_81, .ref (r_68 17), .int (v_69 9), .ref (r_68 18), .long q_70, .ref (r_68 19), .ref (r_68 20), .int (v_69 10), .int (v_69 11), .int (v_69 12), .ref (r_68 21), .ref (r_68 22), .int (v_69 13), .ref (r_68 23), .int (v_69 14), .int (v_69 15), .ref (r_68 24), .ref (r_68 25), .ref (r_68 26), .ref (r_68 27), .ref (r_68 28), .ref (r_68 29), .ref (r_68 30), .ref (r_68 31)])) b = f b := tp_fr hfr ho (by decide)
      refine tp_put (cy := cy) (ci := 12) (v := .int z_81) (ty := tyX12 25) (C := RX12) (T := TX12) (N := 49) hx hb hta inlX12 tyX12 tyX12_ok nmX12 hown hK hP hD hS ho.1 hf_67 rfl 25 (by decide) (hta _ wk_657) (fun _ h9 => h9) rfl (tyX12_ok 25 (by decide)) rfl rfl (Nat.le_of_ble_eq_true rfl) dX12_closes_33 (fun H locs hP hD hS => ?_)
      have hP : va_P D vwCl (va_pl L (va_up f_63 o (.inr (12, [.ref (r_68 0), .ref (r_68 1), .int (v_69 0), .ref (r_68 2), .ref (r_68 3), .ref (r_68 4), .ref (r_68 5), .ref (r_68 6), .ref (r_68 7), .ref (r_68 8), .ref (r_68 9), .ref (r_68 10), .ref (r_68 11), .ref (r_68 12), .ref (r_68 13), .ref (r_68 14), .ref (r_68 15), .int (v_69 1), .int (v_69 2), .int (v_69 3), .int (v_69 4), .int (v_69 5), .int (v_69 6), .int (v_69 7), .ref (r_68 16), .int z_81, .ref (r_68 17), .int (v_69 9), .ref (r_68 18), .long q_70, .ref (r_68 19), .ref (r_68 20), .int (v_69 10), .int (v_69 11), .int (v_69 12), .ref (r_68 21), .ref (r_68 22), .int (v_69 13), .ref (r_68 23), .int (v_69 14), .int (v_69 15), .ref (r_68 24), .ref (r_68 25), .ref (r_68 26), .ref (r_68 27), .ref (r_68 28), .ref (r_68 29), .ref (r_68 30), .ref (r_68 31)])))) H := hP
      generalize hfe : va_up f_63 o (.inr (12, [.ref (r_68 0), .ref (r_68 1), .int (v_69 0), .ref (r_68 2), .ref (r_68 3), .ref (r_68 4), .ref (r_68 5), .ref (r_68 6), .ref (r_68 7), .ref (r_68 8), .ref (r_68 9), .ref (r_68 10), .ref (r_68 11), .ref (r_68 12), .ref (r_68 13), .ref (r_68 14), .ref (r_68 15), .int (v_69 1), .int (v_69 2), .int (v_69 3), .int (v_69 4), .int (v_69 5), .int (v_69 6), .int (v_69 7), .ref (r_68 16), .int z_81, .ref (r_68 17), .int (v_69 9), .ref (r_68 18), .long q_70, .ref (r_68 19), .ref (r_68 20), .int (v_69 10), .int (v_69 11), .int (v_69 12), .ref (r_68 21), .ref (r_68 22), .int (v_69 13), .ref (r_68 23), .int (v_69 14), .int (v_69 15), .ref (r_68 24), .ref (r_68 25), .ref (r_68 26), .ref (r_68 27), .ref (r_68 28), .ref (r_68 29), .ref (r_68 30), .ref (r_68 31)])) = f_84 at hP hI9 hfr9
      have hD : va_D A (va_pl L f_84) := tp_D hL hAL
      have hf_85 : f_84 o = .inr (12, [.ref (r_68 0), .ref (r_68 1), .int (v_69 0), .ref (r_68 2), .ref (r_68 3), .ref (r_68 4), .ref (r_68 5), .ref (r_68 6), .ref (r_68 7), .ref (r_68 8), .ref (r_68 9), .ref (r_68 10), .ref (r_68 11), .ref (r_68 12), .ref (r_68 13), .ref (r_68 14), .ref (r_68 15), .int (v_69 1), .int (v_69 2), .int (v_69 3), .int (v_69 4), .int (v_69 5), .int (v_69 6), .int (v_69 7), .ref (r_68 16), .int z_81, .ref (r_68 17), .int (v_69 9), .ref (r_68 18), .long q_70, .ref (r_68 19), .ref (r_68 20), .int (v_69 10), .int (v_69 11), .int (v_69 12), .ref (r_68 21), .ref (r_68 22), .int (v_69 13), .ref (r_68 23), .int (v_69 14), .int (v_69 15), .ref (r_68 24), .ref (r_68 25), .ref (r_68 26), .ref (r_68 27), .ref (r_68 28), .ref (r_68 29), .ref (r_68 30), .ref (r_68 31)]) := by rw [← hfe]; exact va_up_self _ _ _
      clear hfe
      have hI := hI9
      have hfr := hfr9
      clear hI9 hfr9
      have hgr : ∀ κ : tk_K, κ.1 ∉ ([39, 43, 44] : List Nat) → Γ_82 κ = Γ κ := tg_fr hgr eΓ_82 (by decide)
      have hx_86 : (v_69 0).toInt = Γ_82 (39, 0, 0) 0 := hv_83 0 (by decide)
      have hx_87 : (v_69 1).toInt = Γ_82 (39, 0, 0) 1 := hv_83 1 (by decide)
      have hx_88 : (v_69 3).toInt = Γ_82 (39, 0, 0) 3 := hv_83 3 (by decide)
      have hx_89 : (v_69 4).toInt = Γ_82 (39, 0, 0) 4 := hv_83 4 (by decide)
      have hx_90 : (v_69 5).toInt = Γ_82 (39, 0, 0) 5 := hv_83 5 (by decide)
      have hx_91 : (v_69 6).toInt = Γ_82 (39, 0, 0) 6 := hv_83 6 (by decide)
      have hx_92 : (v_69 7).toInt = Γ_82 (39, 0, 0) 7 := hv_83 7 (by decide)
      have hx_93 : z_81.toInt = Γ_82 (39, 0, 0) 8 := hv_83 8 (by decide)
      obtain ⟨hpa, hpb, hpc, hpd, _⟩ := id hp
      have hle := congrFun (show Γ_82 (44, 22, 0) = _ from by rw [eΓ_82, tg_rf (by decide)]) t0.toNat
      have hp : ps (Γ_82 (43, 8800, 0)) t0 (Γ_82 (44, 22, 0) t0.toNat) (Γ_82 (39, 0, 0) 1) T0 (Γ_82 (39, 0, 0) 5) a (1 + cn ω (Γ_65 (39, 0, 0) 8).toNat) := hp.eq (show Γ_82 (43, 8800, 0) = _ from by rw [eΓ_82, tg_rf (by decide)]) rfl (congrFun (show Γ_82 (44, 22, 0) = _ from by rw [eΓ_82, tg_rf (by decide)]) _) (by omega) rfl (by omega)
      have hz : fz (Γ (43, 8800, 0)) (Γ_82 (43, 8800, 0)) (Γ (44, 22, 0)) (Γ_82 (44, 22, 0)) t0 := by rw [(show Γ_82 (43, 8800, 0) = _ from by rw [eΓ_82, tg_rf (by decide)]), (show Γ_82 (44, 22, 0) = _ from by rw [eΓ_82, tg_rf (by decide)])]; exact hz
      have hfw : fw (Γ (43, 8800, 0)) (Γ_82 (43, 8800, 0)) (Γ (44, 22, 0)) (Γ_82 (44, 22, 0)) t0 := by rw [(show Γ_82 (43, 8800, 0) = _ from by rw [eΓ_82, tg_rf (by decide)]), (show Γ_82 (44, 22, 0) = _ from by rw [eΓ_82, tg_rf (by decide)])]; exact hfw
      refine lv_aload_n hx hb dX12_closes_36 rfl (lv_at hl 0 rfl) ?_
      refine lv_dup hx hb dX12_closes_37 rfl ?_
      refine tp_get (cy := cy) (ci := 12) (v := .int (v_69 6)) (C := RX12) (T := TX12) (N := 49) hx hb hta inlX12 hown hK hP ho.1 hf_85 rfl 22 (by decide) (hta _ wk_658) (fun _ h9 => h9) rfl dX12_closes_38 ?_
      refine lv_iconst (v := 1) hx hb dX12_closes_41 (by decide) ?_
      refine lv_isub hx hb dX12_closes_42 ?_
      refine lv_topi (fun z_94 ez_94 => ?_)
      try have iz_94 : z_94.toInt = (v_69 6).toInt - (1 : Int) := by rw [ez_94]; exact tl_subN (v_69 6) 1 rfl rfl (by omega) (by omega)
      obtain ⟨Γ_95, eΓ_95⟩ : ∃ y : tk_G, y = tg Γ_82 (39, 0, 0) 6 z_94.toInt := ⟨_, rfl⟩
      have hv_96 : ∀ i : Nat, i < 16 → ((upd (upd v_69 8 z_81) 6 z_94) i).toInt = Γ_95 (39, 0, 0) i := by rw [eΓ_95, tg_f]; exact tp_gi_upd hv_83
      have hI9 : tp_I cy L K Γ_95 (va_up f_84 o (.inr (12, [.ref (r_68 0), .ref (r_68 1), .int (v_69 0), .ref (r_68 2), .ref (r_68 3), .ref (r_68 4), .ref (r_68 5), .ref (r_68 6), .ref (r_68 7), .ref (r_68 8), .ref (r_68 9), .ref (r_68 10), .ref (r_68 11), .ref (r_68 12), .ref (r_68 13), .ref (r_68 14), .ref (r_68 15), .int (v_69 1), .int (v_69 2), .int (v_69 3), .int (v_69 4), .int (v_69 5), .int z_94, .int (v_69 7), .ref (r_68 16), .int z_81, .ref (r_68 17), .int (v_69 9), .ref (r_68 18), .long q_70, .ref (r_68 19), .ref (r_68 20), .int (v_69 10), .int (v_69 11), .int (v_69 12), .ref (r_68 21), .ref (r_68 22), .int (v_69 13), .ref (r_68 23), .int (v_69 14), .int (v_69 15), .ref (r_68 24), .ref (r_68 25), .ref (r_68 26), .ref (r_68 27), .ref (r_68 28), .ref (r_68 29), .ref (r_68 30), .ref (r_68 31)]))) := by have q9 := hv_96; rw [eΓ_95, tg_f] at q9; rw [eΓ_95]; exact hI.setg hU rfl ho (show tp_o_M L K 0 0 (tgu (Γ_82 (39, 0, 0)) 6 z_94.toInt) _ from ⟨r_68, (upd (upd v_69 8 z_81) 6 z_94), q_70, rfl, hr_71, q9⟩)
      have hfr9 : ∀ b, (K b).1 ∉ ([39, 43, 44] : List Nat) → va_up f_84 o (.inr (12, [.ref (r_68 0), .ref (r_68 1), .int (v_69 0), .ref (r_68 2), .ref (r_68 3), .ref (r_68 4), .ref (r_68 5), .ref (r_68 6), .ref (r_68 7), .ref (r_68 8), .ref (r_68 9), .ref (r_68 10), .ref (r_68 11), .ref (r_68 12), .ref (r_68 13), .ref (r_68 14), .ref (r_68 15), .int (v_69 1), .int (v_69 2), .int (v_69 3), .int (v_69 4), .int (v_69 5), .int z_94, .int (v_69 7), .ref (r_68 16), .int z_81, .ref (r_68 17), .int (v_69 9), .ref (r_68 18), .long q_70, .ref (r_68 19), .ref (r_68 20), .int (v_69 10), .int (v_69 11), .int (v_69 12), .ref (r_68 21), .ref (r_68 22), .int (v_69 13), .ref (r_68 23), .int (v_69 14), .int (v_69 15), .ref (r_68 24), .ref (r_68 25), .ref (r_68 26), .ref (r_68 27), .ref (r_68 28), .ref (r_68 29), .ref (r_68 30), .ref (r_68 31)])) b = f b := tp_fr hfr ho (by decide)
      refine tp_put (cy := cy) (ci := 12) (v := .int z_94) (ty := tyX12 22) (C := RX12) (T := TX12) (N := 49) hx hb hta inlX12 tyX12 tyX12_ok nmX12 hown hK hP hD hS ho.1 hf_85 rfl 22 (by decide) (hta _ wk_658) (fun _ h9 => h9) rfl (tyX12_ok 22 (by decide)) rfl rfl (Nat.le_of_ble_eq_true rfl) dX12_closes_43 (fun H locs hP hD hS => ?_)
      have hP : va_P D vwCl (va_pl L (va_up f_84 o (.inr (12, [.ref (r_68 0), .ref (r_68 1), .int (v_69 0), .ref (r_68 2), .ref (r_68 3), .ref (r_68 4), .ref (r_68 5), .ref (r_68 6), .ref (r_68 7), .ref (r_68 8), .ref (r_68 9), .ref (r_68 10), .ref (r_68 11), .ref (r_68 12), .ref (r_68 13), .ref (r_68 14), .ref (r_68 15), .int (v_69 1), .int (v_69 2), .int (v_69 3), .int (v_69 4), .int (v_69 5), .int z_94, .int (v_69 7), .ref (r_68 16), .int z_81, .ref (r_68 17), .int (v_69 9), .ref (r_68 18), .long q_70, .ref (r_68 19), .ref (r_68 20), .int (v_69 10), .int (v_69 11), .int (v_69 12), .ref (r_68 21), .ref (r_68 22), .int (v_69 13), .ref (r_68 23), .int (v_69 14), .int (v_69 15), .ref (r_68 24), .ref (r_68 25), .ref (r_68 26), .ref (r_68 27), .ref (r_68 28), .ref (r_68 29), .ref (r_68 30), .ref (r_68 31)])))) H := hP
      generalize hfe : va_up f_84 o (.inr (12, [.ref (r_68 0), .ref (r_68 1), .int (v_69 0), .ref (r_68 2), .ref (r_68 3), .ref (r_68 4), .ref (r_68 5), .ref (r_68 6), .ref (r_68 7), .ref (r_68 8), .ref (r_68 9), .ref (r_68 10), .ref (r_68 11), .ref (r_68 12), .ref (r_68 13), .ref (r_68 14), .ref (r_68 15), .int (v_69 1), .int (v_69 2), .int (v_69 3), .int (v_69 4), .int (v_69 5), .int z_94, .int (v_69 7), .ref (r_68 16), .int z_81, .ref (r_68 17), .int (v_69 9), .ref (r_68 18), .long q_70, .ref (r_68 19), .ref (r_68 20), .int (v_69 10), .int (v_69 11), .int (v_69 12), .ref (r_68 21), .ref (r_68 22), .int (v_69 13), .ref (r_68 23), .int (v_69 14), .int (v_69 15), .ref (r_68 24), .ref (r_68 25), .ref (r_68 26), .ref (r_68 27), .ref (r_68 28), .ref (r_68 29), .ref (r_68 30), .ref (r_68 31)])) = f_97 at hP hI9 hfr9
      have hD : va_D A (va_pl L f_97) := tp_D hL hAL
      have hf_98 : f_97 o = .inr (12, [.ref (r_68 0), .ref (r_68 1), .int (v_69 0), .ref (r_68 2), .ref (r_68 3), .ref (r_68 4), .ref (r_68 5), .ref (r_68 6), .ref (r_68 7), .ref (r_68 8), .ref (r_68 9), .ref (r_68 10), .ref (r_68 11), .ref (r_68 12), .ref (r_68 13), .ref (r_68 14), .ref (r_68 15), .int (v_69 1), .int (v_69 2), .int (v_69 3), .int (v_69 4), .int (v_69 5), .int z_94, .int (v_69 7), .ref (r_68 16), .int z_81, .ref (r_68 17), .int (v_69 9), .ref (r_68 18), .long q_70, .ref (r_68 19), .ref (r_68 20), .int (v_69 10), .int (v_69 11), .int (v_69 12), .ref (r_68 21), .ref (r_68 22), .int (v_69 13), .ref (r_68 23), .int (v_69 14), .int (v_69 15), .ref (r_68 24), .ref (r_68 25), .ref (r_68 26), .ref (r_68 27), .ref (r_68 28), .ref (r_68 29), .ref (r_68 30), .ref (r_68 31)]) := by rw [← hfe]; exact va_up_self _ _ _
      clear hfe
      have hI := hI9
      have hfr := hfr9
      clear hI9 hfr9
      have hgr : ∀ κ : tk_K, κ.1 ∉ ([39, 43, 44] : List Nat) → Γ_95 κ = Γ κ := tg_fr hgr eΓ_95 (by decide)
      have hx_99 : (v_69 0).toInt = Γ_95 (39, 0, 0) 0 := hv_96 0 (by decide)
      have hx_100 : (v_69 1).toInt = Γ_95 (39, 0, 0) 1 := hv_96 1 (by decide)
      have hx_101 : (v_69 3).toInt = Γ_95 (39, 0, 0) 3 := hv_96 3 (by decide)
      have hx_102 : (v_69 4).toInt = Γ_95 (39, 0, 0) 4 := hv_96 4 (by decide)
      have hx_103 : (v_69 5).toInt = Γ_95 (39, 0, 0) 5 := hv_96 5 (by decide)
      have hx_104 : z_94.toInt = Γ_95 (39, 0, 0) 6 := hv_96 6 (by decide)
      have hx_105 : (v_69 7).toInt = Γ_95 (39, 0, 0) 7 := hv_96 7 (by decide)
      have hx_106 : z_81.toInt = Γ_95 (39, 0, 0) 8 := hv_96 8 (by decide)
      obtain ⟨hpa, hpb, hpc, hpd, _⟩ := id hp
      have hle := congrFun (show Γ_95 (44, 22, 0) = _ from by rw [eΓ_95, tg_rf (by decide)]) t0.toNat
      have hp : ps (Γ_95 (43, 8800, 0)) t0 (Γ_95 (44, 22, 0) t0.toNat) (Γ_95 (39, 0, 0) 1) T0 (Γ_95 (39, 0, 0) 5) a (1 + cn ω (Γ_65 (39, 0, 0) 8).toNat) := hp.eq (show Γ_95 (43, 8800, 0) = _ from by rw [eΓ_95, tg_rf (by decide)]) rfl (congrFun (show Γ_95 (44, 22, 0) = _ from by rw [eΓ_95, tg_rf (by decide)]) _) (by omega) rfl (by omega)
      have hz : fz (Γ (43, 8800, 0)) (Γ_95 (43, 8800, 0)) (Γ (44, 22, 0)) (Γ_95 (44, 22, 0)) t0 := by rw [(show Γ_95 (43, 8800, 0) = _ from by rw [eΓ_95, tg_rf (by decide)]), (show Γ_95 (44, 22, 0) = _ from by rw [eΓ_95, tg_rf (by decide)])]; exact hz
      have hfw : fw (Γ (43, 8800, 0)) (Γ_95 (43, 8800, 0)) (Γ (44, 22, 0)) (Γ_95 (44, 22, 0)) t0 := by rw [(show Γ_95 (43, 8800, 0) = _ from by rw [eΓ_95, tg_rf (by decide)]), (show Γ_95 (44, 22, 0) = _ from by rw [eΓ_95, tg_rf (by decide)])]; exact hfw
      refine lv_aload_n hx hb dX12_closes_46 rfl (lv_at hl 0 rfl) ?_
      refine lv_dup hx hb dX12_closes_47 rfl ?_
      refine tp_get (cy := cy) (ci := 12) (v := .int (v_69 1)) (C := RX12) (T := TX12) (N := 49) hx hb hta inlX12 hown hK hP ho.1 hf_98 rfl 17 (by decide) (hta _ wk_539) (fun _ h9 => h9) rfl dX12_closes_48 ?_
      refine lv_iconst (v := 1) hx hb dX12_closes_51 (by decide) ?_
      refine lv_iadd hx hb dX12_closes_52 ?_
      refine lv_topi (fun z_107 ez_107 => ?_)
      try have iz_107 : z_107.toInt = (v_69 1).toInt + (1 : Int) := by rw [ez_107]; exact tl_addN (v_69 1) 1 rfl rfl (by omega) (by omega)
      obtain ⟨Γ_108, eΓ_108⟩ : ∃ y : tk_G, y = tg Γ_95 (39, 0, 0) 1 z_107.toInt := ⟨_, rfl⟩
      have hv_109 : ∀ i : Nat, i < 16 → ((upd (upd (upd v_69 8 z_81) 6 z_94) 1 z_107) i).toInt = Γ_108 (39, 0, 0) i := by rw [eΓ_108, tg_f]; exact tp_gi_upd hv_96
      have hI9 : tp_I cy L K Γ_108 (va_up f_97 o (.inr (12, [.ref (r_68 0), .ref (r_68 1), .int (v_69 0), .ref (r_68 2), .ref (r_68 3), .ref (r_68 4), .ref (r_68 5), .ref (r_68 6), .ref (r_68 7), .ref (r_68 8), .ref (r_68 9), .ref (r_68 10), .ref (r_68 11), .ref (r_68 12), .ref (r_68 13), .ref (r_68 14), .ref (r_68 15), .int z_107, .int (v_69 2), .int (v_69 3), .int (v_69 4), .int (v_69 5), .int z_94, .int (v_69 7), .ref (r_68 16), .int z_81, .ref (r_68 17), .int (v_69 9), .ref (r_68 18), .long q_70, .ref (r_68 19), .ref (r_68 20), .int (v_69 10), .int (v_69 11), .int (v_69 12), .ref (r_68 21), .ref (r_68 22), .int (v_69 13), .ref (r_68 23), .int (v_69 14), .int (v_69 15), .ref (r_68 24), .ref (r_68 25), .ref (r_68 26), .ref (r_68 27), .ref (r_68 28), .ref (r_68 29), .ref (r_68 30), .ref (r_68 31)]))) := by have q9 := hv_109; rw [eΓ_108, tg_f] at q9; rw [eΓ_108]; exact hI.setg hU rfl ho (show tp_o_M L K 0 0 (tgu (Γ_95 (39, 0, 0)) 1 z_107.toInt) _ from ⟨r_68, (upd (upd (upd v_69 8 z_81) 6 z_94) 1 z_107), q_70, rfl, hr_71, q9⟩)
      have hfr9 : ∀ b, (K b).1 ∉ ([39, 43, 44] : List Nat) → va_up f_97 o (.inr (12, [.ref (r_68 0), .ref (r_68 1), .int (v_69 0), .ref (r_68 2), .ref (r_68 3), .ref (r_68 4), .ref (r_68 5), .ref (r_68 6), .ref (r_68 7), .ref (r_68 8), .ref (r_68 9), .ref (r_68 10), .ref (r_68 11), .ref (r_68 12), .ref (r_68 13), .ref (r_68 14), .ref (r_68 15), .int z_107, .int (v_69 2), .int (v_69 3), .int (v_69 4), .int (v_69 5), .int z_94, .int (v_69 7), .ref (r_68 16), .int z_81, .ref (r_68 17), .int (v_69 9), .ref (r_68 18), .long q_70, .ref (r_68 19), .ref (r_68 20), .int (v_69 10), .int (v_69 11), .int (v_69 12), .ref (r_68 21), .ref (r_68 22), .int (v_69 13), .ref (r_68 23), .int (v_69 14), .int (v_69 15), .ref (r_68 24), .ref (r_68 25), .ref (r_68 26), .ref (r_68 27), .ref (r_68 28), .ref (r_68 29), .ref (r_68 30), .ref (r_68 31)])) b = f b := tp_fr hfr ho (by decide)
      refine tp_put (cy := cy) (ci := 12) (v := .int z_107) (ty := tyX12 17) (C := RX12) (T := TX12) (N := 49) hx hb hta inlX12 tyX12 tyX12_ok nmX12 hown hK hP hD hS ho.1 hf_98 rfl 17 (by decide) (hta _ wk_539) (fun _ h9 => h9) rfl (tyX12_ok 17 (by decide)) rfl rfl (Nat.le_of_ble_eq_true rfl) dX12_closes_53 (fun H locs hP hD hS => ?_)
      have hP : va_P D vwCl (va_pl L (va_up f_97 o (.inr (12, [.ref (r_68 0), .ref (r_68 1), .int (v_69 0), .ref (r_68 2), .ref (r_68 3), .ref (r_68 4), .ref (r_68 5), .ref (r_68 6), .ref (r_68 7), .ref (r_68 8), .ref (r_68 9), .ref (r_68 10), .ref (r_68 11), .ref (r_68 12), .ref (r_68 13), .ref (r_68 14), .ref (r_68 15), .int z_107, .int (v_69 2), .int (v_69 3), .int (v_69 4), .int (v_69 5), .int z_94, .int (v_69 7), .ref (r_68 16), .int z_81, .ref (r_68 17), .int (v_69 9), .ref (r_68 18), .long q_70, .ref (r_68 19), .ref (r_68 20), .int (v_69 10), .int (v_69 11), .int (v_69 12), .ref (r_68 21), .ref (r_68 22), .int (v_69 13), .ref (r_68 23), .int (v_69 14), .int (v_69 15), .ref (r_68 24), .ref (r_68 25), .ref (r_68 26), .ref (r_68 27), .ref (r_68 28), .ref (r_68 29), .ref (r_68 30), .ref (r_68 31)])))) H := hP
      generalize hfe : va_up f_97 o (.inr (12, [.ref (r_68 0), .ref (r_68 1), .int (v_69 0), .ref (r_68 2), .ref (r_68 3), .ref (r_68 4), .ref (r_68 5), .ref (r_68 6), .ref (r_68 7), .ref (r_68 8), .ref (r_68 9), .ref (r_68 10), .ref (r_68 11), .ref (r_68 12), .ref (r_68 13), .ref (r_68 14), .ref (r_68 15), .int z_107, .int (v_69 2), .int (v_69 3), .int (v_69 4), .int (v_69 5), .int z_94, .int (v_69 7), .ref (r_68 16), .int z_81, .ref (r_68 17), .int (v_69 9), .ref (r_68 18), .long q_70, .ref (r_68 19), .ref (r_68 20), .int (v_69 10), .int (v_69 11), .int (v_69 12), .ref (r_68 21), .ref (r_68 22), .int (v_69 13), .ref (r_68 23), .int (v_69 14), .int (v_69 15), .ref (r_68 24), .ref (r_68 25), .ref (r_68 26), .ref (r_68 27), .ref (r_68 28), .ref (r_68 29), .ref (r_68 30), .ref (r_68 31)])) = f_110 at hP hI9 hfr9
      have hD : va_D A (va_pl L f_110) := tp_D hL hAL
      have hf_111 : f_110 o = .inr (12, [.ref (r_68 0), .ref (r_68 1), .int (v_69 0), .ref (r_68 2), .ref (r_68 3), .ref (r_68 4), .ref (r_68 5), .ref (r_68 6), .ref (r_68 7), .ref (r_68 8), .ref (r_68 9), .ref (r_68 10), .ref (r_68 11), .ref (r_68 12), .ref (r_68 13), .ref (r_68 14), .ref (r_68 15), .int z_107, .int (v_69 2), .int (v_69 3), .int (v_69 4), .int (v_69 5), .int z_94, .int (v_69 7), .ref (r_68 16), .int z_81, .ref (r_68 17), .int (v_69 9), .ref (r_68 18), .long q_70, .ref (r_68 19), .ref (r_68 20), .int (v_69 10), .int (v_69 11), .int (v_69 12), .ref (r_68 21), .ref (r_68 22), .int (v_69 13), .ref (r_68 23), .int (v_69 14), .int (v_69 15), .ref (r_68 24), .ref (r_68 25), .ref (r_68 26), .ref (r_68 27), .ref (r_68 28), .ref (r_68 29), .ref (r_68 30), .ref (r_68 31)]) := by rw [← hfe]; exact va_up_self _ _ _
      clear hfe
      have hI := hI9
      have hfr := hfr9
      clear hI9 hfr9
      have hgr : ∀ κ : tk_K, κ.1 ∉ ([39, 43, 44] : List Nat) → Γ_108 κ = Γ κ := tg_fr hgr eΓ_108 (by decide)
      have hx_112 : (v_69 0).toInt = Γ_108 (39, 0, 0) 0 := hv_109 0 (by decide)
      have hx_113 : z_107.toInt = Γ_108 (39, 0, 0) 1 := hv_109 1 (by decide)
      have hx_114 : (v_69 3).toInt = Γ_108 (39, 0, 0) 3 := hv_109 3 (by decide)
      have hx_115 : (v_69 4).toInt = Γ_108 (39, 0, 0) 4 := hv_109 4 (by decide)
      have hx_116 : (v_69 5).toInt = Γ_108 (39, 0, 0) 5 := hv_109 5 (by decide)
      have hx_117 : z_94.toInt = Γ_108 (39, 0, 0) 6 := hv_109 6 (by decide)
      have hx_118 : (v_69 7).toInt = Γ_108 (39, 0, 0) 7 := hv_109 7 (by decide)
      have hx_119 : z_81.toInt = Γ_108 (39, 0, 0) 8 := hv_109 8 (by decide)
      obtain ⟨hpa, hpb, hpc, hpd, _⟩ := id hp
      have hle := congrFun (show Γ_108 (44, 22, 0) = _ from by rw [eΓ_108, tg_rf (by decide)]) t0.toNat
      have hp : ps (Γ_108 (43, 8800, 0)) t0 (Γ_108 (44, 22, 0) t0.toNat) (Γ_108 (39, 0, 0) 1) T0 (Γ_108 (39, 0, 0) 5) a (1 + cn ω (Γ_65 (39, 0, 0) 8).toNat) := hp.eq (show Γ_108 (43, 8800, 0) = _ from by rw [eΓ_108, tg_rf (by decide)]) rfl (congrFun (show Γ_108 (44, 22, 0) = _ from by rw [eΓ_108, tg_rf (by decide)]) _) (by omega) rfl (by omega)
      have hz : fz (Γ (43, 8800, 0)) (Γ_108 (43, 8800, 0)) (Γ (44, 22, 0)) (Γ_108 (44, 22, 0)) t0 := by rw [(show Γ_108 (43, 8800, 0) = _ from by rw [eΓ_108, tg_rf (by decide)]), (show Γ_108 (44, 22, 0) = _ from by rw [eΓ_108, tg_rf (by decide)])]; exact hz
      have hfw : fw (Γ (43, 8800, 0)) (Γ_108 (43, 8800, 0)) (Γ (44, 22, 0)) (Γ_108 (44, 22, 0)) t0 := by rw [(show Γ_108 (43, 8800, 0) = _ from by rw [eΓ_108, tg_rf (by decide)]), (show Γ_108 (44, 22, 0) = _ from by rw [eΓ_108, tg_rf (by decide)])]; exact hfw
      refine lv_aload_n hx hb dX12_closes_56 rfl (lv_at hl 0 rfl) ?_
      refine lv_iconst (v := 3) hx hb dX12_closes_57 (by decide) ?_
      have hp := hp.dd (show 1 + cn ω (Γ_108 (39, 0, 0) 8).toNat = 1 + cn ω (Γ_65 (39, 0, 0) 8).toNat from by rw [show Γ_108 (39, 0, 0) 8 = Γ_65 (39, 0, 0) 8 - 1 from by omega]; omega)
      refine tq_cvR hS (hAf _ hS.1) (tq_rV (As := [.int 3]) (rest := []) ⟨hx, hb, hml, hown, hta⟩ (tp_P.pre hK hN hL hU hI hP) (tp_recv hK hP ho.1 hf_111 rfl) lk_X12_260 (r_X12_settles l D cy H.size L K Γ_108 f_110 o 3 τ T0 t0 a (1 + cn ω (Γ_108 (39, 0, 0) 8).toNat) ω ho ((hgr _ (by decide)).trans ht) (by first | omega | (simp only [Int32.toInt_toInt64]; omega) | decide | assumption) (by first | omega | (simp only [Int32.toInt_toInt64]; omega) | decide | assumption) (by first | omega | (simp only [Int32.toInt_toInt64]; omega) | decide | assumption) (by first | omega | (simp only [Int32.toInt_toInt64]; omega) | decide | assumption) ((hgr _ (by decide)).trans hom) (by first | omega | (simp only [Int32.toInt_toInt64]; omega) | decide | assumption) (by first | omega | (simp only [Int32.toInt_toInt64]; omega) | decide | assumption) (by first | omega | (simp only [Int32.toInt_toInt64]; omega) | decide | assumption)) rfl rfl ⟨Nat.le_of_ble_eq_true rfl, Nat.le_of_ble_eq_true rfl⟩ rfl hl.1 rfl (Nat.le_of_ble_eq_true rfl) dX12_closes_58 ⟨Nat.le_of_ble_eq_true rfl, Nat.le_of_ble_eq_true rfl⟩) (fun f_122 Γ_124 H locs hw_120 hP hI hc_123 hcg_125 hS => ?_)
      have hD : va_D A (va_pl L f_122) := tp_D hL hAL
      have hfr := tp_fr2 hfr hc_123 (by decide)
      have hgr : ∀ κ : tk_K, κ.1 ∉ ([39, 43, 44] : List Nat) → Γ_124 κ = Γ κ := tg_fr2 hgr hcg_125 (by decide)
      have hw_120 : ps (Γ_124 (43, 8800, 0)) t0 (Γ_124 (44, 22, 0) t0.toNat) (Γ_124 (39, 0, 0) 1) T0 (Γ_124 (39, 0, 0) 5) a (1 + cn ω (Γ_124 (39, 0, 0) 8).toNat) ∧ fz (Γ_108 (43, 8800, 0)) (Γ_124 (43, 8800, 0)) (Γ_108 (44, 22, 0)) (Γ_124 (44, 22, 0)) t0 ∧ Γ_124 (39, 0, 0) 0 = Γ_108 (39, 0, 0) 0 ∧ Γ_124 (39, 0, 0) 1 = Γ_108 (39, 0, 0) 1 ∧ Γ_124 (39, 0, 0) 4 = Γ_108 (39, 0, 0) 4 ∧ Γ_124 (39, 0, 0) 5 = Γ_108 (39, 0, 0) 5 ∧ Γ_124 (39, 0, 0) 7 = Γ_108 (39, 0, 0) 7 ∧ (0 ≤ Γ_124 (39, 0, 0) 8 ∧ Γ_124 (39, 0, 0) 8 ≤ Γ_108 (39, 0, 0) 8) ∧ Γ_124 (44, 22, 0) t0.toNat + Γ_124 (39, 0, 0) 8 = Γ_108 (44, 22, 0) t0.toNat + Γ_108 (39, 0, 0) 8 ∧ (∀ j : Nat, (j : Int) < Γ_108 (39, 0, 0) 8 → ω j = 91 → (j : Int) < Γ_124 (39, 0, 0) 8) ∧ (Γ_124 (39, 0, 0) 8 = 0 ∨ stren (ω (Γ_124 (39, 0, 0) 8 - 1).toNat) < (3 : Int)) := hw_120
      obtain ⟨hp, hz9, hst58⟩ := hw_120
      have hz := hz.trans hz9
      have hfw := hfw.trans (hz9.fw (by omega))
      obtain ⟨hs0, hs1, hs4, hs5, hs7, hs8, hslm, hs91, hstp⟩ := hst58
      refine lv_goto (tgt := 5) hx hb dX12_closes_61 (by decide) ?_
      exact ih5 (f_122, Γ_124) H locs ls (by show (400 - Γ_124 (39, 0, 0) 1).toNat < (400 - Γ_22 (39, 0, 0) 1).toNat; omega) ⟨(show ps (Γ_124 (43, 8800, 0)) t0 (Γ_124 (44, 22, 0) t0.toNat) (Γ_124 (39, 0, 0) 1) T0 (Γ_124 (39, 0, 0) 5) a (1 + cn ω (Γ_124 (39, 0, 0) 8).toNat) from hp), (show fz (Γ (43, 8800, 0)) (Γ_124 (43, 8800, 0)) (Γ (44, 22, 0)) (Γ_124 (44, 22, 0)) t0 from hz), (show fw (Γ (43, 8800, 0)) (Γ_124 (43, 8800, 0)) (Γ (44, 22, 0)) (Γ_124 (44, 22, 0)) t0 from hfw), (show Γ_124 (39, 0, 0) 0 = Γ (39, 0, 0) 0 from (by omega)), (show Γ_124 (39, 0, 0) 4 = Γ (39, 0, 0) 4 from (by omega)), (show Γ_124 (39, 0, 0) 5 = Γ (39, 0, 0) 5 from (by omega)), (show Γ_124 (39, 0, 0) 7 = Γ (39, 0, 0) 7 from (by omega)), (show Γ (39, 0, 0) 1 ≤ Γ_124 (39, 0, 0) 1 ∧ Γ_124 (39, 0, 0) 1 ≤ T0 from (by omega)), (show 0 ≤ Γ_124 (39, 0, 0) 8 ∧ Γ_124 (39, 0, 0) 8 ≤ Γ (39, 0, 0) 8 ∧ Γ_124 (44, 22, 0) t0.toNat + Γ_124 (39, 0, 0) 8 ≤ Γ_124 (39, 0, 0) 1 from (by omega)), hP, hI, hfr, hgr, hS, lv_sub hl [0] rfl⟩
set_option maxHeartbeats 4000000 in
set_option maxRecDepth 100000 in
theorem r_X12_fact (l : Launch) (D : va_G) (cy : Nat → ClassId) (sz : Nat) (L : List Nat) (K : Nat → tk_K) (Γ : tk_G) (f : Nat → va_E) (o : Nat) (τ : Nat → Int) (T0 : Int) (t0 : Int) (a : Nat) (d : Int) (ho : tp_r L K 39 (0) 0 o) (ht : Γ (41, 400, 0) = τ) (hT : Γ (39, 0, 0) 0 = T0) (hb0 : 0 ≤ Γ (39, 0, 0) 1 ∧ Γ (39, 0, 0) 1 ≤ T0 ∧ T0 ≤ 400) (h4 : Γ (39, 0, 0) 4 = t0) (hp : ps (Γ (43, 8800, 0)) t0 (Γ (44, 22, 0) t0.toNat) (Γ (39, 0, 0) 1) T0 (Γ (39, 0, 0) 5) a (d)) (h8 : 0 ≤ Γ (39, 0, 0) 8 ∧ Γ (44, 22, 0) t0.toNat + Γ (39, 0, 0) 8 ≤ Γ (39, 0, 0) 1) (hd : d = cn (Γ (52, 400, 0)) (Γ (39, 0, 0) 8).toNat) (hop : ∀ j : Nat, (j : Int) < Γ (39, 0, 0) 8 → ent (Γ (52, 400, 0) j)) : Met l yX12_fact (tl_w yX12_fact cX12_fact 3 (some .boolean)) ({ frames := 7, cells := 0, slots := 0, locals := 154 }) (va_Pc [.ref o] (tp_P D cy L K Γ f sz)) (va_Qi (fun (r : Int32) (u : (Nat → va_E) × tk_G) => tl_J r (ps (u.2 (43, 8800, 0)) t0 (u.2 (44, 22, 0) t0.toNat) (u.2 (39, 0, 0) 1) T0 (u.2 (39, 0, 0) 5) a (1 + cn (u.2 (52, 400, 0)) (u.2 (39, 0, 0) 8).toNat) ∧ (0 ≤ u.2 (39, 0, 0) 8 ∧ u.2 (44, 22, 0) t0.toNat + u.2 (39, 0, 0) 8 ≤ u.2 (39, 0, 0) 1) ∧ fz (Γ (43, 8800, 0)) (u.2 (43, 8800, 0)) (Γ (44, 22, 0)) (u.2 (44, 22, 0)) t0 ∧ (∀ j : Nat, (j : Int) < u.2 (39, 0, 0) 8 → ent (u.2 (52, 400, 0) j))) ∧ u.2 (39, 0, 0) 0 = Γ (39, 0, 0) 0 ∧ u.2 (39, 0, 0) 4 = Γ (39, 0, 0) 4 ∧ u.2 (39, 0, 0) 7 = Γ (39, 0, 0) 7 ∧ Γ (39, 0, 0) 1 ≤ u.2 (39, 0, 0) 1 ∧ u.2 (39, 0, 0) 1 ≤ T0 ∧ fw (Γ (43, 8800, 0)) (u.2 (43, 8800, 0)) (Γ (44, 22, 0)) (u.2 (44, 22, 0)) t0) (tp_BG D cy L K Γ f [39, 43, 44, 52]) (tp_A L sz)) 0 0 (tp_A L sz) := by
  refine Met.ofW (cc := cX12_fact) (maxL := 3) (ret := (some .boolean)) (by decide) rfl ?_
  intro p e s m args below meth c s₁ B hml hv
  obtain ⟨rfl, hsz, hP, hK, hL, hI, hN, hU⟩ := hv
  have hx := B.exec
  have hb := B.bytes
  have hr := B.returns
  have hta := tl_hta (atoms_spec (ws := tl_w yX12_fact cX12_fact 3 (some .boolean)) B.pre)
  have hown : s.vm.findClass RX12 = some m.cls := findClass_of_methodNamed B.named
  have hlocks := B.notSynchronized
  subst hsz
  have hI0 := hI
  generalize hAe : tp_A L s.heap.size = A
  have hA : ∀ q : Nat, s.heap.size ≤ q → A q := fun q h => by rw [← hAe]; exact Or.inr h
  have hAL : ∀ q ∈ L, A q := fun q h => by rw [← hAe]; exact Or.inl h
  have hAf : ∀ (H : Heap), s.heap.size ≤ H.size → ∀ q, tp_A L H.size q → A q := fun H h q hq => hq.elim (hAL q) (fun h2 => hA q (Nat.le_trans h h2))
  have hS : va_S A s.heap s.heap [] := va_S.rf
  have hD : va_D A (va_pl L f) := tp_D hL hAL
  have hfr : ∀ b, (K b).1 ∉ ([39, 43, 44, 52] : List Nat) → f b = f b := fun _ _ => rfl
  have hgr : ∀ κ : tk_K, κ.1 ∉ ([39, 43, 44, 52] : List Nat) → Γ κ = Γ κ := fun _ _ => rfl
  have hl := lv_entry ([.ref o]) (n := 3) (Nat.le_of_ble_eq_true rfl)
  rw [lg_entry_eq]
  generalize (lg_sl ([.ref o]) ++ List.replicate (3 - (lg_sl ([.ref o])).length) Slot.unset).toArray = ls at hl ⊢
  have hl : lv_has ls 3 [(0, .ref o)] := hl
  have hz : fz (Γ (43, 8800, 0)) (Γ (43, 8800, 0)) (Γ (44, 22, 0)) (Γ (44, 22, 0)) t0 := fz.rfl
  have hfw : fw (Γ (43, 8800, 0)) (Γ (43, 8800, 0)) (Γ (44, 22, 0)) (Γ (44, 22, 0)) t0 := fw.same
  have hpo := hp
  obtain ⟨hp1, hp2, hp3, hp4, _⟩ := hpo
  refine lv_iconst (v := 1) hx hb dX12_fact_0 (by decide) ?_
  refine lv_istore_n (lv' := [(1, .int 1), (0, .ref o)]) hx hb dX12_fact_1 rfl hl (by decide) rfl (fun ls hl => ?_)
  refine tq_start hP hS (fun H locs hP hS => ?_)
  refine tl_ind (G := fun H locs ls => W p l e ((headSpec (tl_w yX12_fact cX12_fact 3 (some .boolean)) ({ frames := 7, cells := 0, slots := 0, locals := 154 })).room) s m #[.ref o] below meth c H locs 0 0 (MQ below (va_Qi (fun (r : Int32) (u : (Nat → va_E) × tk_G) => tl_J r (ps (u.2 (43, 8800, 0)) t0 (u.2 (44, 22, 0) t0.toNat) (u.2 (39, 0, 0) 1) T0 (u.2 (39, 0, 0) 5) a (1 + cn (u.2 (52, 400, 0)) (u.2 (39, 0, 0) 8).toNat) ∧ (0 ≤ u.2 (39, 0, 0) 8 ∧ u.2 (44, 22, 0) t0.toNat + u.2 (39, 0, 0) 8 ≤ u.2 (39, 0, 0) 1) ∧ fz (Γ (43, 8800, 0)) (u.2 (43, 8800, 0)) (Γ (44, 22, 0)) (u.2 (44, 22, 0)) t0 ∧ (∀ j : Nat, (j : Int) < u.2 (39, 0, 0) 8 → ent (u.2 (52, 400, 0) j))) ∧ u.2 (39, 0, 0) 0 = Γ (39, 0, 0) 0 ∧ u.2 (39, 0, 0) 4 = Γ (39, 0, 0) 4 ∧ u.2 (39, 0, 0) 7 = Γ (39, 0, 0) 7 ∧ Γ (39, 0, 0) 1 ≤ u.2 (39, 0, 0) 1 ∧ u.2 (39, 0, 0) 1 ≤ T0 ∧ fw (Γ (43, 8800, 0)) (u.2 (43, 8800, 0)) (Γ (44, 22, 0)) (u.2 (44, 22, 0)) t0) (tp_BG D cy L K Γ f [39, 43, 44, 52]) A) #[.ref o] s 0 0 A) (F0 m 2 ls [])) (α := (Nat → va_E) × tk_G × Int32) (fun aq => (2 * (400 - aq.2.1 (39, 0, 0) 1) + aq.2.2.toInt).toNat) (fun aq H locs ls => (ps (aq.2.1 (43, 8800, 0)) t0 (aq.2.1 (44, 22, 0) t0.toNat) (aq.2.1 (39, 0, 0) 1) T0 (aq.2.1 (39, 0, 0) 5) a (cn (aq.2.1 (52, 400, 0)) (aq.2.1 (39, 0, 0) 8).toNat)) ∧ (fz (Γ (43, 8800, 0)) (aq.2.1 (43, 8800, 0)) (Γ (44, 22, 0)) (aq.2.1 (44, 22, 0)) t0) ∧ (fw (Γ (43, 8800, 0)) (aq.2.1 (43, 8800, 0)) (Γ (44, 22, 0)) (aq.2.1 (44, 22, 0)) t0) ∧ (aq.2.1 (39, 0, 0) 0 = Γ (39, 0, 0) 0) ∧ (aq.2.1 (39, 0, 0) 4 = Γ (39, 0, 0) 4) ∧ (aq.2.1 (39, 0, 0) 5 = Γ (39, 0, 0) 5) ∧ (aq.2.1 (39, 0, 0) 7 = Γ (39, 0, 0) 7) ∧ (Γ (39, 0, 0) 1 ≤ aq.2.1 (39, 0, 0) 1 ∧ aq.2.1 (39, 0, 0) 1 ≤ T0) ∧ (0 ≤ aq.2.1 (39, 0, 0) 8 ∧ aq.2.1 (44, 22, 0) t0.toNat + aq.2.1 (39, 0, 0) 8 ≤ aq.2.1 (39, 0, 0) 1) ∧ (∀ j : Nat, (j : Int) < aq.2.1 (39, 0, 0) 8 → ent (aq.2.1 (52, 400, 0) j)) ∧ (aq.2.2.toInt = 0 ∨ aq.2.2.toInt = 1) ∧ va_P D vwCl (va_pl L aq.1) H ∧ tp_I cy L K aq.2.1 aq.1 ∧ (∀ b, (K b).1 ∉ ([39, 43, 44, 52] : List Nat) → aq.1 b = f b) ∧ (∀ κ : tk_K, κ.1 ∉ ([39, 43, 44, 52] : List Nat) → aq.2.1 κ = Γ κ) ∧ va_S A s.heap H locs ∧ lv_has ls 3 [(1, .int aq.2.2), (0, .ref o)]) ?_ (f, Γ, (1 : Int32)) H locs ls ⟨(show ps (Γ (43, 8800, 0)) t0 (Γ (44, 22, 0) t0.toNat) (Γ (39, 0, 0) 1) T0 (Γ (39, 0, 0) 5) a (cn (Γ (52, 400, 0)) (Γ (39, 0, 0) 8).toNat) from (hp.dd hd.symm)), (show fz (Γ (43, 8800, 0)) (Γ (43, 8800, 0)) (Γ (44, 22, 0)) (Γ (44, 22, 0)) t0 from hz), (show fw (Γ (43, 8800, 0)) (Γ (43, 8800, 0)) (Γ (44, 22, 0)) (Γ (44, 22, 0)) t0 from hfw), (show Γ (39, 0, 0) 0 = Γ (39, 0, 0) 0 from (by omega)), (show Γ (39, 0, 0) 4 = Γ (39, 0, 0) 4 from (by omega)), (show Γ (39, 0, 0) 5 = Γ (39, 0, 0) 5 from (by omega)), (show Γ (39, 0, 0) 7 = Γ (39, 0, 0) 7 from (by omega)), (show Γ (39, 0, 0) 1 ≤ Γ (39, 0, 0) 1 ∧ Γ (39, 0, 0) 1 ≤ T0 from (by omega)), (show 0 ≤ Γ (39, 0, 0) 8 ∧ Γ (44, 22, 0) t0.toNat + Γ (39, 0, 0) 8 ≤ Γ (39, 0, 0) 1 from (by omega)), (show ∀ j : Nat, (j : Int) < Γ (39, 0, 0) 8 → ent (Γ (52, 400, 0) j) from hop), (show (1 : Int) = 0 ∨ (1 : Int) = 1 from (Or.inr (by decide))), hP, hI, hfr, hgr, hS, lv_sub hl [0, 1] rfl⟩
  rintro ⟨f_1, Γ_2, v1⟩ H locs ls ⟨hp, hz, hfw, q0, q4, q5, q7, h1, h8, hop, hv1, hP, hI, hfr, hgr, hS, hl⟩ ih2
  have hgr : ∀ κ : tk_K, κ.1 ∉ ([39, 43, 44, 52] : List Nat) → Γ_2 κ = Γ κ := hgr
  have hP : va_P D vwCl (va_pl L f_1) H := hP
  have hI : tp_I cy L K Γ_2 f_1 := hI
  have hfr : ∀ b, (K b).1 ∉ ([39, 43, 44, 52] : List Nat) → f_1 b = f b := hfr
  have hD : va_D A (va_pl L f_1) := tp_D hL hAL
  have hO : Γ_2 (52, 400, 0) = Γ_2 (52, 400, 0) := rfl
  have hp : ps (Γ_2 (43, 8800, 0)) t0 (Γ_2 (44, 22, 0) t0.toNat) (Γ_2 (39, 0, 0) 1) T0 (Γ_2 (39, 0, 0) 5) a (cn (Γ_2 (52, 400, 0)) (Γ_2 (39, 0, 0) 8).toNat) := hp
  have hz : fz (Γ (43, 8800, 0)) (Γ_2 (43, 8800, 0)) (Γ (44, 22, 0)) (Γ_2 (44, 22, 0)) t0 := hz
  have hfw : fw (Γ (43, 8800, 0)) (Γ_2 (43, 8800, 0)) (Γ (44, 22, 0)) (Γ_2 (44, 22, 0)) t0 := hfw
  have q0 : Γ_2 (39, 0, 0) 0 = Γ (39, 0, 0) 0 := q0
  have q4 : Γ_2 (39, 0, 0) 4 = Γ (39, 0, 0) 4 := q4
  have q5 : Γ_2 (39, 0, 0) 5 = Γ (39, 0, 0) 5 := q5
  have q7 : Γ_2 (39, 0, 0) 7 = Γ (39, 0, 0) 7 := q7
  have h1 : Γ (39, 0, 0) 1 ≤ Γ_2 (39, 0, 0) 1 ∧ Γ_2 (39, 0, 0) 1 ≤ T0 := h1
  have h8 : 0 ≤ Γ_2 (39, 0, 0) 8 ∧ Γ_2 (44, 22, 0) t0.toNat + Γ_2 (39, 0, 0) 8 ≤ Γ_2 (39, 0, 0) 1 := h8
  have hop : ∀ j : Nat, (j : Int) < Γ_2 (39, 0, 0) 8 → ent (Γ_2 (52, 400, 0) j) := hop
  have hv1 : v1.toInt = 0 ∨ v1.toInt = 1 := hv1
  have hl : lv_has ls 3 [(1, .int v1), (0, .ref o)] := hl
  refine lv_iload_n hx hb dX12_fact_2 rfl (lv_at hl 0 rfl) ?_
  refine lv_if_eq (tgt := 75) hx hb dX12_fact_3 (by decide) (fun c_3 => ?_) (fun c_3 => ?_)
  · have c_3 : v1.toInt = (0 : Int) := tl_eq c_3
    refine lv_aload_n hx hb dX12_fact_75 rfl (lv_at hl 1 rfl) ?_
    obtain ⟨r_5, v_6, q_7, hf_4, hr_8, hv_9⟩ := (show tp_o_M L K 0 0 (Γ_2 (39, 0, 0)) (f_1 o) from hI.at ho)
    refine tq_ciR hS (hAf _ hS.1) (tq_rV (As := []) (rest := []) ⟨hx, hb, hml, hown, hta⟩ (tp_P.pre hK hN hL hU hI hP) (tp_recv hK hP ho.1 hf_4 rfl) lk_X12_257 (r_X12_compare l D cy H.size L K Γ_2 f_1 o τ T0 t0 a (cn (Γ_2 (52, 400, 0)) (Γ_2 (39, 0, 0) 8).toNat) ho ((hgr _ (by decide)).trans ht) (by first | omega | (simp only [Int32.toInt_toInt64]; omega) | decide | assumption) (by first | omega | (simp only [Int32.toInt_toInt64]; omega) | decide | assumption) (by first | omega | (simp only [Int32.toInt_toInt64]; omega) | decide | assumption) (by first | omega | (simp only [Int32.toInt_toInt64]; omega) | decide | assumption)) rfl rfl ⟨Nat.le_of_ble_eq_true rfl, Nat.le_of_ble_eq_true rfl⟩ rfl hl.1 rfl (Nat.le_of_ble_eq_true rfl) dX12_fact_76 ⟨Nat.le_of_ble_eq_true rfl, Nat.le_of_ble_eq_true rfl⟩) (fun r_19 f_20 Γ_22 H locs hw_18 hP hI hc_21 hcg_23 hS => ?_)
    have hD : va_D A (va_pl L f_20) := tp_D hL hAL
    have hfr := tp_fr2 hfr hc_21 (by decide)
    have hgr : ∀ κ : tk_K, κ.1 ∉ ([39, 43, 44, 52] : List Nat) → Γ_22 κ = Γ κ := tg_fr2 hgr hcg_23 (by decide)
    obtain ⟨hE_24, hw_18⟩ := hw_18
    have hE_24 : tl_J r_19 (ps (Γ_22 (43, 8800, 0)) t0 (Γ_22 (44, 22, 0) t0.toNat) (Γ_22 (39, 0, 0) 1) T0 (Γ_22 (39, 0, 0) 5) a ((cn (Γ_2 (52, 400, 0)) (Γ_2 (39, 0, 0) 8).toNat) + 1) ∧ Γ_2 (39, 0, 0) 1 - Γ_2 (44, 22, 0) t0.toNat ≤ Γ_22 (39, 0, 0) 1 - Γ_22 (44, 22, 0) t0.toNat ∧ fz (Γ_2 (43, 8800, 0)) (Γ_22 (43, 8800, 0)) (Γ_2 (44, 22, 0)) (Γ_22 (44, 22, 0)) t0) := hE_24
    have hw_18 : Γ_22 (39, 0, 0) 0 = Γ_2 (39, 0, 0) 0 ∧ Γ_22 (39, 0, 0) 4 = Γ_2 (39, 0, 0) 4 ∧ Γ_22 (39, 0, 0) 6 = Γ_2 (39, 0, 0) 6 ∧ Γ_22 (39, 0, 0) 7 = Γ_2 (39, 0, 0) 7 ∧ Γ_22 (39, 0, 0) 8 = Γ_2 (39, 0, 0) 8 ∧ Γ_2 (39, 0, 0) 1 ≤ Γ_22 (39, 0, 0) 1 ∧ Γ_22 (39, 0, 0) 1 ≤ T0 ∧ fw (Γ_2 (43, 8800, 0)) (Γ_22 (43, 8800, 0)) (Γ_2 (44, 22, 0)) (Γ_22 (44, 22, 0)) t0 := hw_18
    have hO : Γ_22 (52, 400, 0) = Γ_2 (52, 400, 0) := (hcg_23 (52, 400, 0) (by decide)).trans hO
    have hfw := hfw.trans hw_18.2.2.2.2.2.2.2
    have hpo9 : tl_J (r_19 : Int32) (ps (Γ_22 (43, 8800, 0)) t0 (Γ_22 (44, 22, 0) t0.toNat) (Γ_22 (39, 0, 0) 1) T0 (Γ_22 (39, 0, 0) 5) a (1 + cn (Γ_22 (52, 400, 0)) (Γ_22 (39, 0, 0) 8).toNat) ∧ (0 ≤ Γ_22 (39, 0, 0) 8 ∧ Γ_22 (44, 22, 0) t0.toNat + Γ_22 (39, 0, 0) 8 ≤ Γ_22 (39, 0, 0) 1) ∧ fz (Γ (43, 8800, 0)) (Γ_22 (43, 8800, 0)) (Γ (44, 22, 0)) (Γ_22 (44, 22, 0)) t0 ∧ (∀ j : Nat, (j : Int) < Γ_22 (39, 0, 0) 8 → ent (Γ_22 (52, 400, 0) j))) ∧ Γ_22 (39, 0, 0) 0 = Γ (39, 0, 0) 0 ∧ Γ_22 (39, 0, 0) 4 = Γ (39, 0, 0) 4 ∧ Γ_22 (39, 0, 0) 7 = Γ (39, 0, 0) 7 ∧ Γ (39, 0, 0) 1 ≤ Γ_22 (39, 0, 0) 1 ∧ Γ_22 (39, 0, 0) 1 ≤ T0 ∧ fw (Γ (43, 8800, 0)) (Γ_22 (43, 8800, 0)) (Γ (44, 22, 0)) (Γ_22 (44, 22, 0)) t0 := ⟨(hE_24.imp (fun ⟨q1, q2, q3⟩ => ⟨q1.dd (by rw [hO, show Γ_22 (39, 0, 0) 8 = Γ_2 (39, 0, 0) 8 from by omega]; omega), by omega, hz.trans q3, by rw [hO]; intro j9 q9; exact hop j9 (by omega)⟩)), ⟨(by omega), (by omega), (by omega), (by omega), (by omega), hfw⟩⟩
    exact W.zret (ty := .boolean) (v := r_19) hx hb hr hE_24.nar (fun t ht hW => ⟨⟨_, (f_20, Γ_22), rfl, hpo9, by rw [ht]; exact hP, hI, hfr, hgr⟩, hS.F ht⟩) hS.2.2 dX12_fact_79
  · have c_3 : ¬ v1.toInt = (0 : Int) := tl_neq c_3
    refine lv_iconst (v := 0) hx hb dX12_fact_6 (by decide) ?_
    refine lv_istore_n (lv' := [(1, .int 0), (0, .ref o)]) hx hb dX12_fact_7 rfl hl (by decide) rfl (fun ls hl => ?_)
    refine lv_aload_n hx hb dX12_fact_8 rfl (lv_at hl 1 rfl) ?_
    obtain ⟨r_26, v_27, q_28, hf_25, hr_29, hv_30⟩ := (show tp_o_M L K 0 0 (Γ_2 (39, 0, 0)) (f_1 o) from hI.at ho)
    refine tq_ciR hS (hAf _ hS.1) (tq_rV (As := []) (rest := []) ⟨hx, hb, hml, hown, hta⟩ (tp_P.pre hK hN hL hU hI hP) (tp_recv hK hP ho.1 hf_25 rfl) lk_X12_167 (r_X12_see l D cy H.size L K Γ_2 f_1 o τ T0 ho ((hgr _ (by decide)).trans ht) (by first | omega | (simp only [Int32.toInt_toInt64]; omega) | decide | assumption) (by first | omega | (simp only [Int32.toInt_toInt64]; omega) | decide | assumption)) rfl rfl ⟨Nat.le_of_ble_eq_true rfl, Nat.le_of_ble_eq_true rfl⟩ rfl hl.1 rfl (Nat.le_of_ble_eq_true rfl) dX12_fact_9 ⟨Nat.le_of_ble_eq_true rfl, Nat.le_of_ble_eq_true rfl⟩) (fun r_40 f_41 Γ_43 H locs hw_39 hP hI hc_42 hcg_44 hS => ?_)
    have hD : va_D A (va_pl L f_41) := tp_D hL hAL
    have hfr := tp_fr2 hfr hc_42 (by decide)
    have hgr : ∀ κ : tk_K, κ.1 ∉ ([39, 43, 44, 52] : List Nat) → Γ_43 κ = Γ κ := tg_fr2 hgr hcg_44 (by decide)
    have hw_39 : Γ_43 (39, 0, 0) 0 = Γ_2 (39, 0, 0) 0 ∧ Γ_43 (39, 0, 0) 3 = Γ_2 (39, 0, 0) 3 ∧ Γ_43 (39, 0, 0) 4 = Γ_2 (39, 0, 0) 4 ∧ Γ_43 (39, 0, 0) 5 = Γ_2 (39, 0, 0) 5 ∧ Γ_43 (39, 0, 0) 6 = Γ_2 (39, 0, 0) 6 ∧ Γ_43 (39, 0, 0) 7 = Γ_2 (39, 0, 0) 7 ∧ Γ_43 (39, 0, 0) 8 = Γ_2 (39, 0, 0) 8 ∧ Γ_2 (39, 0, 0) 1 ≤ Γ_43 (39, 0, 0) 1 ∧ Γ_43 (39, 0, 0) 1 ≤ T0 ∧ (¬ τ (Γ_2 (39, 0, 0) 1).toNat = 32 → Γ_43 (39, 0, 0) 1 = Γ_2 (39, 0, 0) 1) ∧ ((r_40.toInt = -1 ∧ Γ_43 (39, 0, 0) 1 = T0) ∨ (0 ≤ r_40.toInt ∧ r_40.toInt ≤ 255 ∧ Γ_43 (39, 0, 0) 1 < T0 ∧ ¬ τ (Γ_43 (39, 0, 0) 1).toNat = 32)) := hw_39
    have hO : Γ_43 (52, 400, 0) = Γ_2 (52, 400, 0) := (hcg_44 (52, 400, 0) (by decide)).trans hO
    obtain ⟨hpa, hpb, hpc, hpd, _⟩ := id hp
    have hle := congrFun (hcg_44 (44, 22, 0) (by decide)) t0.toNat
    have hp : ps (Γ_43 (43, 8800, 0)) t0 (Γ_43 (44, 22, 0) t0.toNat) (Γ_43 (39, 0, 0) 1) T0 (Γ_43 (39, 0, 0) 5) a (cn (Γ_2 (52, 400, 0)) (Γ_2 (39, 0, 0) 8).toNat) := hp.eq (hcg_44 (43, 8800, 0) (by decide)) rfl (congrFun (hcg_44 (44, 22, 0) (by decide)) _) (by omega) rfl (by omega)
    have hz : fz (Γ (43, 8800, 0)) (Γ_43 (43, 8800, 0)) (Γ (44, 22, 0)) (Γ_43 (44, 22, 0)) t0 := by rw [(hcg_44 (43, 8800, 0) (by decide)), (hcg_44 (44, 22, 0) (by decide))]; exact hz
    have hfw : fw (Γ (43, 8800, 0)) (Γ_43 (43, 8800, 0)) (Γ (44, 22, 0)) (Γ_43 (44, 22, 0)) t0 := by rw [(hcg_44 (43, 8800, 0) (by decide)), (hcg_44 (44, 22, 0) (by decide))]; exact hfw
    refine lv_istore_n (lv' := [(2, .int r_40), (1, .int 0), (0, .ref o)]) hx hb dX12_fact_12 rfl hl (by decide) rfl (fun ls hl => ?_)
    refine lv_aload_n hx hb dX12_fact_13 rfl (lv_at hl 2 rfl) ?_
    refine lv_ldc2 (v := 7237492) hx hb hown (hta _ wk_665) dX12_fact_14 ?_
    obtain ⟨r_46, v_47, q_48, hf_45, hr_49, hv_50⟩ := (show tp_o_M L K 0 0 (Γ_43 (39, 0, 0)) (f_41 o) from hI.at ho)
    refine tq_ciR hS (hAf _ hS.1) (tq_rV (As := [.long 7237492]) (rest := []) ⟨hx, hb, hml, hown, hta⟩ (tp_P.pre hK hN hL hU hI hP) (tp_recv hK hP ho.1 hf_45 rfl) lk_X12_174 (r_X12_isWord l D cy H.size L K Γ_43 f_41 o 7237492 τ T0 ho ((hgr _ (by decide)).trans ht) (by first | omega | (simp only [Int32.toInt_toInt64]; omega) | decide | assumption) (by first | omega | (simp only [Int32.toInt_toInt64]; omega) | decide | assumption)) rfl rfl ⟨Nat.le_of_ble_eq_true rfl, Nat.le_of_ble_eq_true rfl⟩ rfl hl.1 rfl (Nat.le_of_ble_eq_true rfl) dX12_fact_17 ⟨Nat.le_of_ble_eq_true rfl, Nat.le_of_ble_eq_true rfl⟩) (fun r_60 f_61 Γ_63 H locs hw_59 hP hI hc_62 hcg_64 hS => ?_)
    have hD : va_D A (va_pl L f_61) := tp_D hL hAL
    have hfr := tp_fr2 hfr hc_62 (by decide)
    have hgr : ∀ κ : tk_K, κ.1 ∉ ([39, 43, 44, 52] : List Nat) → Γ_63 κ = Γ κ := tg_fr2 hgr hcg_64 (by decide)
    obtain ⟨hE_65, hw_59⟩ := hw_59
    have hE_65 : tl_E r_60 (tr_W τ T0 (Γ_63 (39, 0, 0) 1) 7237492) 1 0 := hE_65
    have hw_59 : Γ_63 (39, 0, 0) 0 = Γ_43 (39, 0, 0) 0 ∧ Γ_63 (39, 0, 0) 3 = Γ_43 (39, 0, 0) 3 ∧ Γ_63 (39, 0, 0) 4 = Γ_43 (39, 0, 0) 4 ∧ Γ_63 (39, 0, 0) 5 = Γ_43 (39, 0, 0) 5 ∧ Γ_63 (39, 0, 0) 6 = Γ_43 (39, 0, 0) 6 ∧ Γ_63 (39, 0, 0) 7 = Γ_43 (39, 0, 0) 7 ∧ Γ_63 (39, 0, 0) 8 = Γ_43 (39, 0, 0) 8 ∧ Γ_43 (39, 0, 0) 1 ≤ Γ_63 (39, 0, 0) 1 ∧ Γ_63 (39, 0, 0) 1 ≤ T0 ∧ (¬ τ (Γ_43 (39, 0, 0) 1).toNat = 32 → Γ_63 (39, 0, 0) 1 = Γ_43 (39, 0, 0) 1) := hw_59
    have hO : Γ_63 (52, 400, 0) = Γ_2 (52, 400, 0) := (hcg_64 (52, 400, 0) (by decide)).trans hO
    obtain ⟨hpa, hpb, hpc, hpd, _⟩ := id hp
    have hle := congrFun (hcg_64 (44, 22, 0) (by decide)) t0.toNat
    have hp : ps (Γ_63 (43, 8800, 0)) t0 (Γ_63 (44, 22, 0) t0.toNat) (Γ_63 (39, 0, 0) 1) T0 (Γ_63 (39, 0, 0) 5) a (cn (Γ_2 (52, 400, 0)) (Γ_2 (39, 0, 0) 8).toNat) := hp.eq (hcg_64 (43, 8800, 0) (by decide)) rfl (congrFun (hcg_64 (44, 22, 0) (by decide)) _) (by omega) rfl (by omega)
    have hz : fz (Γ (43, 8800, 0)) (Γ_63 (43, 8800, 0)) (Γ (44, 22, 0)) (Γ_63 (44, 22, 0)) t0 := by rw [(hcg_64 (43, 8800, 0) (by decide)), (hcg_64 (44, 22, 0) (by decide))]; exact hz
    have hfw : fw (Γ (43, 8800, 0)) (Γ_63 (43, 8800, 0)) (Γ (44, 22, 0)) (Γ_63 (44, 22, 0)) t0 := by rw [(hcg_64 (43, 8800, 0) (by decide)), (hcg_64 (44, 22, 0) (by decide))]; exact hfw
    refine lv_if_eq (tgt := 43) hx hb dX12_fact_20 (by decide) (fun c_66 => ?_) (fun c_66 => ?_)
    · have c_66 := hE_65.f c_66
      refine lv_iload_n hx hb dX12_fact_43 rfl (lv_at hl 0 rfl) ?_
      refine lv_bipush (v := 91) hx hb dX12_fact_44 (by decide) ?_
      refine lv_icmp_ne (tgt := 72) hx hb dX12_fact_46 (by decide) (fun c_67 => ?_) (fun c_67 => ?_)
      · have c_67 : ¬ r_40.toInt = (91 : Int) := tl_neq c_67
        refine lv_goto (tgt := 2) hx hb dX12_fact_72 (by decide) ?_
        exact ih2 (f_61, Γ_63, 0) H locs ls (by show (2 * (400 - Γ_63 (39, 0, 0) 1) + (0 : Int)).toNat < (2 * (400 - Γ_2 (39, 0, 0) 1) + v1.toInt).toNat; omega) ⟨(show ps (Γ_63 (43, 8800, 0)) t0 (Γ_63 (44, 22, 0) t0.toNat) (Γ_63 (39, 0, 0) 1) T0 (Γ_63 (39, 0, 0) 5) a (cn (Γ_63 (52, 400, 0)) (Γ_63 (39, 0, 0) 8).toNat) from (hp.dd (by rw [hO, show Γ_63 (39, 0, 0) 8 = Γ_2 (39, 0, 0) 8 from by omega]))), (show fz (Γ (43, 8800, 0)) (Γ_63 (43, 8800, 0)) (Γ (44, 22, 0)) (Γ_63 (44, 22, 0)) t0 from hz), (show fw (Γ (43, 8800, 0)) (Γ_63 (43, 8800, 0)) (Γ (44, 22, 0)) (Γ_63 (44, 22, 0)) t0 from hfw), (show Γ_63 (39, 0, 0) 0 = Γ (39, 0, 0) 0 from (by omega)), (show Γ_63 (39, 0, 0) 4 = Γ (39, 0, 0) 4 from (by omega)), (show Γ_63 (39, 0, 0) 5 = Γ (39, 0, 0) 5 from (by omega)), (show Γ_63 (39, 0, 0) 7 = Γ (39, 0, 0) 7 from (by omega)), (show Γ (39, 0, 0) 1 ≤ Γ_63 (39, 0, 0) 1 ∧ Γ_63 (39, 0, 0) 1 ≤ T0 from (by omega)), (show 0 ≤ Γ_63 (39, 0, 0) 8 ∧ Γ_63 (44, 22, 0) t0.toNat + Γ_63 (39, 0, 0) 8 ≤ Γ_63 (39, 0, 0) 1 from (by omega)), (show ∀ j : Nat, (j : Int) < Γ_63 (39, 0, 0) 8 → ent (Γ_63 (52, 400, 0) j) from (by rw [hO]; intro j9 q9; exact hop j9 (by omega))), (show (0 : Int) = 0 ∨ (0 : Int) = 1 from (by decide)), hP, hI, hfr, hgr, hS, lv_sub hl [1, 2] rfl⟩
      · have c_67 : r_40.toInt = (91 : Int) := tl_eq c_67
        refine lv_aload_n hx hb dX12_fact_49 rfl (lv_at hl 2 rfl) ?_
        refine lv_bipush (v := 91) hx hb dX12_fact_50 (by decide) ?_
        obtain ⟨hpa, hpb, hpc, hpd, _⟩ := id hp
        have hq9 := hw_39.2.2.2.2.2.2.2.2.2.2.resolve_left (by omega)
        have hq8 := hw_59.2.2.2.2.2.2.2.2.2 hq9.2.2.2
        obtain ⟨r_69, v_70, q_71, hf_68, hr_72, hv_73⟩ := (show tp_o_M L K 0 0 (Γ_63 (39, 0, 0)) (f_61 o) from hI.at ho)
        refine tq_ciR hS (hAf _ hS.1) (tq_rV (As := [.int 91]) (rest := []) ⟨hx, hb, hml, hown, hta⟩ (tp_P.pre hK hN hL hU hI hP) (tp_recv hK hP ho.1 hf_68 rfl) lk_X12_254 (r_X12_opens l D cy H.size L K Γ_63 f_61 o 91 ho (by first | omega | (simp only [Int32.toInt_toInt64]; omega) | decide | assumption)) rfl rfl ⟨Nat.le_of_ble_eq_true rfl, Nat.le_of_ble_eq_true rfl⟩ rfl hl.1 rfl (Nat.le_of_ble_eq_true rfl) dX12_fact_52 ⟨Nat.le_of_ble_eq_true rfl, Nat.le_of_ble_eq_true rfl⟩) (fun r_83 f_84 Γ_86 H locs hw_82 hP hI hc_85 hcg_87 hS => ?_)
        have hD : va_D A (va_pl L f_84) := tp_D hL hAL
        have hfr := tp_fr2 hfr hc_85 (by decide)
        have hgr : ∀ κ : tk_K, κ.1 ∉ ([39, 43, 44, 52] : List Nat) → Γ_86 κ = Γ κ := tg_fr2 hgr hcg_87 (by decide)
        obtain ⟨hE_88, hw_82⟩ := hw_82
        have hE_88 : tl_J r_83 (Γ_86 (39, 0, 0) 8 = Γ_63 (39, 0, 0) 8 + 1 ∧ Γ_86 (52, 400, 0) = tgu (Γ_63 (52, 400, 0)) (Γ_63 (39, 0, 0) 8).toNat (91 : Int)) := hE_88
        have hw_82 : Γ_86 (39, 0, 0) 0 = Γ_63 (39, 0, 0) 0 ∧ Γ_86 (39, 0, 0) 1 = Γ_63 (39, 0, 0) 1 ∧ Γ_86 (39, 0, 0) 3 = Γ_63 (39, 0, 0) 3 ∧ Γ_86 (39, 0, 0) 4 = Γ_63 (39, 0, 0) 4 ∧ Γ_86 (39, 0, 0) 5 = Γ_63 (39, 0, 0) 5 ∧ Γ_86 (39, 0, 0) 7 = Γ_63 (39, 0, 0) 7 := hw_82
        have hOp := hO
        obtain ⟨hpa, hpb, hpc, hpd, _⟩ := id hp
        have hle := congrFun (hcg_87 (44, 22, 0) (by decide)) t0.toNat
        have hp : ps (Γ_86 (43, 8800, 0)) t0 (Γ_86 (44, 22, 0) t0.toNat) (Γ_86 (39, 0, 0) 1) T0 (Γ_86 (39, 0, 0) 5) a (cn (Γ_2 (52, 400, 0)) (Γ_2 (39, 0, 0) 8).toNat) := hp.eq (hcg_87 (43, 8800, 0) (by decide)) rfl (congrFun (hcg_87 (44, 22, 0) (by decide)) _) (by omega) rfl (by omega)
        have hz : fz (Γ (43, 8800, 0)) (Γ_86 (43, 8800, 0)) (Γ (44, 22, 0)) (Γ_86 (44, 22, 0)) t0 := by rw [(hcg_87 (43, 8800, 0) (by decide)), (hcg_87 (44, 22, 0) (by decide))]; exact hz
        have hfw : fw (Γ (43, 8800, 0)) (Γ_86 (43, 8800, 0)) (Γ (44, 22, 0)) (Γ_86 (44, 22, 0)) t0 := by rw [(hcg_87 (43, 8800, 0) (by decide)), (hcg_87 (44, 22, 0) (by decide))]; exact hfw
        refine lv_if_ne (tgt := 60) hx hb dX12_fact_55 (by decide) (fun c_89 => ?_) (fun c_89 => ?_)
        · have c_89 := hE_88.t c_89
          obtain ⟨h8n, hOn⟩ := (by assumption : Γ_86 (39, 0, 0) 8 = Γ_63 (39, 0, 0) 8 + 1 ∧ Γ_86 (52, 400, 0) = tgu (Γ_63 (52, 400, 0)) (Γ_63 (39, 0, 0) 8).toNat (91 : Int))
          have hO : Γ_86 (52, 400, 0) = tgu (Γ_2 (52, 400, 0)) (Γ_2 (39, 0, 0) 8).toNat 91 := by rw [hOn, hOp, show Γ_63 (39, 0, 0) 8 = Γ_2 (39, 0, 0) 8 from by omega]
          refine lv_aload_n hx hb dX12_fact_60 rfl (lv_at hl 2 rfl) ?_
          refine lv_dup hx hb dX12_fact_61 rfl ?_
          obtain ⟨r_91, v_92, q_93, hf_90, hr_94, hv_95⟩ := (show tp_o_M L K 0 0 (Γ_86 (39, 0, 0)) (f_84 o) from hI.at ho)
          have hx_96 : (v_92 0).toInt = Γ_86 (39, 0, 0) 0 := hv_95 0 (by decide)
          have hx_97 : (v_92 1).toInt = Γ_86 (39, 0, 0) 1 := hv_95 1 (by decide)
          have hx_98 : (v_92 3).toInt = Γ_86 (39, 0, 0) 3 := hv_95 3 (by decide)
          have hx_99 : (v_92 4).toInt = Γ_86 (39, 0, 0) 4 := hv_95 4 (by decide)
          have hx_100 : (v_92 5).toInt = Γ_86 (39, 0, 0) 5 := hv_95 5 (by decide)
          have hx_101 : (v_92 6).toInt = Γ_86 (39, 0, 0) 6 := hv_95 6 (by decide)
          have hx_102 : (v_92 7).toInt = Γ_86 (39, 0, 0) 7 := hv_95 7 (by decide)
          have hx_103 : (v_92 8).toInt = Γ_86 (39, 0, 0) 8 := hv_95 8 (by decide)
          refine tp_get (cy := cy) (ci := 12) (v := .int (v_92 1)) (C := RX12) (T := TX12) (N := 49) hx hb hta inlX12 hown hK hP ho.1 hf_90 rfl 17 (by decide) (hta _ wk_539) (fun _ h9 => h9) rfl dX12_fact_62 ?_
          refine lv_iconst (v := 1) hx hb dX12_fact_65 (by decide) ?_
          refine lv_iadd hx hb dX12_fact_66 ?_
          refine lv_topi (fun z_104 ez_104 => ?_)
          try have iz_104 : z_104.toInt = (v_92 1).toInt + (1 : Int) := by rw [ez_104]; exact tl_addN (v_92 1) 1 rfl rfl (by omega) (by omega)
          obtain ⟨Γ_105, eΓ_105⟩ : ∃ y : tk_G, y = tg Γ_86 (39, 0, 0) 1 z_104.toInt := ⟨_, rfl⟩
          have hv_106 : ∀ i : Nat, i < 16 → ((upd v_92 1 z_104) i).toInt = Γ_105 (39, 0, 0) i := by rw [eΓ_105, tg_f]; exact tp_gi_upd hv_95
          have hI9 : tp_I cy L K Γ_105 (va_up f_84 o (.inr (12, [.ref (r_91 0), .ref (r_91 1), .int (v_92 0), .ref (r_91 2), .ref (r_91 3), .ref (r_91 4), .ref (r_91 5), .ref (r_91 6), .ref (r_91 7), .ref (r_91 8), .ref (r_91 9), .ref (r_91 10), .ref (r_91 11), .ref (r_91 12), .ref (r_91 13), .ref (r_91 14), .ref (r_91 15), .int z_104, .int (v_92 2), .int (v_92 3), .int (v_92 4), .int (v_92 5), .int (v_92 6), .int (v_92 7), .ref (r_91 16), .int (v_92 8), .ref (r_91 17), .int (v_92 9), .ref (r_91 18), .long q_93, .ref (r_91 19), .ref (r_91 20), .int (v_92 10), .int (v_92 11), .int (v_92 12), .ref (r_91 21), .ref (r_91 22), .int (v_92 13), .ref (r_91 23), .int (v_92 14), .int (v_92 15), .ref (r_91 24), .ref (r_91 25), .ref (r_91 26), .ref (r_91 27), .ref (r_91 28), .ref (r_91 29), .ref (r_91 30), .ref (r_91 31)]))) := by have q9 := hv_106; rw [eΓ_105, tg_f] at q9; rw [eΓ_105]; exact hI.setg hU rfl ho (show tp_o_M L K 0 0 (tgu (Γ_86 (39, 0, 0)) 1 z_104.toInt) _ from ⟨r_91, (upd v_92 1 z_104), q_93, rfl, hr_94, q9⟩)
          have hfr9 : ∀ b, (K b).1 ∉ ([39, 43, 44, 52] : List Nat) → va_up f_84 o (.inr (12, [.ref (r_91 0), .ref (r_91 1), .int (v_92 0), .ref (r_91 2), .ref (r_91 3), .ref (r_91 4), .ref (r_91 5), .ref (r_91 6), .ref (r_91 7), .ref (r_91 8), .ref (r_91 9), .ref (r_91 10), .ref (r_91 11), .ref (r_91 12), .ref (r_91 13), .ref (r_91 14), .ref (r_91 15), .int z_104, .int (v_92 2), .int (v_92 3), .int (v_92 4), .int (v_92 5), .int (v_92 6), .int (v_92 7), .ref (r_91 16), .int (v_92 8), .ref (r_91 17), .int (v_92 9), .ref (r_91 18), .long q_93, .ref (r_91 19), .ref (r_91 20), .int (v_92 10), .int (v_92 11), .int (v_92 12), .ref (r_91 21), .ref (r_91 22), .int (v_92 13), .ref (r_91 23), .int (v_92 14), .int (v_92 15), .ref (r_91 24), .ref (r_91 25), .ref (r_91 26), .ref (r_91 27), .ref (r_91 28), .ref (r_91 29), .ref (r_91 30), .ref (r_91 31)])) b = f b := tp_fr hfr ho (by decide)
          refine tp_put (cy := cy) (ci := 12) (v := .int z_104) (ty := tyX12 17) (C := RX12) (T := TX12) (N := 49) hx hb hta inlX12 tyX12 tyX12_ok nmX12 hown hK hP hD hS ho.1 hf_90 rfl 17 (by decide) (hta _ wk_539) (fun _ h9 => h9) rfl (tyX12_ok 17 (by decide)) rfl rfl (Nat.le_of_ble_eq_true rfl) dX12_fact_67 (fun H locs hP hD hS => ?_)
          have hP : va_P D vwCl (va_pl L (va_up f_84 o (.inr (12, [.ref (r_91 0), .ref (r_91 1), .int (v_92 0), .ref (r_91 2), .ref (r_91 3), .ref (r_91 4), .ref (r_91 5), .ref (r_91 6), .ref (r_91 7), .ref (r_91 8), .ref (r_91 9), .ref (r_91 10), .ref (r_91 11), .ref (r_91 12), .ref (r_91 13), .ref (r_91 14), .ref (r_91 15), .int z_104, .int (v_92 2), .int (v_92 3), .int (v_92 4), .int (v_92 5), .int (v_92 6), .int (v_92 7), .ref (r_91 16), .int (v_92 8), .ref (r_91 17), .int (v_92 9), .ref (r_91 18), .long q_93, .ref (r_91 19), .ref (r_91 20), .int (v_92 10), .int (v_92 11), .int (v_92 12), .ref (r_91 21), .ref (r_91 22), .int (v_92 13), .ref (r_91 23), .int (v_92 14), .int (v_92 15), .ref (r_91 24), .ref (r_91 25), .ref (r_91 26), .ref (r_91 27), .ref (r_91 28), .ref (r_91 29), .ref (r_91 30), .ref (r_91 31)])))) H := hP
          generalize hfe : va_up f_84 o (.inr (12, [.ref (r_91 0), .ref (r_91 1), .int (v_92 0), .ref (r_91 2), .ref (r_91 3), .ref (r_91 4), .ref (r_91 5), .ref (r_91 6), .ref (r_91 7), .ref (r_91 8), .ref (r_91 9), .ref (r_91 10), .ref (r_91 11), .ref (r_91 12), .ref (r_91 13), .ref (r_91 14), .ref (r_91 15), .int z_104, .int (v_92 2), .int (v_92 3), .int (v_92 4), .int (v_92 5), .int (v_92 6), .int (v_92 7), .ref (r_91 16), .int (v_92 8), .ref (r_91 17), .int (v_92 9), .ref (r_91 18), .long q_93, .ref (r_91 19), .ref (r_91 20), .int (v_92 10), .int (v_92 11), .int (v_92 12), .ref (r_91 21), .ref (r_91 22), .int (v_92 13), .ref (r_91 23), .int (v_92 14), .int (v_92 15), .ref (r_91 24), .ref (r_91 25), .ref (r_91 26), .ref (r_91 27), .ref (r_91 28), .ref (r_91 29), .ref (r_91 30), .ref (r_91 31)])) = f_107 at hP hI9 hfr9
          have hD : va_D A (va_pl L f_107) := tp_D hL hAL
          have hf_108 : f_107 o = .inr (12, [.ref (r_91 0), .ref (r_91 1), .int (v_92 0), .ref (r_91 2), .ref (r_91 3), .ref (r_91 4), .ref (r_91 5), .ref (r_91 6), .ref (r_91 7), .ref (r_91 8), .ref (r_91 9), .ref (r_91 10), .ref (r_91 11), .ref (r_91 12), .ref (r_91 13), .ref (r_91 14), .ref (r_91 15), .int z_104, .int (v_92 2), .int (v_92 3), .int (v_92 4), .int (v_92 5), .int (v_92 6), .int (v_92 7), .ref (r_91 16), .int (v_92 8), .ref (r_91 17), .int (v_92 9), .ref (r_91 18), .long q_93, .ref (r_91 19), .ref (r_91 20), .int (v_92 10), .int (v_92 11), .int (v_92 12), .ref (r_91 21), .ref (r_91 22), .int (v_92 13), .ref (r_91 23), .int (v_92 14), .int (v_92 15), .ref (r_91 24), .ref (r_91 25), .ref (r_91 26), .ref (r_91 27), .ref (r_91 28), .ref (r_91 29), .ref (r_91 30), .ref (r_91 31)]) := by rw [← hfe]; exact va_up_self _ _ _
          clear hfe
          have hI := hI9
          have hfr := hfr9
          clear hI9 hfr9
          have hgr : ∀ κ : tk_K, κ.1 ∉ ([39, 43, 44, 52] : List Nat) → Γ_105 κ = Γ κ := tg_fr hgr eΓ_105 (by decide)
          have hx_109 : (v_92 0).toInt = Γ_105 (39, 0, 0) 0 := hv_106 0 (by decide)
          have hx_110 : z_104.toInt = Γ_105 (39, 0, 0) 1 := hv_106 1 (by decide)
          have hx_111 : (v_92 3).toInt = Γ_105 (39, 0, 0) 3 := hv_106 3 (by decide)
          have hx_112 : (v_92 4).toInt = Γ_105 (39, 0, 0) 4 := hv_106 4 (by decide)
          have hx_113 : (v_92 5).toInt = Γ_105 (39, 0, 0) 5 := hv_106 5 (by decide)
          have hx_114 : (v_92 6).toInt = Γ_105 (39, 0, 0) 6 := hv_106 6 (by decide)
          have hx_115 : (v_92 7).toInt = Γ_105 (39, 0, 0) 7 := hv_106 7 (by decide)
          have hx_116 : (v_92 8).toInt = Γ_105 (39, 0, 0) 8 := hv_106 8 (by decide)
          have hO : Γ_105 (52, 400, 0) = tgu (Γ_2 (52, 400, 0)) (Γ_2 (39, 0, 0) 8).toNat 91 := (show Γ_105 (52, 400, 0) = _ from by rw [eΓ_105, tg_rf (by decide)]).trans hO
          obtain ⟨hpa, hpb, hpc, hpd, _⟩ := id hp
          have hle := congrFun (show Γ_105 (44, 22, 0) = _ from by rw [eΓ_105, tg_rf (by decide)]) t0.toNat
          have hp : ps (Γ_105 (43, 8800, 0)) t0 (Γ_105 (44, 22, 0) t0.toNat) (Γ_105 (39, 0, 0) 1) T0 (Γ_105 (39, 0, 0) 5) a (cn (Γ_2 (52, 400, 0)) (Γ_2 (39, 0, 0) 8).toNat) := hp.eq (show Γ_105 (43, 8800, 0) = _ from by rw [eΓ_105, tg_rf (by decide)]) rfl (congrFun (show Γ_105 (44, 22, 0) = _ from by rw [eΓ_105, tg_rf (by decide)]) _) (by omega) rfl (by omega)
          have hz : fz (Γ (43, 8800, 0)) (Γ_105 (43, 8800, 0)) (Γ (44, 22, 0)) (Γ_105 (44, 22, 0)) t0 := by rw [(show Γ_105 (43, 8800, 0) = _ from by rw [eΓ_105, tg_rf (by decide)]), (show Γ_105 (44, 22, 0) = _ from by rw [eΓ_105, tg_rf (by decide)])]; exact hz
          have hfw : fw (Γ (43, 8800, 0)) (Γ_105 (43, 8800, 0)) (Γ (44, 22, 0)) (Γ_105 (44, 22, 0)) t0 := by rw [(show Γ_105 (43, 8800, 0) = _ from by rw [eΓ_105, tg_rf (by decide)]), (show Γ_105 (44, 22, 0) = _ from by rw [eΓ_105, tg_rf (by decide)])]; exact hfw
          refine lv_iconst (v := 1) hx hb dX12_fact_70 (by decide) ?_
          refine lv_istore_n (lv' := [(1, .int 1), (2, .int r_40), (0, .ref o)]) hx hb dX12_fact_71 rfl hl (by decide) rfl (fun ls hl => ?_)
          refine lv_goto (tgt := 2) hx hb dX12_fact_72 (by decide) ?_
          exact ih2 (f_107, Γ_105, 1) H locs ls (by show (2 * (400 - Γ_105 (39, 0, 0) 1) + (1 : Int)).toNat < (2 * (400 - Γ_2 (39, 0, 0) 1) + v1.toInt).toNat; omega) ⟨(show ps (Γ_105 (43, 8800, 0)) t0 (Γ_105 (44, 22, 0) t0.toNat) (Γ_105 (39, 0, 0) 1) T0 (Γ_105 (39, 0, 0) 5) a (cn (Γ_105 (52, 400, 0)) (Γ_105 (39, 0, 0) 8).toNat) from (hp.dd (by rw [hO, show (Γ_105 (39, 0, 0) 8).toNat = (Γ_2 (39, 0, 0) 8).toNat + 1 from by omega, cn_put, if_neg (by decide)]; omega))), (show fz (Γ (43, 8800, 0)) (Γ_105 (43, 8800, 0)) (Γ (44, 22, 0)) (Γ_105 (44, 22, 0)) t0 from hz), (show fw (Γ (43, 8800, 0)) (Γ_105 (43, 8800, 0)) (Γ (44, 22, 0)) (Γ_105 (44, 22, 0)) t0 from hfw), (show Γ_105 (39, 0, 0) 0 = Γ (39, 0, 0) 0 from (by omega)), (show Γ_105 (39, 0, 0) 4 = Γ (39, 0, 0) 4 from (by omega)), (show Γ_105 (39, 0, 0) 5 = Γ (39, 0, 0) 5 from (by omega)), (show Γ_105 (39, 0, 0) 7 = Γ (39, 0, 0) 7 from (by omega)), (show Γ (39, 0, 0) 1 ≤ Γ_105 (39, 0, 0) 1 ∧ Γ_105 (39, 0, 0) 1 ≤ T0 from (by omega)), (show 0 ≤ Γ_105 (39, 0, 0) 8 ∧ Γ_105 (44, 22, 0) t0.toNat + Γ_105 (39, 0, 0) 8 ≤ Γ_105 (39, 0, 0) 1 from (by omega)), (show ∀ j : Nat, (j : Int) < Γ_105 (39, 0, 0) 8 → ent (Γ_105 (52, 400, 0) j) from (by rw [hO]; exact ent_put (by omega) hop (Or.inr (Or.inr (Or.inr rfl))) (by omega))), (show (1 : Int) = 0 ∨ (1 : Int) = 1 from (by decide)), hP, hI, hfr, hgr, hS, lv_sub hl [0, 2] rfl⟩
        · have c_89 := c_89
          refine lv_iconst (v := 0) hx hb dX12_fact_58 (by decide) ?_
          have hpo9 : tl_J (0 : Int32) (ps (Γ_86 (43, 8800, 0)) t0 (Γ_86 (44, 22, 0) t0.toNat) (Γ_86 (39, 0, 0) 1) T0 (Γ_86 (39, 0, 0) 5) a (1 + cn (Γ_86 (52, 400, 0)) (Γ_86 (39, 0, 0) 8).toNat) ∧ (0 ≤ Γ_86 (39, 0, 0) 8 ∧ Γ_86 (44, 22, 0) t0.toNat + Γ_86 (39, 0, 0) 8 ≤ Γ_86 (39, 0, 0) 1) ∧ fz (Γ (43, 8800, 0)) (Γ_86 (43, 8800, 0)) (Γ (44, 22, 0)) (Γ_86 (44, 22, 0)) t0 ∧ (∀ j : Nat, (j : Int) < Γ_86 (39, 0, 0) 8 → ent (Γ_86 (52, 400, 0) j))) ∧ Γ_86 (39, 0, 0) 0 = Γ (39, 0, 0) 0 ∧ Γ_86 (39, 0, 0) 4 = Γ (39, 0, 0) 4 ∧ Γ_86 (39, 0, 0) 7 = Γ (39, 0, 0) 7 ∧ Γ (39, 0, 0) 1 ≤ Γ_86 (39, 0, 0) 1 ∧ Γ_86 (39, 0, 0) 1 ≤ T0 ∧ fw (Γ (43, 8800, 0)) (Γ_86 (43, 8800, 0)) (Γ (44, 22, 0)) (Γ_86 (44, 22, 0)) t0 := ⟨(Or.inr rfl), ⟨(by omega), (by omega), (by omega), (by omega), (by omega), hfw⟩⟩
          exact W.zret (ty := .boolean) (v := 0) hx hb hr rfl (fun t ht hW => ⟨⟨_, (f_84, Γ_86), rfl, hpo9, by rw [ht]; exact hP, hI, hfr, hgr⟩, hS.F ht⟩) hS.2.2 dX12_fact_59
    · have c_66 := hE_65.t c_66
      refine lv_aload_n hx hb dX12_fact_23 rfl (lv_at hl 2 rfl) ?_
      refine lv_bipush (v := 11) hx hb dX12_fact_24 (by decide) ?_
      obtain ⟨hpa, hpb, hpc, hpd, _⟩ := id hp
      have hlt9 : Γ_63 (39, 0, 0) 1 < T0 := (tr_W.L (by assumption : tr_W τ T0 (Γ_63 (39, 0, 0) 1) _)).1
      obtain ⟨r_118, v_119, q_120, hf_117, hr_121, hv_122⟩ := (show tp_o_M L K 0 0 (Γ_63 (39, 0, 0)) (f_61 o) from hI.at ho)
      refine tq_ciR hS (hAf _ hS.1) (tq_rV (As := [.int 11]) (rest := []) ⟨hx, hb, hml, hown, hta⟩ (tp_P.pre hK hN hL hU hI hP) (tp_recv hK hP ho.1 hf_117 rfl) lk_X12_254 (r_X12_opens l D cy H.size L K Γ_63 f_61 o 11 ho (by first | omega | (simp only [Int32.toInt_toInt64]; omega) | decide | assumption)) rfl rfl ⟨Nat.le_of_ble_eq_true rfl, Nat.le_of_ble_eq_true rfl⟩ rfl hl.1 rfl (Nat.le_of_ble_eq_true rfl) dX12_fact_26 ⟨Nat.le_of_ble_eq_true rfl, Nat.le_of_ble_eq_true rfl⟩) (fun r_132 f_133 Γ_135 H locs hw_131 hP hI hc_134 hcg_136 hS => ?_)
      have hD : va_D A (va_pl L f_133) := tp_D hL hAL
      have hfr := tp_fr2 hfr hc_134 (by decide)
      have hgr : ∀ κ : tk_K, κ.1 ∉ ([39, 43, 44, 52] : List Nat) → Γ_135 κ = Γ κ := tg_fr2 hgr hcg_136 (by decide)
      obtain ⟨hE_137, hw_131⟩ := hw_131
      have hE_137 : tl_J r_132 (Γ_135 (39, 0, 0) 8 = Γ_63 (39, 0, 0) 8 + 1 ∧ Γ_135 (52, 400, 0) = tgu (Γ_63 (52, 400, 0)) (Γ_63 (39, 0, 0) 8).toNat (11 : Int)) := hE_137
      have hw_131 : Γ_135 (39, 0, 0) 0 = Γ_63 (39, 0, 0) 0 ∧ Γ_135 (39, 0, 0) 1 = Γ_63 (39, 0, 0) 1 ∧ Γ_135 (39, 0, 0) 3 = Γ_63 (39, 0, 0) 3 ∧ Γ_135 (39, 0, 0) 4 = Γ_63 (39, 0, 0) 4 ∧ Γ_135 (39, 0, 0) 5 = Γ_63 (39, 0, 0) 5 ∧ Γ_135 (39, 0, 0) 7 = Γ_63 (39, 0, 0) 7 := hw_131
      have hOp := hO
      obtain ⟨hpa, hpb, hpc, hpd, _⟩ := id hp
      have hle := congrFun (hcg_136 (44, 22, 0) (by decide)) t0.toNat
      have hp : ps (Γ_135 (43, 8800, 0)) t0 (Γ_135 (44, 22, 0) t0.toNat) (Γ_135 (39, 0, 0) 1) T0 (Γ_135 (39, 0, 0) 5) a (cn (Γ_2 (52, 400, 0)) (Γ_2 (39, 0, 0) 8).toNat) := hp.eq (hcg_136 (43, 8800, 0) (by decide)) rfl (congrFun (hcg_136 (44, 22, 0) (by decide)) _) (by omega) rfl (by omega)
      have hz : fz (Γ (43, 8800, 0)) (Γ_135 (43, 8800, 0)) (Γ (44, 22, 0)) (Γ_135 (44, 22, 0)) t0 := by rw [(hcg_136 (43, 8800, 0) (by decide)), (hcg_136 (44, 22, 0) (by decide))]; exact hz
      have hfw : fw (Γ (43, 8800, 0)) (Γ_135 (43, 8800, 0)) (Γ (44, 22, 0)) (Γ_135 (44, 22, 0)) t0 := by rw [(hcg_136 (43, 8800, 0) (by decide)), (hcg_136 (44, 22, 0) (by decide))]; exact hfw
      refine lv_if_ne (tgt := 34) hx hb dX12_fact_29 (by decide) (fun c_138 => ?_) (fun c_138 => ?_)
      · have c_138 := hE_137.t c_138
        obtain ⟨h8n, hOn⟩ := (by assumption : Γ_135 (39, 0, 0) 8 = Γ_63 (39, 0, 0) 8 + 1 ∧ Γ_135 (52, 400, 0) = tgu (Γ_63 (52, 400, 0)) (Γ_63 (39, 0, 0) 8).toNat (11 : Int))
        have hO : Γ_135 (52, 400, 0) = tgu (Γ_2 (52, 400, 0)) (Γ_2 (39, 0, 0) 8).toNat 11 := by rw [hOn, hOp, show Γ_63 (39, 0, 0) 8 = Γ_2 (39, 0, 0) 8 from by omega]
        refine lv_aload_n hx hb dX12_fact_34 rfl (lv_at hl 2 rfl) ?_
        obtain ⟨r_140, v_141, q_142, hf_139, hr_143, hv_144⟩ := (show tp_o_M L K 0 0 (Γ_135 (39, 0, 0)) (f_133 o) from hI.at ho)
        refine tq_cvR hS (hAf _ hS.1) (tq_rV (As := []) (rest := []) ⟨hx, hb, hml, hown, hta⟩ (tp_P.pre hK hN hL hU hI hP) (tp_recv hK hP ho.1 hf_139 rfl) lk_X12_178 (r_X12_passWord l D cy H.size L K Γ_135 f_133 o τ T0 ho ((hgr _ (by decide)).trans ht) (by first | omega | (simp only [Int32.toInt_toInt64]; omega) | decide | assumption) (by first | omega | (simp only [Int32.toInt_toInt64]; omega) | decide | assumption)) rfl rfl ⟨Nat.le_of_ble_eq_true rfl, Nat.le_of_ble_eq_true rfl⟩ rfl hl.1 rfl (Nat.le_of_ble_eq_true rfl) dX12_fact_35 ⟨Nat.le_of_ble_eq_true rfl, Nat.le_of_ble_eq_true rfl⟩) (fun f_155 Γ_157 H locs hw_153 hP hI hc_156 hcg_158 hS => ?_)
        have hD : va_D A (va_pl L f_155) := tp_D hL hAL
        have hfr := tp_fr2 hfr hc_156 (by decide)
        have hgr : ∀ κ : tk_K, κ.1 ∉ ([39, 43, 44, 52] : List Nat) → Γ_157 κ = Γ κ := tg_fr2 hgr hcg_158 (by decide)
        have hw_153 : Γ_157 (39, 0, 0) 0 = Γ_135 (39, 0, 0) 0 ∧ Γ_157 (39, 0, 0) 3 = Γ_135 (39, 0, 0) 3 ∧ Γ_157 (39, 0, 0) 4 = Γ_135 (39, 0, 0) 4 ∧ Γ_157 (39, 0, 0) 5 = Γ_135 (39, 0, 0) 5 ∧ Γ_157 (39, 0, 0) 6 = Γ_135 (39, 0, 0) 6 ∧ Γ_157 (39, 0, 0) 7 = Γ_135 (39, 0, 0) 7 ∧ Γ_157 (39, 0, 0) 8 = Γ_135 (39, 0, 0) 8 ∧ Γ_135 (39, 0, 0) 1 ≤ Γ_157 (39, 0, 0) 1 ∧ Γ_157 (39, 0, 0) 1 ≤ T0 ∧ (tr_L τ T0 (Γ_135 (39, 0, 0) 1) → Γ_135 (39, 0, 0) 1 + 1 ≤ Γ_157 (39, 0, 0) 1) := hw_153
        have hpw := hw_153.2.2.2.2.2.2.2.2.2 (by rw [show Γ_135 (39, 0, 0) 1 = Γ_63 (39, 0, 0) 1 from by omega]; exact tr_W.L (by assumption))
        have hO : Γ_157 (52, 400, 0) = tgu (Γ_2 (52, 400, 0)) (Γ_2 (39, 0, 0) 8).toNat 11 := (hcg_158 (52, 400, 0) (by decide)).trans hO
        obtain ⟨hpa, hpb, hpc, hpd, _⟩ := id hp
        have hle := congrFun (hcg_158 (44, 22, 0) (by decide)) t0.toNat
        have hp : ps (Γ_157 (43, 8800, 0)) t0 (Γ_157 (44, 22, 0) t0.toNat) (Γ_157 (39, 0, 0) 1) T0 (Γ_157 (39, 0, 0) 5) a (cn (Γ_2 (52, 400, 0)) (Γ_2 (39, 0, 0) 8).toNat) := hp.eq (hcg_158 (43, 8800, 0) (by decide)) rfl (congrFun (hcg_158 (44, 22, 0) (by decide)) _) (by omega) rfl (by omega)
        have hz : fz (Γ (43, 8800, 0)) (Γ_157 (43, 8800, 0)) (Γ (44, 22, 0)) (Γ_157 (44, 22, 0)) t0 := by rw [(hcg_158 (43, 8800, 0) (by decide)), (hcg_158 (44, 22, 0) (by decide))]; exact hz
        have hfw : fw (Γ (43, 8800, 0)) (Γ_157 (43, 8800, 0)) (Γ (44, 22, 0)) (Γ_157 (44, 22, 0)) t0 := by rw [(hcg_158 (43, 8800, 0) (by decide)), (hcg_158 (44, 22, 0) (by decide))]; exact hfw
        refine lv_iconst (v := 1) hx hb dX12_fact_38 (by decide) ?_
        refine lv_istore_n (lv' := [(1, .int 1), (2, .int r_40), (0, .ref o)]) hx hb dX12_fact_39 rfl hl (by decide) rfl (fun ls hl => ?_)
        refine lv_goto (tgt := 72) hx hb dX12_fact_40 (by decide) ?_
        refine lv_goto (tgt := 2) hx hb dX12_fact_72 (by decide) ?_
        exact ih2 (f_155, Γ_157, 1) H locs ls (by show (2 * (400 - Γ_157 (39, 0, 0) 1) + (1 : Int)).toNat < (2 * (400 - Γ_2 (39, 0, 0) 1) + v1.toInt).toNat; omega) ⟨(show ps (Γ_157 (43, 8800, 0)) t0 (Γ_157 (44, 22, 0) t0.toNat) (Γ_157 (39, 0, 0) 1) T0 (Γ_157 (39, 0, 0) 5) a (cn (Γ_157 (52, 400, 0)) (Γ_157 (39, 0, 0) 8).toNat) from (hp.dd (by rw [hO, show (Γ_157 (39, 0, 0) 8).toNat = (Γ_2 (39, 0, 0) 8).toNat + 1 from by omega, cn_put, if_neg (by decide)]; omega))), (show fz (Γ (43, 8800, 0)) (Γ_157 (43, 8800, 0)) (Γ (44, 22, 0)) (Γ_157 (44, 22, 0)) t0 from hz), (show fw (Γ (43, 8800, 0)) (Γ_157 (43, 8800, 0)) (Γ (44, 22, 0)) (Γ_157 (44, 22, 0)) t0 from hfw), (show Γ_157 (39, 0, 0) 0 = Γ (39, 0, 0) 0 from (by omega)), (show Γ_157 (39, 0, 0) 4 = Γ (39, 0, 0) 4 from (by omega)), (show Γ_157 (39, 0, 0) 5 = Γ (39, 0, 0) 5 from (by omega)), (show Γ_157 (39, 0, 0) 7 = Γ (39, 0, 0) 7 from (by omega)), (show Γ (39, 0, 0) 1 ≤ Γ_157 (39, 0, 0) 1 ∧ Γ_157 (39, 0, 0) 1 ≤ T0 from (by omega)), (show 0 ≤ Γ_157 (39, 0, 0) 8 ∧ Γ_157 (44, 22, 0) t0.toNat + Γ_157 (39, 0, 0) 8 ≤ Γ_157 (39, 0, 0) 1 from (by omega)), (show ∀ j : Nat, (j : Int) < Γ_157 (39, 0, 0) 8 → ent (Γ_157 (52, 400, 0) j) from (by rw [hO]; exact ent_put (by omega) hop (Or.inl rfl) (by omega))), (show (1 : Int) = 0 ∨ (1 : Int) = 1 from (by decide)), hP, hI, hfr, hgr, hS, lv_sub hl [0, 2] rfl⟩
      · have c_138 := c_138
        refine lv_iconst (v := 0) hx hb dX12_fact_32 (by decide) ?_
        have hpo9 : tl_J (0 : Int32) (ps (Γ_135 (43, 8800, 0)) t0 (Γ_135 (44, 22, 0) t0.toNat) (Γ_135 (39, 0, 0) 1) T0 (Γ_135 (39, 0, 0) 5) a (1 + cn (Γ_135 (52, 400, 0)) (Γ_135 (39, 0, 0) 8).toNat) ∧ (0 ≤ Γ_135 (39, 0, 0) 8 ∧ Γ_135 (44, 22, 0) t0.toNat + Γ_135 (39, 0, 0) 8 ≤ Γ_135 (39, 0, 0) 1) ∧ fz (Γ (43, 8800, 0)) (Γ_135 (43, 8800, 0)) (Γ (44, 22, 0)) (Γ_135 (44, 22, 0)) t0 ∧ (∀ j : Nat, (j : Int) < Γ_135 (39, 0, 0) 8 → ent (Γ_135 (52, 400, 0) j))) ∧ Γ_135 (39, 0, 0) 0 = Γ (39, 0, 0) 0 ∧ Γ_135 (39, 0, 0) 4 = Γ (39, 0, 0) 4 ∧ Γ_135 (39, 0, 0) 7 = Γ (39, 0, 0) 7 ∧ Γ (39, 0, 0) 1 ≤ Γ_135 (39, 0, 0) 1 ∧ Γ_135 (39, 0, 0) 1 ≤ T0 ∧ fw (Γ (43, 8800, 0)) (Γ_135 (43, 8800, 0)) (Γ (44, 22, 0)) (Γ_135 (44, 22, 0)) t0 := ⟨(Or.inr rfl), ⟨(by omega), (by omega), (by omega), (by omega), (by omega), hfw⟩⟩
        exact W.zret (ty := .boolean) (v := 0) hx hb hr rfl (fun t ht hW => ⟨⟨_, (f_133, Γ_135), rfl, hpo9, by rw [ht]; exact hP, hI, hfr, hgr⟩, hS.F ht⟩) hS.2.2 dX12_fact_33
