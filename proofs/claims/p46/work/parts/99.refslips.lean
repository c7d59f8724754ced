theorem dX12_deepWithout_0 : decode cX12_deepWithout 0 = .ok (.aload_n 0, 1) := by decide +kernel
theorem dX12_deepWithout_1 : decode cX12_deepWithout 1 = .ok (.iload_n 2, 1) := by decide +kernel
theorem dX12_deepWithout_2 : decode cX12_deepWithout 2 = .ok (.invokevirtual 441, 3) := by decide +kernel
theorem dX12_deepWithout_5 : decode cX12_deepWithout 5 = .ok (.bipush 81, 2) := by decide +kernel
theorem dX12_deepWithout_7 : decode cX12_deepWithout 7 = .ok (.iconst 4, 1) := by decide +kernel
theorem dX12_deepWithout_8 : decode cX12_deepWithout 8 = .ok (.iload_n 3, 1) := by decide +kernel
theorem dX12_deepWithout_9 : decode cX12_deepWithout 9 = .ok (.imul, 1) := by decide +kernel
theorem dX12_deepWithout_10 : decode cX12_deepWithout 10 = .ok (.iadd, 1) := by decide +kernel
theorem dX12_deepWithout_11 : decode cX12_deepWithout 11 = .ok (.istore 4, 2) := by decide +kernel
theorem dX12_deepWithout_13 : decode cX12_deepWithout 13 = .ok (.aload_n 0, 1) := by decide +kernel
theorem dX12_deepWithout_14 : decode cX12_deepWithout 14 = .ok (.getfield 7, 3) := by decide +kernel
theorem dX12_deepWithout_17 : decode cX12_deepWithout 17 = .ok (.iload 4, 2) := by decide +kernel
theorem dX12_deepWithout_19 : decode cX12_deepWithout 19 = .ok (.iconst 1, 1) := by decide +kernel
theorem dX12_deepWithout_20 : decode cX12_deepWithout 20 = .ok (.iadd, 1) := by decide +kernel
theorem dX12_deepWithout_21 : decode cX12_deepWithout 21 = .ok (.iaload, 1) := by decide +kernel
theorem dX12_deepWithout_22 : decode cX12_deepWithout 22 = .ok (.istore 5, 2) := by decide +kernel
theorem dX12_deepWithout_24 : decode cX12_deepWithout 24 = .ok (.iload 5, 2) := by decide +kernel
theorem dX12_deepWithout_26 : decode cX12_deepWithout 26 = .ok (.aload_n 0, 1) := by decide +kernel
theorem dX12_deepWithout_27 : decode cX12_deepWithout 27 = .ok (.getfield 7, 3) := by decide +kernel
theorem dX12_deepWithout_30 : decode cX12_deepWithout 30 = .ok (.iload 4, 2) := by decide +kernel
theorem dX12_deepWithout_32 : decode cX12_deepWithout 32 = .ok (.iconst 2, 1) := by decide +kernel
theorem dX12_deepWithout_33 : decode cX12_deepWithout 33 = .ok (.iadd, 1) := by decide +kernel
theorem dX12_deepWithout_34 : decode cX12_deepWithout 34 = .ok (.iaload, 1) := by decide +kernel
theorem dX12_deepWithout_35 : decode cX12_deepWithout 35 = .ok (.if_icmp .gt 60, 3) := by decide +kernel
theorem dX12_deepWithout_38 : decode cX12_deepWithout 38 = .ok (.aload_n 0, 1) := by decide +kernel
theorem dX12_deepWithout_39 : decode cX12_deepWithout 39 = .ok (.getfield 7, 3) := by decide +kernel
theorem dX12_deepWithout_42 : decode cX12_deepWithout 42 = .ok (.iload 4, 2) := by decide +kernel
theorem dX12_deepWithout_44 : decode cX12_deepWithout 44 = .ok (.iaload, 1) := by decide +kernel
theorem dX12_deepWithout_45 : decode cX12_deepWithout 45 = .ok (.aload_n 0, 1) := by decide +kernel
theorem dX12_deepWithout_46 : decode cX12_deepWithout 46 = .ok (.iload_n 2, 1) := by decide +kernel
theorem dX12_deepWithout_47 : decode cX12_deepWithout 47 = .ok (.iconst 0, 1) := by decide +kernel
theorem dX12_deepWithout_48 : decode cX12_deepWithout 48 = .ok (.invokevirtual 132, 3) := by decide +kernel
theorem dX12_deepWithout_51 : decode cX12_deepWithout 51 = .ok (.if_icmp .ne 44, 3) := by decide +kernel
theorem dX12_deepWithout_54 : decode cX12_deepWithout 54 = .ok (.aload_n 0, 1) := by decide +kernel
theorem dX12_deepWithout_55 : decode cX12_deepWithout 55 = .ok (.getfield 69, 3) := by decide +kernel
theorem dX12_deepWithout_58 : decode cX12_deepWithout 58 = .ok (.iload 5, 2) := by decide +kernel
theorem dX12_deepWithout_60 : decode cX12_deepWithout 60 = .ok (.dup2, 1) := by decide +kernel
theorem dX12_deepWithout_61 : decode cX12_deepWithout 61 = .ok (.iaload, 1) := by decide +kernel
theorem dX12_deepWithout_62 : decode cX12_deepWithout 62 = .ok (.aload_n 0, 1) := by decide +kernel
theorem dX12_deepWithout_63 : decode cX12_deepWithout 63 = .ok (.getfield 69, 3) := by decide +kernel
theorem dX12_deepWithout_66 : decode cX12_deepWithout 66 = .ok (.iload 5, 2) := by decide +kernel
theorem dX12_deepWithout_68 : decode cX12_deepWithout 68 = .ok (.iaload, 1) := by decide +kernel
theorem dX12_deepWithout_69 : decode cX12_deepWithout 69 = .ok (.ldc 109, 2) := by decide +kernel
theorem dX12_deepWithout_71 : decode cX12_deepWithout 71 = .ok (.if_icmp .ne 7, 3) := by decide +kernel
theorem dX12_deepWithout_74 : decode cX12_deepWithout 74 = .ok (.iconst 0, 1) := by decide +kernel
theorem dX12_deepWithout_75 : decode cX12_deepWithout 75 = .ok (.goto 12, 3) := by decide +kernel
theorem dX12_deepWithout_78 : decode cX12_deepWithout 78 = .ok (.aload_n 0, 1) := by decide +kernel
theorem dX12_deepWithout_79 : decode cX12_deepWithout 79 = .ok (.getfield 7, 3) := by decide +kernel
theorem dX12_deepWithout_82 : decode cX12_deepWithout 82 = .ok (.iload 4, 2) := by decide +kernel
theorem dX12_deepWithout_84 : decode cX12_deepWithout 84 = .ok (.iconst 3, 1) := by decide +kernel
theorem dX12_deepWithout_85 : decode cX12_deepWithout 85 = .ok (.iadd, 1) := by decide +kernel
theorem dX12_deepWithout_86 : decode cX12_deepWithout 86 = .ok (.iaload, 1) := by decide +kernel
theorem dX12_deepWithout_87 : decode cX12_deepWithout 87 = .ok (.iadd, 1) := by decide +kernel
theorem dX12_deepWithout_88 : decode cX12_deepWithout 88 = .ok (.iastore, 1) := by decide +kernel
theorem dX12_deepWithout_89 : decode cX12_deepWithout 89 = .ok (.iinc 5 1, 3) := by decide +kernel
theorem dX12_deepWithout_92 : decode cX12_deepWithout 92 = .ok (.goto (-68), 3) := by decide +kernel
theorem dX12_deepWithout_95 : decode cX12_deepWithout 95 = .ok (.aload_n 0, 1) := by decide +kernel
theorem dX12_deepWithout_96 : decode cX12_deepWithout 96 = .ok (.iload_n 1, 1) := by decide +kernel
theorem dX12_deepWithout_97 : decode cX12_deepWithout 97 = .ok (.iload_n 2, 1) := by decide +kernel
theorem dX12_deepWithout_98 : decode cX12_deepWithout 98 = .ok (.invokevirtual 444, 3) := by decide +kernel
theorem dX12_deepWithout_101 : decode cX12_deepWithout 101 = .ok (.pop2, 1) := by decide +kernel
theorem dX12_deepWithout_102 : decode cX12_deepWithout 102 = .ok (.aload_n 0, 1) := by decide +kernel
theorem dX12_deepWithout_103 : decode cX12_deepWithout 103 = .ok (.getfield 425, 3) := by decide +kernel
theorem dX12_deepWithout_106 : decode cX12_deepWithout 106 = .ok (.ifCond .eq 10, 3) := by decide +kernel
theorem dX12_deepWithout_109 : decode cX12_deepWithout 109 = .ok (.aload_n 0, 1) := by decide +kernel
theorem dX12_deepWithout_110 : decode cX12_deepWithout 110 = .ok (.invokevirtual 431, 3) := by decide +kernel
theorem dX12_deepWithout_113 : decode cX12_deepWithout 113 = .ok (.goto 6, 3) := by decide +kernel
theorem dX12_deepWithout_116 : decode cX12_deepWithout 116 = .ok (.ldc2_w 405, 3) := by decide +kernel
theorem dX12_deepWithout_119 : decode cX12_deepWithout 119 = .ok (.lreturn, 1) := by decide +kernel
theorem dX12_without_0 : decode cX12_without 0 = .ok (.aload_n 0, 1) := by decide +kernel
theorem dX12_without_1 : decode cX12_without 1 = .ok (.iload_n 1, 1) := by decide +kernel
theorem dX12_without_2 : decode cX12_without 2 = .ok (.iload_n 2, 1) := by decide +kernel
theorem dX12_without_3 : decode cX12_without 3 = .ok (.invokevirtual 447, 3) := by decide +kernel
theorem dX12_without_6 : decode cX12_without 6 = .ok (.ifCond .eq 32, 3) := by decide +kernel
theorem dX12_without_9 : decode cX12_without 9 = .ok (.iload_n 3, 1) := by decide +kernel
theorem dX12_without_10 : decode cX12_without 10 = .ok (.i2l, 1) := by decide +kernel
theorem dX12_without_11 : decode cX12_without 11 = .ok (.lconst 0, 1) := by decide +kernel
theorem dX12_without_12 : decode cX12_without 12 = .ok (.aload_n 0, 1) := by decide +kernel
theorem dX12_without_13 : decode cX12_without 13 = .ok (.getfield 7, 3) := by decide +kernel
theorem dX12_without_16 : decode cX12_without 16 = .ok (.iconst 2, 1) := by decide +kernel
theorem dX12_without_17 : decode cX12_without 17 = .ok (.iaload, 1) := by decide +kernel
theorem dX12_without_18 : decode cX12_without 18 = .ok (.iconst 1, 1) := by decide +kernel
theorem dX12_without_19 : decode cX12_without 19 = .ok (.isub, 1) := by decide +kernel
theorem dX12_without_20 : decode cX12_without 20 = .ok (.i2l, 1) := by decide +kernel
theorem dX12_without_21 : decode cX12_without 21 = .ok (.invokestatic 112, 3) := by decide +kernel
theorem dX12_without_24 : decode cX12_without 24 = .ok (.ifCond .eq 14, 3) := by decide +kernel
theorem dX12_without_27 : decode cX12_without 27 = .ok (.aload_n 0, 1) := by decide +kernel
theorem dX12_without_28 : decode cX12_without 28 = .ok (.iload_n 1, 1) := by decide +kernel
theorem dX12_without_29 : decode cX12_without 29 = .ok (.iload_n 2, 1) := by decide +kernel
theorem dX12_without_30 : decode cX12_without 30 = .ok (.iload_n 3, 1) := by decide +kernel
theorem dX12_without_31 : decode cX12_without 31 = .ok (.invokevirtual 521, 3) := by decide +kernel
theorem dX12_without_34 : decode cX12_without 34 = .ok (.l2i, 1) := by decide +kernel
theorem dX12_without_35 : decode cX12_without 35 = .ok (.goto 5, 3) := by decide +kernel
theorem dX12_without_38 : decode cX12_without 38 = .ok (.ldc 131, 2) := by decide +kernel
theorem dX12_without_40 : decode cX12_without 40 = .ok (.ireturn, 1) := by decide +kernel
theorem wk_1286 : Cond.methodLink RX12 521 yX12_deepWithout ∈ tl_L := List.mem_filter.mpr ⟨lw_m8 (i := 196) rfl, rfl⟩
theorem wk_1287 : Cond.instanceMethod yX12_deepWithout ∈ tl_L := List.mem_filter.mpr ⟨lw_m8 (i := 198) rfl, rfl⟩
theorem wk_1288 : Cond.selects RX12 yX12_deepWithout yX12_deepWithout ∈ tl_L := List.mem_filter.mpr ⟨lw_s11 (i := 9) (q := (yX12_deepWithout, 49)) rfl, rfl⟩
theorem wk_1289 : Cond.code yX12_deepWithout cX12_deepWithout 6 (some .long) ∈ tl_L := List.mem_filter.mpr ⟨lw_m8 (i := 199) rfl, rfl⟩
theorem lk_X12_521 : tl_kV RX12 521 RX12 yX12_deepWithout cX12_deepWithout 6 (some .long) 3 := ⟨wk_1289, wk_1286, wk_1287, wk_1288, wk_5, ⟨by decide +kernel, by decide +kernel, by decide +kernel⟩⟩
theorem dX12_weightiest_0 : decode cX12_weightiest 0 = .ok (.aload_n 0, 1) := by decide +kernel
theorem dX12_weightiest_1 : decode cX12_weightiest 1 = .ok (.iload_n 1, 1) := by decide +kernel
theorem dX12_weightiest_2 : decode cX12_weightiest 2 = .ok (.iload_n 2, 1) := by decide +kernel
theorem dX12_weightiest_3 : decode cX12_weightiest 3 = .ok (.invokevirtual 447, 3) := by decide +kernel
theorem dX12_weightiest_6 : decode cX12_weightiest 6 = .ok (.ifCond .ne 5, 3) := by decide +kernel
theorem dX12_weightiest_9 : decode cX12_weightiest 9 = .ok (.iconst (-1), 1) := by decide +kernel
theorem dX12_weightiest_10 : decode cX12_weightiest 10 = .ok (.ireturn, 1) := by decide +kernel
theorem dX12_weightiest_11 : decode cX12_weightiest 11 = .ok (.aload_n 0, 1) := by decide +kernel
theorem dX12_weightiest_12 : decode cX12_weightiest 12 = .ok (.iload_n 1, 1) := by decide +kernel
theorem dX12_weightiest_13 : decode cX12_weightiest 13 = .ok (.iload_n 2, 1) := by decide +kernel
theorem dX12_weightiest_14 : decode cX12_weightiest 14 = .ok (.invokevirtual 450, 3) := by decide +kernel
theorem dX12_weightiest_17 : decode cX12_weightiest 17 = .ok (.pop2, 1) := by decide +kernel
theorem dX12_weightiest_18 : decode cX12_weightiest 18 = .ok (.aload_n 0, 1) := by decide +kernel
theorem dX12_weightiest_19 : decode cX12_weightiest 19 = .ok (.getfield 425, 3) := by decide +kernel
theorem dX12_weightiest_22 : decode cX12_weightiest 22 = .ok (.ifCond .ne 6, 3) := by decide +kernel
theorem dX12_weightiest_25 : decode cX12_weightiest 25 = .ok (.bipush (-2), 2) := by decide +kernel
theorem dX12_weightiest_27 : decode cX12_weightiest 27 = .ok (.ireturn, 1) := by decide +kernel
theorem dX12_weightiest_28 : decode cX12_weightiest 28 = .ok (.aload_n 0, 1) := by decide +kernel
theorem dX12_weightiest_29 : decode cX12_weightiest 29 = .ok (.invokevirtual 431, 3) := by decide +kernel
theorem dX12_weightiest_32 : decode cX12_weightiest 32 = .ok (.lstore_n 3, 1) := by decide +kernel
theorem dX12_weightiest_33 : decode cX12_weightiest 33 = .ok (.bipush (-2), 2) := by decide +kernel
theorem dX12_weightiest_35 : decode cX12_weightiest 35 = .ok (.istore 5, 2) := by decide +kernel
theorem dX12_weightiest_37 : decode cX12_weightiest 37 = .ok (.lconst 0, 1) := by decide +kernel
theorem dX12_weightiest_38 : decode cX12_weightiest 38 = .ok (.lstore 6, 2) := by decide +kernel
theorem dX12_weightiest_40 : decode cX12_weightiest 40 = .ok (.iconst 0, 1) := by decide +kernel
theorem dX12_weightiest_41 : decode cX12_weightiest 41 = .ok (.istore 8, 2) := by decide +kernel
theorem dX12_weightiest_43 : decode cX12_weightiest 43 = .ok (.iload 8, 2) := by decide +kernel
theorem dX12_weightiest_45 : decode cX12_weightiest 45 = .ok (.aload_n 0, 1) := by decide +kernel
theorem dX12_weightiest_46 : decode cX12_weightiest 46 = .ok (.getfield 7, 3) := by decide +kernel
theorem dX12_weightiest_49 : decode cX12_weightiest 49 = .ok (.iconst 2, 1) := by decide +kernel
theorem dX12_weightiest_50 : decode cX12_weightiest 50 = .ok (.iaload, 1) := by decide +kernel
theorem dX12_weightiest_51 : decode cX12_weightiest 51 = .ok (.if_icmp .ge 55, 3) := by decide +kernel
theorem dX12_weightiest_54 : decode cX12_weightiest 54 = .ok (.aload_n 0, 1) := by decide +kernel
theorem dX12_weightiest_55 : decode cX12_weightiest 55 = .ok (.iload_n 1, 1) := by decide +kernel
theorem dX12_weightiest_56 : decode cX12_weightiest 56 = .ok (.iload_n 2, 1) := by decide +kernel
theorem dX12_weightiest_57 : decode cX12_weightiest 57 = .ok (.iload 8, 2) := by decide +kernel
theorem dX12_weightiest_59 : decode cX12_weightiest 59 = .ok (.invokevirtual 521, 3) := by decide +kernel
theorem dX12_weightiest_62 : decode cX12_weightiest 62 = .ok (.lload_n 3, 1) := by decide +kernel
theorem dX12_weightiest_63 : decode cX12_weightiest 63 = .ok (.lsub, 1) := by decide +kernel
theorem dX12_weightiest_64 : decode cX12_weightiest 64 = .ok (.invokestatic 414, 3) := by decide +kernel
theorem dX12_weightiest_67 : decode cX12_weightiest 67 = .ok (.lstore 9, 2) := by decide +kernel
theorem dX12_weightiest_69 : decode cX12_weightiest 69 = .ok (.aload_n 0, 1) := by decide +kernel
theorem dX12_weightiest_70 : decode cX12_weightiest 70 = .ok (.getfield 425, 3) := by decide +kernel
theorem dX12_weightiest_73 : decode cX12_weightiest 73 = .ok (.ifCond .eq 27, 3) := by decide +kernel
theorem dX12_weightiest_76 : decode cX12_weightiest 76 = .ok (.iload 5, 2) := by decide +kernel
theorem dX12_weightiest_78 : decode cX12_weightiest 78 = .ok (.ifCond .lt 14, 3) := by decide +kernel
theorem dX12_weightiest_81 : decode cX12_weightiest 81 = .ok (.lload 9, 2) := by decide +kernel
theorem dX12_weightiest_83 : decode cX12_weightiest 83 = .ok (.lload 6, 2) := by decide +kernel
theorem dX12_weightiest_85 : decode cX12_weightiest 85 = .ok (.lcmp, 1) := by decide +kernel
theorem dX12_weightiest_86 : decode cX12_weightiest 86 = .ok (.ifCond .gt 6, 3) := by decide +kernel
theorem dX12_weightiest_89 : decode cX12_weightiest 89 = .ok (.goto 11, 3) := by decide +kernel
theorem dX12_weightiest_92 : decode cX12_weightiest 92 = .ok (.iload 8, 2) := by decide +kernel
theorem dX12_weightiest_94 : decode cX12_weightiest 94 = .ok (.istore 5, 2) := by decide +kernel
theorem dX12_weightiest_96 : decode cX12_weightiest 96 = .ok (.lload 9, 2) := by decide +kernel
theorem dX12_weightiest_98 : decode cX12_weightiest 98 = .ok (.lstore 6, 2) := by decide +kernel
theorem dX12_weightiest_100 : decode cX12_weightiest 100 = .ok (.iinc 8 1, 3) := by decide +kernel
theorem dX12_weightiest_103 : decode cX12_weightiest 103 = .ok (.goto (-60), 3) := by decide +kernel
theorem dX12_weightiest_106 : decode cX12_weightiest 106 = .ok (.iload 5, 2) := by decide +kernel
theorem dX12_weightiest_108 : decode cX12_weightiest 108 = .ok (.ireturn, 1) := by decide +kernel
set_option maxHeartbeats 4000000 in
set_option maxRecDepth 100000 in
theorem r_X12_deepWithout (l : Launch) (D : va_G) (cy : Nat → ClassId) (sz : Nat) (L : List Nat) (K : Nat → tk_K) (Γ : tk_G) (f : Nat → va_E) (o : Nat) (p0 : Int32) (p1 : Int32) (p2 : Int32) (ho : tp_r L K 39 (0) 0 o) (htx : tx_ok (Γ (43, 8800, 0)) (Γ (45, 1056, 0)) (Γ (46, 22, 0)) (Γ (47, 6, 0)) (Γ (48, 22, 0)) (Γ (49, 22, 0)) (Γ (50, 22, 0)) (Γ (51, 22, 0)) (Γ (42, 3, 0))) (hsd : ts_said (Γ (40, 7666, 0)) (Γ (42, 3, 0) 1)) (hcan : 0 ≤ p0.toInt ∧ p0.toInt < Γ (42, 3, 0) 1) (hrw : 0 ≤ p1.toInt ∧ p1.toInt ≤ 23) (hsi : 0 ≤ p2.toInt ∧ p2.toInt < Γ (40, 7666, 0) 2) : Met l yX12_deepWithout (tl_w yX12_deepWithout cX12_deepWithout 6 (some .long)) ({ frames := 6, cells := 0, slots := 0, locals := 155 }) (va_Pc [.ref o, .int p0, .int p1, .int p2] (tp_P D cy L K Γ f sz)) (va_Ql (fun (r : Int64) (u : (Nat → va_E) × tk_G) => u.2 (39, 0, 0) 0 = Γ (39, 0, 0) 0 ∧ (u.2 (39, 0, 0) 15 = 0 ∨ u.2 (39, 0, 0) 15 = 1)) (tp_BG D cy L K Γ f [39, 58, 57, 60, 61, 62, 63, 59]) (tp_A L sz)) 0 0 (tp_A L sz) := by
  refine Met.ofW (cc := cX12_deepWithout) (maxL := 6) (ret := (some .long)) (by decide) rfl ?_
  intro p e s m args below meth c s₁ B hml hv
  obtain ⟨rfl, hsz, hP, hK, hL, hI, hN, hU⟩ := hv
  have hx := B.exec
  have hb := B.bytes
  have hr := B.returns
  have hta := tl_hta (atoms_spec (ws := tl_w yX12_deepWithout cX12_deepWithout 6 (some .long)) B.pre)
  have hown : s.vm.findClass RX12 = some m.cls := findClass_of_methodNamed B.named
  have hlocks := B.notSynchronized
  subst hsz
  have hI0 := hI
  generalize hAe : tp_A L s.heap.size = A
  have hA : ∀ q : Nat, s.heap.size ≤ q → A q := fun q h => by rw [← hAe]; exact Or.inr h
  have hAL : ∀ q ∈ L, A q := fun q h => by rw [← hAe]; exact Or.inl h
  have hAf : ∀ (H : Heap), s.heap.size ≤ H.size → ∀ q, tp_A L H.size q → A q := fun H h q hq => hq.elim (hAL q) (fun h2 => hA q (Nat.le_trans h h2))
  have hS : va_S A s.heap s.heap [] := va_S.rf
  have hD : va_D A (va_pl L f) := tp_D hL hAL
  have hfr : ∀ b, (K b).1 ∉ ([39, 58, 57, 60, 61, 62, 63, 59] : List Nat) → f b = f b := fun _ _ => rfl
  have hgr : ∀ κ : tk_K, κ.1 ∉ ([39, 58, 57, 60, 61, 62, 63, 59] : List Nat) → Γ κ = Γ κ := fun _ _ => rfl
  have hl := lv_entry ([.ref o, .int p0, .int p1, .int p2]) (n := 6) (Nat.le_of_ble_eq_true rfl)
  rw [lg_entry_eq]
  generalize (lg_sl ([.ref o, .int p0, .int p1, .int p2]) ++ List.replicate (6 - (lg_sl ([.ref o, .int p0, .int p1, .int p2])).length) Slot.unset).toArray = ls at hl ⊢
  have hl : lv_has ls 6 [(0, .ref o), (1, .int p0), (2, .int p1), (3, .int p2)] := hl
  have hs := ts_hs hsd
  have hraw := ts_raw hsd
  have hslp := ts_slp hsd
  have htb := htx.1
  obtain ⟨hnc, htst, _, _, hbd, hgp, hwi⟩ := htx.2 (6 + p0.toInt) (by omega)
  refine lv_aload_n hx hb dX12_deepWithout_0 rfl (lv_at hl 0 rfl) ?_
  refine lv_iload_n hx hb dX12_deepWithout_1 rfl (lv_at hl 2 rfl) ?_
  obtain ⟨r_2, v_3, q_4, hf_1, hr_5, hv_6⟩ := (show tp_o_M L K 0 0 (Γ (39, 0, 0)) (f o) from hI.at ho)
  have hx_7 : (v_3 0).toInt = Γ (39, 0, 0) 0 := hv_6 0 (by decide)
  have hx_8 : (v_3 10).toInt = Γ (39, 0, 0) 10 := hv_6 10 (by decide)
  have hx_9 : (v_3 11).toInt = Γ (39, 0, 0) 11 := hv_6 11 (by decide)
  have hx_10 : (v_3 12).toInt = Γ (39, 0, 0) 12 := hv_6 12 (by decide)
  have hx_11 : (v_3 13).toInt = Γ (39, 0, 0) 13 := hv_6 13 (by decide)
  have hx_12 : (v_3 14).toInt = Γ (39, 0, 0) 14 := hv_6 14 (by decide)
  have hx_13 : (v_3 15).toInt = Γ (39, 0, 0) 15 := hv_6 15 (by decide)
  refine tq_cvR hS (hAf _ hS.1) (tq_rV (As := [.int p1]) (rest := []) ⟨hx, hb, hml, hown, hta⟩ (tp_P.pre hK hN hL hU hI hP) (tp_recv hK hP ho.1 hf_1 rfl) lk_X12_441 (r_X12_lifts l D cy s.heap.size L K Γ f o p1 ho (by first | omega | (simp only [Int32.toInt_toInt64]; omega) | decide | assumption) (by first | omega | (simp only [Int32.toInt_toInt64]; omega) | decide | assumption) (by first | omega | (simp only [Int32.toInt_toInt64]; omega) | decide | assumption) (by first | omega | (simp only [Int32.toInt_toInt64]; omega) | decide | assumption)) rfl rfl ⟨Nat.le_of_ble_eq_true rfl, Nat.le_of_ble_eq_true rfl⟩ rfl hl.1 rfl (Nat.le_of_ble_eq_true rfl) dX12_deepWithout_2 ⟨Nat.le_of_ble_eq_true rfl, Nat.le_of_ble_eq_true rfl⟩) (fun f_16 Γ_18 H locs hw_14 hP hI hc_17 hcg_19 hS => ?_)
  have hD : va_D A (va_pl L f_16) := tp_D hL hAL
  have hfr := tp_fr2 hfr hc_17 (by decide)
  have hgr : ∀ κ : tk_K, κ.1 ∉ ([39, 58, 57, 60, 61, 62, 63, 59] : List Nat) → Γ_18 κ = Γ κ := tg_fr2 hgr hcg_19 (by decide)
  have hf_20 := (tp_un hc_17 ho (by decide)).trans hf_1
  have hv_21 : ∀ i : Nat, i < 16 → (v_3 i).toInt = Γ_18 (39, 0, 0) i := fun i hi => by rw [hcg_19 _ (by decide)]; exact hv_6 i hi
  have hx_22 : (v_3 0).toInt = Γ_18 (39, 0, 0) 0 := hv_21 0 (by decide)
  have hx_23 : (v_3 10).toInt = Γ_18 (39, 0, 0) 10 := hv_21 10 (by decide)
  have hx_24 : (v_3 11).toInt = Γ_18 (39, 0, 0) 11 := hv_21 11 (by decide)
  have hx_25 : (v_3 12).toInt = Γ_18 (39, 0, 0) 12 := hv_21 12 (by decide)
  have hx_26 : (v_3 13).toInt = Γ_18 (39, 0, 0) 13 := hv_21 13 (by decide)
  have hx_27 : (v_3 14).toInt = Γ_18 (39, 0, 0) 14 := hv_21 14 (by decide)
  have hx_28 : (v_3 15).toInt = Γ_18 (39, 0, 0) 15 := hv_21 15 (by decide)
  have mk_18_0 : Γ_18 (39, 0, 0) 0 = Γ (39, 0, 0) 0 := congrFun (hcg_19 (39, 0, 0) (by decide)) 0
  have mk_18_10 : Γ_18 (39, 0, 0) 10 = Γ (39, 0, 0) 10 := congrFun (hcg_19 (39, 0, 0) (by decide)) 10
  have mk_18_11 : Γ_18 (39, 0, 0) 11 = Γ (39, 0, 0) 11 := congrFun (hcg_19 (39, 0, 0) (by decide)) 11
  have mk_18_12 : Γ_18 (39, 0, 0) 12 = Γ (39, 0, 0) 12 := congrFun (hcg_19 (39, 0, 0) (by decide)) 12
  have mk_18_13 : Γ_18 (39, 0, 0) 13 = Γ (39, 0, 0) 13 := congrFun (hcg_19 (39, 0, 0) (by decide)) 13
  have mk_18_14 : Γ_18 (39, 0, 0) 14 = Γ (39, 0, 0) 14 := congrFun (hcg_19 (39, 0, 0) (by decide)) 14
  have mk_18_15 : Γ_18 (39, 0, 0) 15 = Γ (39, 0, 0) 15 := congrFun (hcg_19 (39, 0, 0) (by decide)) 15
  have hw_14 : ∀ j : Nat, j < 300 → (Γ_18 (59, 300, 0) j = -1000000 ∨ (-500000 ≤ Γ_18 (59, 300, 0) j ∧ Γ_18 (59, 300, 0) j ≤ 500000)) := hw_14
  have hsl9 := ts_sl hsd p2.toInt.toNat (by omega)
  refine lv_bipush (v := 81) hx hb dX12_deepWithout_5 (by decide) ?_
  refine lv_iconst (v := 4) hx hb dX12_deepWithout_7 (by decide) ?_
  refine lv_iload_n hx hb dX12_deepWithout_8 rfl (lv_at hl 3 rfl) ?_
  refine lv_imul hx hb dX12_deepWithout_9 ?_
  refine lv_topi (fun z_29 ez_29 => ?_)
  try have iz_29 : z_29.toInt = (4 : Int) * p2.toInt := by rw [ez_29]; exact tl_mulN 4 p2 rfl rfl (by omega) (by omega)
  refine lv_iadd hx hb dX12_deepWithout_10 ?_
  refine lv_topi (fun z_30 ez_30 => ?_)
  try have iz_30 : z_30.toInt = (81 : Int) + z_29.toInt := by rw [ez_30]; exact tl_addN 81 z_29 rfl rfl (by omega) (by omega)
  refine lv_istore (lv' := [(4, .int z_30), (0, .ref o), (1, .int p0), (2, .int p1), (3, .int p2)]) hx hb dX12_deepWithout_11 hl (by decide) rfl (fun ls hl => ?_)
  refine lv_aload_n hx hb dX12_deepWithout_13 rfl (lv_at hl 1 rfl) ?_
  refine tp_get (cy := cy) (ci := 12) (v := .ref (r_2 0)) (C := RX12) (T := TX12) (N := 49) hx hb hta inlX12 hown hK hP ho.1 hf_20 rfl 0 (by decide) (hta _ wk_149) (fun _ h9 => h9) rfl dX12_deepWithout_14 ?_
  refine lv_iload hx hb dX12_deepWithout_17 (lv_at hl 0 rfl) ?_
  refine lv_iconst (v := 1) hx hb dX12_deepWithout_19 (by decide) ?_
  refine lv_iadd hx hb dX12_deepWithout_20 ?_
  refine lv_topi (fun z_31 ez_31 => ?_)
  try have iz_31 : z_31.toInt = z_30.toInt + (1 : Int) := by rw [ez_31]; exact tl_addN z_30 1 rfl rfl (by omega) (by omega)
  obtain ⟨g_33, hf_32, hg_34⟩ := (show tp_gi cy (7666) (Γ (40, 7666, 0)) (f (r_2 0)) from hI0.at (show tp_r L K 40 7666 0 (r_2 0) from hr_5 0 (by decide)))
  have hn_35 : vp_in z_31 (7666) := tl_in (by omega) (by omega)
  refine tp_iald (cy := cy) hx hb hK hP (show tp_r L K 40 7666 0 (r_2 0) from hr_5 0 (by decide)).1 ((tp_un hfr (show tp_r L K 40 7666 0 (r_2 0) from hr_5 0 (by decide)) (by decide)).trans hf_32) hn_35 dX12_deepWithout_21 ?_
  refine lv_topi (fun z_36 ez_36 => ?_)
  have iz_36 : z_36.toInt = Γ (40, 7666, 0) z_31.toInt.toNat := by rw [ez_36]; exact hg_34 _ (tp_pin hn_35)
  have hlo : Γ (40, 7666, 0) (82 + 4 * p2.toInt.toNat) = z_36.toInt := (iz_36.trans (congrArg _ (by omega))).symm
  have hlo9 := hsl9.1; rw [hlo] at hlo9
  refine lv_istore (lv' := [(5, .int z_36), (4, .int z_30), (0, .ref o), (1, .int p0), (2, .int p1), (3, .int p2)]) hx hb dX12_deepWithout_22 hl (by decide) rfl (fun ls hl => ?_)
  refine tl_ind (G := fun H locs ls => W p l e ((headSpec (tl_w yX12_deepWithout cX12_deepWithout 6 (some .long)) ({ frames := 6, cells := 0, slots := 0, locals := 155 })).room) s m #[.ref o, .int p0, .int p1, .int p2] below meth c H locs 0 0 (MQ below (va_Ql (fun (r : Int64) (u : (Nat → va_E) × tk_G) => u.2 (39, 0, 0) 0 = Γ (39, 0, 0) 0 ∧ (u.2 (39, 0, 0) 15 = 0 ∨ u.2 (39, 0, 0) 15 = 1)) (tp_BG D cy L K Γ f [39, 58, 57, 60, 61, 62, 63, 59]) A) #[.ref o, .int p0, .int p1, .int p2] s 0 0 A) (F0 m 24 ls [])) (α := (Nat → va_E) × tk_G × Int32) (fun aq => (300 - aq.2.2.toInt).toNat) (fun aq H locs ls => (0 ≤ aq.2.2.toInt) ∧ (aq.2.1 (39, 0, 0) 0 = Γ (39, 0, 0) 0) ∧ va_P D vwCl (va_pl L aq.1) H ∧ tp_I cy L K aq.2.1 aq.1 ∧ (∀ b, (K b).1 ∉ ([39, 58, 57, 60, 61, 62, 63, 59] : List Nat) → aq.1 b = f b) ∧ (∀ κ : tk_K, κ.1 ∉ ([39, 58, 57, 60, 61, 62, 63, 59] : List Nat) → aq.2.1 κ = Γ κ) ∧ va_S A s.heap H locs ∧ lv_has ls 6 [(5, .int aq.2.2), (4, .int z_30), (0, .ref o), (1, .int p0), (2, .int p1), (3, .int p2)]) ?_ (f_16, Γ_18, z_36) H locs ls ⟨(show 0 ≤ z_36.toInt from (by omega)), (show Γ_18 (39, 0, 0) 0 = Γ (39, 0, 0) 0 from (by omega)), hP, hI, hfr, hgr, hS, lv_sub hl [0, 1, 2, 3, 4, 5] rfl⟩
  rintro ⟨f_37, Γ_38, v5⟩ H locs ls ⟨hr5, q0, hP, hI, hfr, hgr, hS, hl⟩ ih24
  have hgr : ∀ κ : tk_K, κ.1 ∉ ([39, 58, 57, 60, 61, 62, 63, 59] : List Nat) → Γ_38 κ = Γ κ := hgr
  have hP : va_P D vwCl (va_pl L f_37) H := hP
  have hI : tp_I cy L K Γ_38 f_37 := hI
  have hfr : ∀ b, (K b).1 ∉ ([39, 58, 57, 60, 61, 62, 63, 59] : List Nat) → f_37 b = f b := hfr
  have hD : va_D A (va_pl L f_37) := tp_D hL hAL
  have hr5 : 0 ≤ v5.toInt := hr5
  have q0 : Γ_38 (39, 0, 0) 0 = Γ (39, 0, 0) 0 := q0
  have hl : lv_has ls 6 [(5, .int v5), (4, .int z_30), (0, .ref o), (1, .int p0), (2, .int p1), (3, .int p2)] := hl
  refine lv_iload hx hb dX12_deepWithout_24 (lv_at hl 0 rfl) ?_
  refine lv_aload_n hx hb dX12_deepWithout_26 rfl (lv_at hl 2 rfl) ?_
  obtain ⟨r_40, v_41, q_42, hf_39, hr_43, hv_44⟩ := (show tp_o_M L K 0 0 (Γ_38 (39, 0, 0)) (f_37 o) from hI.at ho)
  have hx_45 : (v_41 0).toInt = Γ_38 (39, 0, 0) 0 := hv_44 0 (by decide)
  have hx_46 : (v_41 10).toInt = Γ_38 (39, 0, 0) 10 := hv_44 10 (by decide)
  have hx_47 : (v_41 11).toInt = Γ_38 (39, 0, 0) 11 := hv_44 11 (by decide)
  have hx_48 : (v_41 12).toInt = Γ_38 (39, 0, 0) 12 := hv_44 12 (by decide)
  have hx_49 : (v_41 13).toInt = Γ_38 (39, 0, 0) 13 := hv_44 13 (by decide)
  have hx_50 : (v_41 14).toInt = Γ_38 (39, 0, 0) 14 := hv_44 14 (by decide)
  have hx_51 : (v_41 15).toInt = Γ_38 (39, 0, 0) 15 := hv_44 15 (by decide)
  refine tp_get (cy := cy) (ci := 12) (v := .ref (r_40 0)) (C := RX12) (T := TX12) (N := 49) hx hb hta inlX12 hown hK hP ho.1 hf_39 rfl 0 (by decide) (hta _ wk_149) (fun _ h9 => h9) rfl dX12_deepWithout_27 ?_
  refine lv_iload hx hb dX12_deepWithout_30 (lv_at hl 1 rfl) ?_
  refine lv_iconst (v := 2) hx hb dX12_deepWithout_32 (by decide) ?_
  refine lv_iadd hx hb dX12_deepWithout_33 ?_
  refine lv_topi (fun z_52 ez_52 => ?_)
  try have iz_52 : z_52.toInt = z_30.toInt + (2 : Int) := by rw [ez_52]; exact tl_addN z_30 2 rfl rfl (by omega) (by omega)
  obtain ⟨g_54, hf_53, hg_55⟩ := (show tp_gi cy (7666) (Γ (40, 7666, 0)) (f (r_40 0)) from hI0.at (show tp_r L K 40 7666 0 (r_40 0) from hr_43 0 (by decide)))
  have hn_56 : vp_in z_52 (7666) := tl_in (by omega) (by omega)
  refine tp_iald (cy := cy) hx hb hK hP (show tp_r L K 40 7666 0 (r_40 0) from hr_43 0 (by decide)).1 ((tp_un hfr (show tp_r L K 40 7666 0 (r_40 0) from hr_43 0 (by decide)) (by decide)).trans hf_53) hn_56 dX12_deepWithout_34 ?_
  refine lv_topi (fun z_57 ez_57 => ?_)
  have iz_57 : z_57.toInt = Γ (40, 7666, 0) z_52.toInt.toNat := by rw [ez_57]; exact hg_55 _ (tp_pin hn_56)
  have hhi : Γ (40, 7666, 0) (83 + 4 * p2.toInt.toNat) = z_57.toInt := (iz_57.trans (congrArg _ (by omega))).symm
  have hhi9 := hsl9.2; rw [hhi] at hhi9
  refine lv_icmp_gt (tgt := 95) hx hb dX12_deepWithout_35 (by decide) (fun c_58 => ?_) (fun c_58 => ?_)
  · have c_58 : z_57.toInt < v5.toInt := tl_lt c_58
    refine lv_aload_n hx hb dX12_deepWithout_95 rfl (lv_at hl 2 rfl) ?_
    refine lv_iload_n hx hb dX12_deepWithout_96 rfl (lv_at hl 3 rfl) ?_
    refine lv_iload_n hx hb dX12_deepWithout_97 rfl (lv_at hl 4 rfl) ?_
    have hgrA := hgr
    refine tq_clR hS (hAf _ hS.1) (tq_rV (As := [.int p0, .int p1]) (rest := []) ⟨hx, hb, hml, hown, hta⟩ (tp_P.pre hK hN hL hU hI hP) (tp_recv hK hP ho.1 hf_39 rfl) lk_X12_444 (r_X12_own l D cy H.size L K Γ_38 f_37 o p0 p1 ho (by first | omega | assumption | (rw [hgr (42, 3, 0) (by decide), hgr (43, 8800, 0) (by decide), hgr (45, 1056, 0) (by decide), hgr (46, 22, 0) (by decide), hgr (47, 6, 0) (by decide), hgr (48, 22, 0) (by decide), hgr (49, 22, 0) (by decide), hgr (50, 22, 0) (by decide), hgr (51, 22, 0) (by decide)]; first | exact htx | assumption | omega)) (by first | omega | assumption | (rw [hgr (42, 3, 0) (by decide)]; first | exact hcan | assumption | omega)) (by first | omega | (simp only [Int32.toInt_toInt64]; omega) | decide | assumption)) rfl rfl ⟨Nat.le_of_ble_eq_true rfl, Nat.le_of_ble_eq_true rfl⟩ rfl hl.1 rfl (Nat.le_of_ble_eq_true rfl) dX12_deepWithout_98 ⟨Nat.le_of_ble_eq_true rfl, Nat.le_of_ble_eq_true rfl⟩) (fun r_60 f_61 Γ_63 H locs hw_59 hP hI hc_62 hcg_64 hS => ?_)
    have hD : va_D A (va_pl L f_61) := tp_D hL hAL
    have hfr := tp_fr2 hfr hc_62 (by decide)
    have hgr : ∀ κ : tk_K, κ.1 ∉ ([39, 58, 57, 60, 61, 62, 63, 59] : List Nat) → Γ_63 κ = Γ κ := tg_fr2 hgr hcg_64 (by decide)
    have hw_59 : Γ_63 (39, 0, 0) 0 = Γ_38 (39, 0, 0) 0 ∧ (gex (Γ_38 (59, 300, 0)) (Γ_38 (49, 22, 0) (6 + p0.toInt).toNat) (Γ_38 (50, 22, 0) (6 + p0.toInt).toNat + 1) → 0 < Γ_38 (39, 0, 0) 14 → 0 < Γ_63 (39, 0, 0) 14) ∧ (Γ_63 (39, 0, 0) 11 = Γ_38 (49, 22, 0) (6 + p0.toInt).toNat ∧ Γ_63 (39, 0, 0) 12 = Γ_38 (50, 22, 0) (6 + p0.toInt).toNat) ∧ (Γ_63 (39, 0, 0) 15 = 0 ∨ Γ_63 (39, 0, 0) 15 = 1) ∧ (0 ≤ Γ_63 (39, 0, 0) 13 ∧ Γ_63 (39, 0, 0) 13 ≤ 42) ∧ (0 < Γ_63 (39, 0, 0) 13 → 0 < Γ_63 (39, 0, 0) 10) ∧ (Γ_63 (39, 0, 0) 15 = 1 → 0 < Γ_63 (39, 0, 0) 13 ∧ 0 < Γ_63 (39, 0, 0) 14) ∧ (Γ_63 (39, 0, 0) 15 = 1 → gex (Γ_38 (59, 300, 0)) (Γ_38 (49, 22, 0) (6 + p0.toInt).toNat) (Γ_38 (50, 22, 0) (6 + p0.toInt).toNat + 1)) ∧ (∀ j : Nat, (j : Int) < Γ_63 (39, 0, 0) 13 → 0 ≤ Γ_63 (61, 42, 0) j ∧ Γ_63 (61, 42, 0) j ≤ 299) ∧ (∀ j : Nat, (j : Int) + 1 < Γ_63 (39, 0, 0) 13 → Γ_63 (61, 42, 0) j < Γ_63 (61, 42, 0) (j + 1)) := hw_59
    have how := hw_59.2.2
    rw [hgrA (49, 22, 0) (by decide), hgrA (50, 22, 0) (by decide)] at how
    have hq0 := hw_59.1
    obtain ⟨hq11, hq15, hq13, hq10, hqd, hqg, hqk, hqr⟩ := how
    refine lv_pop2_2 hx hb dX12_deepWithout_101 rfl ?_
    refine lv_aload_n hx hb dX12_deepWithout_102 rfl (lv_at hl 2 rfl) ?_
    obtain ⟨r_66, v_67, q_68, hf_65, hr_69, hv_70⟩ := (show tp_o_M L K 0 0 (Γ_63 (39, 0, 0)) (f_61 o) from hI.at ho)
    have hx_77 : (v_67 15).toInt = Γ_63 (39, 0, 0) 15 := hv_70 15 (by decide)
    refine tp_get (cy := cy) (ci := 12) (v := .int (v_67 15)) (C := RX12) (T := TX12) (N := 49) hx hb hta inlX12 hown hK hP ho.1 hf_65 rfl 40 (by decide) (hta _ wk_924) (fun _ h9 => h9) rfl dX12_deepWithout_103 ?_
    refine lv_if_eq (tgt := 116) hx hb dX12_deepWithout_106 (by decide) (fun c_78 => ?_) (fun c_78 => ?_)
    · have c_78 : (v_67 15).toInt = (0 : Int) := tl_eq c_78
      refine lv_ldc2 (v := (-1000000)) hx hb hown (hta _ wk_938) dX12_deepWithout_116 ?_
      have hpo9 : Γ_63 (39, 0, 0) 0 = Γ (39, 0, 0) 0 ∧ (Γ_63 (39, 0, 0) 15 = 0 ∨ Γ_63 (39, 0, 0) 15 = 1) := ⟨(by omega), (by omega)⟩
      exact W.lret (v := (-1000000)) hx hb hr (fun t ht hW => ⟨⟨_, (f_61, Γ_63), rfl, hpo9, by rw [ht]; exact hP, hI, hfr, hgr⟩, hS.F ht⟩) hS.2.2 dX12_deepWithout_119
    · have c_78 : ¬ (v_67 15).toInt = (0 : Int) := tl_neq c_78
      refine lv_aload_n hx hb dX12_deepWithout_109 rfl (lv_at hl 2 rfl) ?_
      refine tq_clR hS (hAf _ hS.1) (tq_rV (As := []) (rest := []) ⟨hx, hb, hml, hown, hta⟩ (tp_P.pre hK hN hL hU hI hP) (tp_recv hK hP ho.1 hf_65 rfl) lk_X12_431 (r_X12_deepNow l D cy H.size L K Γ_63 f_61 o ho (by first | omega | (simp only [Int32.toInt_toInt64]; omega) | decide | assumption)) rfl rfl ⟨Nat.le_of_ble_eq_true rfl, Nat.le_of_ble_eq_true rfl⟩ rfl hl.1 rfl (Nat.le_of_ble_eq_true rfl) dX12_deepWithout_110 ⟨Nat.le_of_ble_eq_true rfl, Nat.le_of_ble_eq_true rfl⟩) (fun r_80 f_81 Γ_83 H locs hw_79 hP hI hc_82 hcg_84 hS => ?_)
      have hD : va_D A (va_pl L f_81) := tp_D hL hAL
      have hfr := tp_fr2 hfr hc_82 (by decide)
      have hgr : ∀ κ : tk_K, κ.1 ∉ ([39, 58, 57, 60, 61, 62, 63, 59] : List Nat) → Γ_83 κ = Γ κ := tg_fr2 hgr hcg_84 (by decide)
      have hw_79 : 0 ≤ Γ_83 (39, 0, 0) 14 ∧ (0 < Γ_83 (39, 0, 0) 14 ↔ gex (Γ_63 (59, 300, 0)) (Γ_63 (39, 0, 0) 11) (Γ_63 (39, 0, 0) 12 + 1)) ∧ Γ_83 (39, 0, 0) 0 = Γ_63 (39, 0, 0) 0 ∧ Γ_83 (39, 0, 0) 10 = Γ_63 (39, 0, 0) 10 ∧ Γ_83 (39, 0, 0) 11 = Γ_63 (39, 0, 0) 11 ∧ Γ_83 (39, 0, 0) 12 = Γ_63 (39, 0, 0) 12 ∧ Γ_83 (39, 0, 0) 13 = Γ_63 (39, 0, 0) 13 ∧ Γ_83 (39, 0, 0) 15 = Γ_63 (39, 0, 0) 15 := hw_79
      refine lv_goto (tgt := 119) hx hb dX12_deepWithout_113 (by decide) ?_
      have hpo9 : Γ_83 (39, 0, 0) 0 = Γ (39, 0, 0) 0 ∧ (Γ_83 (39, 0, 0) 15 = 0 ∨ Γ_83 (39, 0, 0) 15 = 1) := ⟨(by omega), (by omega)⟩
      exact W.lret (v := r_80) hx hb hr (fun t ht hW => ⟨⟨_, (f_81, Γ_83), rfl, hpo9, by rw [ht]; exact hP, hI, hfr, hgr⟩, hS.F ht⟩) hS.2.2 dX12_deepWithout_119
  · have c_58 : v5.toInt ≤ z_57.toInt := tl_nlt c_58
    refine lv_aload_n hx hb dX12_deepWithout_38 rfl (lv_at hl 2 rfl) ?_
    refine tp_get (cy := cy) (ci := 12) (v := .ref (r_40 0)) (C := RX12) (T := TX12) (N := 49) hx hb hta inlX12 hown hK hP ho.1 hf_39 rfl 0 (by decide) (hta _ wk_149) (fun _ h9 => h9) rfl dX12_deepWithout_39 ?_
    refine lv_iload hx hb dX12_deepWithout_42 (lv_at hl 1 rfl) ?_
    have hn_85 : vp_in z_30 (7666) := tl_in (by omega) (by omega)
    refine tp_iald (cy := cy) hx hb hK hP (show tp_r L K 40 7666 0 (r_40 0) from hr_43 0 (by decide)).1 ((tp_un hfr (show tp_r L K 40 7666 0 (r_40 0) from hr_43 0 (by decide)) (by decide)).trans hf_53) hn_85 dX12_deepWithout_44 ?_
    refine lv_topi (fun z_86 ez_86 => ?_)
    have iz_86 : z_86.toInt = Γ (40, 7666, 0) z_30.toInt.toNat := by rw [ez_86]; exact hg_55 _ (tp_pin hn_85)
    refine lv_aload_n hx hb dX12_deepWithout_45 rfl (lv_at hl 2 rfl) ?_
    refine lv_iload_n hx hb dX12_deepWithout_46 rfl (lv_at hl 4 rfl) ?_
    refine lv_iconst (v := 0) hx hb dX12_deepWithout_47 (by decide) ?_
    refine tl_si (tq_rV (As := [.int p1, .int 0]) (rest := [.int z_86]) ⟨hx, hb, hml, hown, hta⟩ (tp_P.pre hK hN hL hU hI hP) (tp_recv hK hP ho.1 hf_39 rfl) lk_X12_132 (r_X12_rowOf l D cy H.size L K Γ_38 f_37 o p1 0 ho (by first | omega | (simp only [Int32.toInt_toInt64]; omega) | decide | assumption) (by first | omega | (simp only [Int32.toInt_toInt64]; omega) | decide | assumption)) rfl rfl ⟨Nat.le_of_ble_eq_true rfl, Nat.le_of_ble_eq_true rfl⟩ rfl hl.1 rfl (Nat.le_of_ble_eq_true rfl) dX12_deepWithout_48 ⟨Nat.le_of_ble_eq_true rfl, Nat.le_of_ble_eq_true rfl⟩) (fun r_88 hw_87 => ?_)
    have hw_87 : r_88.toInt = Γ_38 (40, 7666, 0) (9 + 3 * p1.toInt + (0 : Int)).toNat := hw_87
    refine lv_icmp_ne (tgt := 95) hx hb dX12_deepWithout_51 (by decide) (fun c_89 => ?_) (fun c_89 => ?_)
    · have c_89 : ¬ z_86.toInt = r_88.toInt := tl_neq c_89
      refine lv_aload_n hx hb dX12_deepWithout_95 rfl (lv_at hl 2 rfl) ?_
      refine lv_iload_n hx hb dX12_deepWithout_96 rfl (lv_at hl 3 rfl) ?_
      refine lv_iload_n hx hb dX12_deepWithout_97 rfl (lv_at hl 4 rfl) ?_
      have hgrA := hgr
      refine tq_clR hS (hAf _ hS.1) (tq_rV (As := [.int p0, .int p1]) (rest := []) ⟨hx, hb, hml, hown, hta⟩ (tp_P.pre hK hN hL hU hI hP) (tp_recv hK hP ho.1 hf_39 rfl) lk_X12_444 (r_X12_own l D cy H.size L K Γ_38 f_37 o p0 p1 ho (by first | omega | assumption | (rw [hgr (42, 3, 0) (by decide), hgr (43, 8800, 0) (by decide), hgr (45, 1056, 0) (by decide), hgr (46, 22, 0) (by decide), hgr (47, 6, 0) (by decide), hgr (48, 22, 0) (by decide), hgr (49, 22, 0) (by decide), hgr (50, 22, 0) (by decide), hgr (51, 22, 0) (by decide)]; first | exact htx | assumption | omega)) (by first | omega | assumption | (rw [hgr (42, 3, 0) (by decide)]; first | exact hcan | assumption | omega)) (by first | omega | (simp only [Int32.toInt_toInt64]; omega) | decide | assumption)) rfl rfl ⟨Nat.le_of_ble_eq_true rfl, Nat.le_of_ble_eq_true rfl⟩ rfl hl.1 rfl (Nat.le_of_ble_eq_true rfl) dX12_deepWithout_98 ⟨Nat.le_of_ble_eq_true rfl, Nat.le_of_ble_eq_true rfl⟩) (fun r_91 f_92 Γ_94 H locs hw_90 hP hI hc_93 hcg_95 hS => ?_)
      have hD : va_D A (va_pl L f_92) := tp_D hL hAL
      have hfr := tp_fr2 hfr hc_93 (by decide)
      have hgr : ∀ κ : tk_K, κ.1 ∉ ([39, 58, 57, 60, 61, 62, 63, 59] : List Nat) → Γ_94 κ = Γ κ := tg_fr2 hgr hcg_95 (by decide)
      have hw_90 : Γ_94 (39, 0, 0) 0 = Γ_38 (39, 0, 0) 0 ∧ (gex (Γ_38 (59, 300, 0)) (Γ_38 (49, 22, 0) (6 + p0.toInt).toNat) (Γ_38 (50, 22, 0) (6 + p0.toInt).toNat + 1) → 0 < Γ_38 (39, 0, 0) 14 → 0 < Γ_94 (39, 0, 0) 14) ∧ (Γ_94 (39, 0, 0) 11 = Γ_38 (49, 22, 0) (6 + p0.toInt).toNat ∧ Γ_94 (39, 0, 0) 12 = Γ_38 (50, 22, 0) (6 + p0.toInt).toNat) ∧ (Γ_94 (39, 0, 0) 15 = 0 ∨ Γ_94 (39, 0, 0) 15 = 1) ∧ (0 ≤ Γ_94 (39, 0, 0) 13 ∧ Γ_94 (39, 0, 0) 13 ≤ 42) ∧ (0 < Γ_94 (39, 0, 0) 13 → 0 < Γ_94 (39, 0, 0) 10) ∧ (Γ_94 (39, 0, 0) 15 = 1 → 0 < Γ_94 (39, 0, 0) 13 ∧ 0 < Γ_94 (39, 0, 0) 14) ∧ (Γ_94 (39, 0, 0) 15 = 1 → gex (Γ_38 (59, 300, 0)) (Γ_38 (49, 22, 0) (6 + p0.toInt).toNat) (Γ_38 (50, 22, 0) (6 + p0.toInt).toNat + 1)) ∧ (∀ j : Nat, (j : Int) < Γ_94 (39, 0, 0) 13 → 0 ≤ Γ_94 (61, 42, 0) j ∧ Γ_94 (61, 42, 0) j ≤ 299) ∧ (∀ j : Nat, (j : Int) + 1 < Γ_94 (39, 0, 0) 13 → Γ_94 (61, 42, 0) j < Γ_94 (61, 42, 0) (j + 1)) := hw_90
      have how := hw_90.2.2
      rw [hgrA (49, 22, 0) (by decide), hgrA (50, 22, 0) (by decide)] at how
      have hq0 := hw_90.1
      obtain ⟨hq11, hq15, hq13, hq10, hqd, hqg, hqk, hqr⟩ := how
      refine lv_pop2_2 hx hb dX12_deepWithout_101 rfl ?_
      refine lv_aload_n hx hb dX12_deepWithout_102 rfl (lv_at hl 2 rfl) ?_
      obtain ⟨r_97, v_98, q_99, hf_96, hr_100, hv_101⟩ := (show tp_o_M L K 0 0 (Γ_94 (39, 0, 0)) (f_92 o) from hI.at ho)
      have hx_108 : (v_98 15).toInt = Γ_94 (39, 0, 0) 15 := hv_101 15 (by decide)
      refine tp_get (cy := cy) (ci := 12) (v := .int (v_98 15)) (C := RX12) (T := TX12) (N := 49) hx hb hta inlX12 hown hK hP ho.1 hf_96 rfl 40 (by decide) (hta _ wk_924) (fun _ h9 => h9) rfl dX12_deepWithout_103 ?_
      refine lv_if_eq (tgt := 116) hx hb dX12_deepWithout_106 (by decide) (fun c_109 => ?_) (fun c_109 => ?_)
      · have c_109 : (v_98 15).toInt = (0 : Int) := tl_eq c_109
        refine lv_ldc2 (v := (-1000000)) hx hb hown (hta _ wk_938) dX12_deepWithout_116 ?_
        have hpo9 : Γ_94 (39, 0, 0) 0 = Γ (39, 0, 0) 0 ∧ (Γ_94 (39, 0, 0) 15 = 0 ∨ Γ_94 (39, 0, 0) 15 = 1) := ⟨(by omega), (by omega)⟩
        exact W.lret (v := (-1000000)) hx hb hr (fun t ht hW => ⟨⟨_, (f_92, Γ_94), rfl, hpo9, by rw [ht]; exact hP, hI, hfr, hgr⟩, hS.F ht⟩) hS.2.2 dX12_deepWithout_119
      · have c_109 : ¬ (v_98 15).toInt = (0 : Int) := tl_neq c_109
        refine lv_aload_n hx hb dX12_deepWithout_109 rfl (lv_at hl 2 rfl) ?_
        refine tq_clR hS (hAf _ hS.1) (tq_rV (As := []) (rest := []) ⟨hx, hb, hml, hown, hta⟩ (tp_P.pre hK hN hL hU hI hP) (tp_recv hK hP ho.1 hf_96 rfl) lk_X12_431 (r_X12_deepNow l D cy H.size L K Γ_94 f_92 o ho (by first | omega | (simp only [Int32.toInt_toInt64]; omega) | decide | assumption)) rfl rfl ⟨Nat.le_of_ble_eq_true rfl, Nat.le_of_ble_eq_true rfl⟩ rfl hl.1 rfl (Nat.le_of_ble_eq_true rfl) dX12_deepWithout_110 ⟨Nat.le_of_ble_eq_true rfl, Nat.le_of_ble_eq_true rfl⟩) (fun r_111 f_112 Γ_114 H locs hw_110 hP hI hc_113 hcg_115 hS => ?_)
        have hD : va_D A (va_pl L f_112) := tp_D hL hAL
        have hfr := tp_fr2 hfr hc_113 (by decide)
        have hgr : ∀ κ : tk_K, κ.1 ∉ ([39, 58, 57, 60, 61, 62, 63, 59] : List Nat) → Γ_114 κ = Γ κ := tg_fr2 hgr hcg_115 (by decide)
        have hw_110 : 0 ≤ Γ_114 (39, 0, 0) 14 ∧ (0 < Γ_114 (39, 0, 0) 14 ↔ gex (Γ_94 (59, 300, 0)) (Γ_94 (39, 0, 0) 11) (Γ_94 (39, 0, 0) 12 + 1)) ∧ Γ_114 (39, 0, 0) 0 = Γ_94 (39, 0, 0) 0 ∧ Γ_114 (39, 0, 0) 10 = Γ_94 (39, 0, 0) 10 ∧ Γ_114 (39, 0, 0) 11 = Γ_94 (39, 0, 0) 11 ∧ Γ_114 (39, 0, 0) 12 = Γ_94 (39, 0, 0) 12 ∧ Γ_114 (39, 0, 0) 13 = Γ_94 (39, 0, 0) 13 ∧ Γ_114 (39, 0, 0) 15 = Γ_94 (39, 0, 0) 15 := hw_110
        refine lv_goto (tgt := 119) hx hb dX12_deepWithout_113 (by decide) ?_
        have hpo9 : Γ_114 (39, 0, 0) 0 = Γ (39, 0, 0) 0 ∧ (Γ_114 (39, 0, 0) 15 = 0 ∨ Γ_114 (39, 0, 0) 15 = 1) := ⟨(by omega), (by omega)⟩
        exact W.lret (v := r_111) hx hb hr (fun t ht hW => ⟨⟨_, (f_112, Γ_114), rfl, hpo9, by rw [ht]; exact hP, hI, hfr, hgr⟩, hS.F ht⟩) hS.2.2 dX12_deepWithout_119
    · have c_89 : z_86.toInt = r_88.toInt := tl_eq c_89
      refine lv_aload_n hx hb dX12_deepWithout_54 rfl (lv_at hl 2 rfl) ?_
      refine tp_get (cy := cy) (ci := 12) (v := .ref (r_40 19)) (C := RX12) (T := TX12) (N := 49) hx hb hta inlX12 hown hK hP ho.1 hf_39 rfl 30 (by decide) (hta _ wk_169) (fun _ h9 => h9) rfl dX12_deepWithout_55 ?_
      refine lv_iload hx hb dX12_deepWithout_58 (lv_at hl 0 rfl) ?_
      refine lv_dup2_11 hx hb dX12_deepWithout_60 rfl rfl ?_
      obtain ⟨g_117, hf_116, hg_118⟩ := (show tp_gi cy (300) (Γ_38 (59, 300, 0)) (f_37 (r_40 19)) from hI.at (show tp_r L K 59 300 0 (r_40 19) from hr_43 19 (by decide)))
      have hn_119 : vp_in v5 (300) := tl_in (by omega) (by omega)
      refine tp_iald (cy := cy) hx hb hK hP (show tp_r L K 59 300 0 (r_40 19) from hr_43 19 (by decide)).1 hf_116 hn_119 dX12_deepWithout_61 ?_
      refine lv_topi (fun z_120 ez_120 => ?_)
      have iz_120 : z_120.toInt = Γ_38 (59, 300, 0) v5.toInt.toNat := by rw [ez_120]; exact hg_118 _ (tp_pin hn_119)
      refine lv_aload_n hx hb dX12_deepWithout_62 rfl (lv_at hl 2 rfl) ?_
      refine tp_get (cy := cy) (ci := 12) (v := .ref (r_40 19)) (C := RX12) (T := TX12) (N := 49) hx hb hta inlX12 hown hK hP ho.1 hf_39 rfl 30 (by decide) (hta _ wk_169) (fun _ h9 => h9) rfl dX12_deepWithout_63 ?_
      refine lv_iload hx hb dX12_deepWithout_66 (lv_at hl 0 rfl) ?_
      have hn_121 : vp_in v5 (300) := tl_in (by omega) (by omega)
      refine tp_iald (cy := cy) hx hb hK hP (show tp_r L K 59 300 0 (r_40 19) from hr_43 19 (by decide)).1 hf_116 hn_121 dX12_deepWithout_68 ?_
      refine lv_topi (fun z_122 ez_122 => ?_)
      obtain rfl : z_120 = z_122 := ez_120.trans ez_122.symm
      refine lv_ldc (v := (-1000000)) hx hb hown (hta _ wk_182) dX12_deepWithout_69 ?_
      refine lv_icmp_ne (tgt := 78) hx hb dX12_deepWithout_71 (by decide) (fun c_123 => ?_) (fun c_123 => ?_)
      · have c_123 : ¬ z_120.toInt = (-1000000 : Int) := tl_neq c_123
        refine lv_aload_n hx hb dX12_deepWithout_78 rfl (lv_at hl 2 rfl) ?_
        refine tp_get (cy := cy) (ci := 12) (v := .ref (r_40 0)) (C := RX12) (T := TX12) (N := 49) hx hb hta inlX12 hown hK hP ho.1 hf_39 rfl 0 (by decide) (hta _ wk_149) (fun _ h9 => h9) rfl dX12_deepWithout_79 ?_
        refine lv_iload hx hb dX12_deepWithout_82 (lv_at hl 1 rfl) ?_
        refine lv_iconst (v := 3) hx hb dX12_deepWithout_84 (by decide) ?_
        refine lv_iadd hx hb dX12_deepWithout_85 ?_
        refine lv_topi (fun z_124 ez_124 => ?_)
        try have iz_124 : z_124.toInt = z_30.toInt + (3 : Int) := by rw [ez_124]; exact tl_addN z_30 3 rfl rfl (by omega) (by omega)
        have hn_125 : vp_in z_124 (7666) := tl_in (by omega) (by omega)
        refine tp_iald (cy := cy) hx hb hK hP (show tp_r L K 40 7666 0 (r_40 0) from hr_43 0 (by decide)).1 ((tp_un hfr (show tp_r L K 40 7666 0 (r_40 0) from hr_43 0 (by decide)) (by decide)).trans hf_53) hn_125 dX12_deepWithout_86 ?_
        refine lv_topi (fun z_126 ez_126 => ?_)
        have iz_126 : z_126.toInt = Γ (40, 7666, 0) z_124.toInt.toNat := by rw [ez_126]; exact hg_55 _ (tp_pin hn_125)
        refine lv_iadd hx hb dX12_deepWithout_87 ?_
        refine lv_topi (fun z_127 ez_127 => ?_)
        try have iz_127 : z_127.toInt = z_120.toInt + z_126.toInt := by rw [ez_127]; exact tl_addN z_120 z_126 rfl rfl (by omega) (by omega)
        have hn_128 : vp_in v5 (300) := tl_in (by omega) (by omega)
        have hj_129 : v5.toNatClampNeg = v5.toInt.toNat := rfl
        have hv_130 : z_127.toInt = z_127.toInt := rfl
        obtain ⟨Γ_131, eΓ_131⟩ : ∃ y : tk_G, y = tg Γ_38 (59, 300, 0) v5.toInt.toNat z_127.toInt := ⟨_, rfl⟩
        have hI9 : tp_I cy L K Γ_131 (va_up f_37 (r_40 19) (.inl (cy 0, 300, .inl (upd g_117 v5.toNatClampNeg z_127)))) := by have q9 : tg Γ_38 (59, 300, 0) v5.toInt.toNat z_127.toInt = tg Γ_38 (59, 300, 0) v5.toNatClampNeg z_127.toInt := (by rw [hj_129, hv_130]); rw [eΓ_131, q9]; exact hI.setg hU rfl (show tp_r L K 59 300 0 (r_40 19) from hr_43 19 (by decide)) (show tp_gi cy (300) (tgu (Γ_38 (59, 300, 0)) _ _) _ from ⟨_, rfl, tp_gi_upd hg_118⟩)
        have hfr9 : ∀ b, (K b).1 ∉ ([39, 58, 57, 60, 61, 62, 63, 59] : List Nat) → va_up f_37 (r_40 19) (.inl (cy 0, 300, .inl (upd g_117 v5.toNatClampNeg z_127))) b = f b := tp_fr hfr (show tp_r L K 59 300 0 (r_40 19) from hr_43 19 (by decide)) (by decide)
        refine tp_iast (cy := cy) hx hb hK hP hD hS (show tp_r L K 59 300 0 (r_40 19) from hr_43 19 (by decide)).1 hf_116 hn_128 dX12_deepWithout_88 (fun H locs hP hD hS => ?_)
        have hP : va_P D vwCl (va_pl L (va_up f_37 (r_40 19) (.inl (cy 0, 300, .inl (upd g_117 v5.toNatClampNeg z_127))))) H := hP
        generalize hfe : va_up f_37 (r_40 19) (.inl (cy 0, 300, .inl (upd g_117 v5.toNatClampNeg z_127))) = f_132 at hP hI9 hfr9
        have hD : va_D A (va_pl L f_132) := tp_D hL hAL
        have hf_133 := (show f_132 o = _ from by rw [← hfe, va_up_ne _ _ (tp_ne ho (show tp_r L K 59 300 0 (r_40 19) from hr_43 19 (by decide)) (by decide))]).trans hf_39
        have hf_134 : f_132 (r_40 19) = .inl (cy 0, 300, .inl (upd g_117 v5.toNatClampNeg z_127)) := by rw [← hfe]; exact va_up_self _ _ _
        clear hfe
        have hI := hI9
        have hfr := hfr9
        clear hI9 hfr9
        have wsΓ_131 : Γ_131 (59, 300, 0) v5.toInt.toNat = z_127.toInt := by rw [eΓ_131]; exact tg_s
        have hgr : ∀ κ : tk_K, κ.1 ∉ ([39, 58, 57, 60, 61, 62, 63, 59] : List Nat) → Γ_131 κ = Γ κ := tg_fr hgr eΓ_131 (by decide)
        have hv_135 : ∀ i : Nat, i < 16 → (v_41 i).toInt = Γ_131 (39, 0, 0) i := fun i hi => by rw [eΓ_131, tg_r (by decide)]; exact hv_44 i hi
        have hx_136 : (v_41 0).toInt = Γ_131 (39, 0, 0) 0 := hv_135 0 (by decide)
        have hx_137 : (v_41 10).toInt = Γ_131 (39, 0, 0) 10 := hv_135 10 (by decide)
        have hx_138 : (v_41 11).toInt = Γ_131 (39, 0, 0) 11 := hv_135 11 (by decide)
        have hx_139 : (v_41 12).toInt = Γ_131 (39, 0, 0) 12 := hv_135 12 (by decide)
        have hx_140 : (v_41 13).toInt = Γ_131 (39, 0, 0) 13 := hv_135 13 (by decide)
        have hx_141 : (v_41 14).toInt = Γ_131 (39, 0, 0) 14 := hv_135 14 (by decide)
        have hx_142 : (v_41 15).toInt = Γ_131 (39, 0, 0) 15 := hv_135 15 (by decide)
        obtain ⟨z_143, ez_143⟩ : ∃ y : Int32, y = v5 + 1 := ⟨_, rfl⟩
        refine lv_iinc (v := z_143) (lv' := [(5, .int z_143), (4, .int z_30), (0, .ref o), (1, .int p0), (2, .int p1), (3, .int p2)]) hx hb dX12_deepWithout_89 hl (k := 0) rfl (by rw [ez_143]; rfl) (by decide) rfl (fun ls hl => ?_)
        try have iz_143 : z_143.toInt = v5.toInt + 1 := by rw [ez_143]; exact tl_addL v5 1 (by decide) (by omega) (by omega)
        refine lv_goto (tgt := 24) hx hb dX12_deepWithout_92 (by decide) ?_
        exact ih24 (f_132, Γ_131, z_143) H locs ls (by show (300 - z_143.toInt).toNat < (300 - v5.toInt).toNat; omega) ⟨(show 0 ≤ z_143.toInt from (by omega)), (show Γ_131 (39, 0, 0) 0 = Γ (39, 0, 0) 0 from (by omega)), hP, hI, hfr, hgr, hS, lv_sub hl [0, 1, 2, 3, 4, 5] rfl⟩
      · have c_123 : z_120.toInt = (-1000000 : Int) := tl_eq c_123
        refine lv_iconst (v := 0) hx hb dX12_deepWithout_74 (by decide) ?_
        refine lv_goto (tgt := 87) hx hb dX12_deepWithout_75 (by decide) ?_
        refine lv_iadd hx hb dX12_deepWithout_87 ?_
        refine lv_topi (fun z_144 ez_144 => ?_)
        try have iz_144 : z_144.toInt = z_120.toInt + (0 : Int) := by rw [ez_144]; exact tl_addN z_120 0 rfl rfl (by omega) (by omega)
        have hn_145 : vp_in v5 (300) := tl_in (by omega) (by omega)
        have hj_146 : v5.toNatClampNeg = v5.toInt.toNat := rfl
        have hv_147 : z_144.toInt = z_144.toInt := rfl
        obtain ⟨Γ_148, eΓ_148⟩ : ∃ y : tk_G, y = tg Γ_38 (59, 300, 0) v5.toInt.toNat z_144.toInt := ⟨_, rfl⟩
        have hI9 : tp_I cy L K Γ_148 (va_up f_37 (r_40 19) (.inl (cy 0, 300, .inl (upd g_117 v5.toNatClampNeg z_144)))) := by have q9 : tg Γ_38 (59, 300, 0) v5.toInt.toNat z_144.toInt = tg Γ_38 (59, 300, 0) v5.toNatClampNeg z_144.toInt := (by rw [hj_146, hv_147]); rw [eΓ_148, q9]; exact hI.setg hU rfl (show tp_r L K 59 300 0 (r_40 19) from hr_43 19 (by decide)) (show tp_gi cy (300) (tgu (Γ_38 (59, 300, 0)) _ _) _ from ⟨_, rfl, tp_gi_upd hg_118⟩)
        have hfr9 : ∀ b, (K b).1 ∉ ([39, 58, 57, 60, 61, 62, 63, 59] : List Nat) → va_up f_37 (r_40 19) (.inl (cy 0, 300, .inl (upd g_117 v5.toNatClampNeg z_144))) b = f b := tp_fr hfr (show tp_r L K 59 300 0 (r_40 19) from hr_43 19 (by decide)) (by decide)
        refine tp_iast (cy := cy) hx hb hK hP hD hS (show tp_r L K 59 300 0 (r_40 19) from hr_43 19 (by decide)).1 hf_116 hn_145 dX12_deepWithout_88 (fun H locs hP hD hS => ?_)
        have hP : va_P D vwCl (va_pl L (va_up f_37 (r_40 19) (.inl (cy 0, 300, .inl (upd g_117 v5.toNatClampNeg z_144))))) H := hP
        generalize hfe : va_up f_37 (r_40 19) (.inl (cy 0, 300, .inl (upd g_117 v5.toNatClampNeg z_144))) = f_149 at hP hI9 hfr9
        have hD : va_D A (va_pl L f_149) := tp_D hL hAL
        have hf_150 := (show f_149 o = _ from by rw [← hfe, va_up_ne _ _ (tp_ne ho (show tp_r L K 59 300 0 (r_40 19) from hr_43 19 (by decide)) (by decide))]).trans hf_39
        have hf_151 : f_149 (r_40 19) = .inl (cy 0, 300, .inl (upd g_117 v5.toNatClampNeg z_144)) := by rw [← hfe]; exact va_up_self _ _ _
        clear hfe
        have hI := hI9
        have hfr := hfr9
        clear hI9 hfr9
        have wsΓ_148 : Γ_148 (59, 300, 0) v5.toInt.toNat = z_144.toInt := by rw [eΓ_148]; exact tg_s
        have hgr : ∀ κ : tk_K, κ.1 ∉ ([39, 58, 57, 60, 61, 62, 63, 59] : List Nat) → Γ_148 κ = Γ κ := tg_fr hgr eΓ_148 (by decide)
        have hv_152 : ∀ i : Nat, i < 16 → (v_41 i).toInt = Γ_148 (39, 0, 0) i := fun i hi => by rw [eΓ_148, tg_r (by decide)]; exact hv_44 i hi
        have hx_153 : (v_41 0).toInt = Γ_148 (39, 0, 0) 0 := hv_152 0 (by decide)
        have hx_154 : (v_41 10).toInt = Γ_148 (39, 0, 0) 10 := hv_152 10 (by decide)
        have hx_155 : (v_41 11).toInt = Γ_148 (39, 0, 0) 11 := hv_152 11 (by decide)
        have hx_156 : (v_41 12).toInt = Γ_148 (39, 0, 0) 12 := hv_152 12 (by decide)
        have hx_157 : (v_41 13).toInt = Γ_148 (39, 0, 0) 13 := hv_152 13 (by decide)
        have hx_158 : (v_41 14).toInt = Γ_148 (39, 0, 0) 14 := hv_152 14 (by decide)
        have hx_159 : (v_41 15).toInt = Γ_148 (39, 0, 0) 15 := hv_152 15 (by decide)
        obtain ⟨z_160, ez_160⟩ : ∃ y : Int32, y = v5 + 1 := ⟨_, rfl⟩
        refine lv_iinc (v := z_160) (lv' := [(5, .int z_160), (4, .int z_30), (0, .ref o), (1, .int p0), (2, .int p1), (3, .int p2)]) hx hb dX12_deepWithout_89 hl (k := 0) rfl (by rw [ez_160]; rfl) (by decide) rfl (fun ls hl => ?_)
        try have iz_160 : z_160.toInt = v5.toInt + 1 := by rw [ez_160]; exact tl_addL v5 1 (by decide) (by omega) (by omega)
        refine lv_goto (tgt := 24) hx hb dX12_deepWithout_92 (by decide) ?_
        exact ih24 (f_149, Γ_148, z_160) H locs ls (by show (300 - z_160.toInt).toNat < (300 - v5.toInt).toNat; omega) ⟨(show 0 ≤ z_160.toInt from (by omega)), (show Γ_148 (39, 0, 0) 0 = Γ (39, 0, 0) 0 from (by omega)), hP, hI, hfr, hgr, hS, lv_sub hl [0, 1, 2, 3, 4, 5] rfl⟩
set_option maxHeartbeats 4000000 in
set_option maxRecDepth 100000 in
theorem r_X12_without (l : Launch) (D : va_G) (cy : Nat → ClassId) (sz : Nat) (L : List Nat) (K : Nat → tk_K) (Γ : tk_G) (f : Nat → va_E) (o : Nat) (p0 : Int32) (p1 : Int32) (p2 : Int32) (ho : tp_r L K 39 (0) 0 o) (htx : tx_ok (Γ (43, 8800, 0)) (Γ (45, 1056, 0)) (Γ (46, 22, 0)) (Γ (47, 6, 0)) (Γ (48, 22, 0)) (Γ (49, 22, 0)) (Γ (50, 22, 0)) (Γ (51, 22, 0)) (Γ (42, 3, 0))) (hsd : ts_said (Γ (40, 7666, 0)) (Γ (42, 3, 0) 1)) : Met l yX12_without (tl_w yX12_without cX12_without 4 (some .int)) ({ frames := 7, cells := 0, slots := 0, locals := 180 }) (va_Pc [.ref o, .int p0, .int p1, .int p2] (tp_P D cy L K Γ f sz)) (va_Qi (fun (r : Int32) (u : (Nat → va_E) × tk_G) => u.2 (39, 0, 0) 0 = Γ (39, 0, 0) 0) (tp_BG D cy L K Γ f [39, 58, 57, 60, 61, 62, 63, 59]) (tp_A L sz)) 0 0 (tp_A L sz) := by
  refine Met.ofW (cc := cX12_without) (maxL := 4) (ret := (some .int)) (by decide) rfl ?_
  intro p e s m args below meth c s₁ B hml hv
  obtain ⟨rfl, hsz, hP, hK, hL, hI, hN, hU⟩ := hv
  have hx := B.exec
  have hb := B.bytes
  have hr := B.returns
  have hta := tl_hta (atoms_spec (ws := tl_w yX12_without cX12_without 4 (some .int)) B.pre)
  have hown : s.vm.findClass RX12 = some m.cls := findClass_of_methodNamed B.named
  have hlocks := B.notSynchronized
  subst hsz
  have hI0 := hI
  generalize hAe : tp_A L s.heap.size = A
  have hA : ∀ q : Nat, s.heap.size ≤ q → A q := fun q h => by rw [← hAe]; exact Or.inr h
  have hAL : ∀ q ∈ L, A q := fun q h => by rw [← hAe]; exact Or.inl h
  have hAf : ∀ (H : Heap), s.heap.size ≤ H.size → ∀ q, tp_A L H.size q → A q := fun H h q hq => hq.elim (hAL q) (fun h2 => hA q (Nat.le_trans h h2))
  have hS : va_S A s.heap s.heap [] := va_S.rf
  have hD : va_D A (va_pl L f) := tp_D hL hAL
  have hfr : ∀ b, (K b).1 ∉ ([39, 58, 57, 60, 61, 62, 63, 59] : List Nat) → f b = f b := fun _ _ => rfl
  have hgr : ∀ κ : tk_K, κ.1 ∉ ([39, 58, 57, 60, 61, 62, 63, 59] : List Nat) → Γ κ = Γ κ := fun _ _ => rfl
  have hl := lv_entry ([.ref o, .int p0, .int p1, .int p2]) (n := 4) (Nat.le_of_ble_eq_true rfl)
  rw [lg_entry_eq]
  generalize (lg_sl ([.ref o, .int p0, .int p1, .int p2]) ++ List.replicate (4 - (lg_sl ([.ref o, .int p0, .int p1, .int p2])).length) Slot.unset).toArray = ls at hl ⊢
  have hl : lv_has ls 4 [(0, .ref o), (1, .int p0), (2, .int p1), (3, .int p2)] := hl
  have hs := ts_hs hsd
  have hraw := ts_raw hsd
  have hslp := ts_slp hsd
  have htb := htx.1
  refine lv_aload_n hx hb dX12_without_0 rfl (lv_at hl 0 rfl) ?_
  refine lv_iload_n hx hb dX12_without_1 rfl (lv_at hl 1 rfl) ?_
  refine lv_iload_n hx hb dX12_without_2 rfl (lv_at hl 2 rfl) ?_
  obtain ⟨r_2, v_3, q_4, hf_1, hr_5, hv_6⟩ := (show tp_o_M L K 0 0 (Γ (39, 0, 0)) (f o) from hI.at ho)
  refine tl_si (tq_rV (As := [.int p0, .int p1]) (rest := []) ⟨hx, hb, hml, hown, hta⟩ (tp_P.pre hK hN hL hU hI hP) (tp_recv hK hP ho.1 hf_1 rfl) lk_X12_447 (r_X12_canAsk l D cy s.heap.size L K Γ f o p0 p1 ho) rfl rfl ⟨Nat.le_of_ble_eq_true rfl, Nat.le_of_ble_eq_true rfl⟩ rfl hl.1 rfl (Nat.le_of_ble_eq_true rfl) dX12_without_3 ⟨Nat.le_of_ble_eq_true rfl, Nat.le_of_ble_eq_true rfl⟩) (fun r_15 hw_14 => ?_)
  have hw_14 : tl_E r_15 ((0 ≤ p0.toInt ∧ p0.toInt < Γ (42, 3, 0) 1) ∧ 0 ≤ p1.toInt ∧ p1.toInt < Γ (40, 7666, 0) 1) 1 0 := hw_14
  refine lv_if_eq (tgt := 38) hx hb dX12_without_6 (by decide) (fun c_16 => ?_) (fun c_16 => ?_)
  · have c_16 := hw_14.f c_16
    refine lv_ldc (v := (-2000000)) hx hb hown (hta _ wk_248) dX12_without_38 ?_
    have hpo9 : Γ (39, 0, 0) 0 = Γ (39, 0, 0) 0 := (by omega)
    exact W.iret (v := (-2000000)) hx hb hr (fun t ht hW => ⟨⟨_, (f, Γ), rfl, hpo9, by rw [ht]; exact hP, hI, hfr, hgr⟩, hS.F ht⟩) hS.2.2 dX12_without_40
  · have c_16 := hw_14.t c_16
    refine lv_iload_n hx hb dX12_without_9 rfl (lv_at hl 3 rfl) ?_
    refine lv_i2l (v := p2.toInt64) hx hb dX12_without_10 (by first | rfl | decide) ?_
    refine lv_lconst (v := 0) hx hb dX12_without_11 (by decide) ?_
    refine lv_aload_n hx hb dX12_without_12 rfl (lv_at hl 0 rfl) ?_
    refine tp_get (cy := cy) (ci := 12) (v := .ref (r_2 0)) (C := RX12) (T := TX12) (N := 49) hx hb hta inlX12 hown hK hP ho.1 hf_1 rfl 0 (by decide) (hta _ wk_149) (fun _ h9 => h9) rfl dX12_without_13 ?_
    refine lv_iconst (v := 2) hx hb dX12_without_16 (by decide) ?_
    obtain ⟨g_18, hf_17, hg_19⟩ := (show tp_gi cy (7666) (Γ (40, 7666, 0)) (f (r_2 0)) from hI0.at (show tp_r L K 40 7666 0 (r_2 0) from hr_5 0 (by decide)))
    have hn_20 : vp_in 2 (7666) := tl_in (by decide) (by decide)
    refine tp_iald (cy := cy) hx hb hK hP (show tp_r L K 40 7666 0 (r_2 0) from hr_5 0 (by decide)).1 hf_17 hn_20 dX12_without_17 ?_
    refine lv_topi (fun z_21 ez_21 => ?_)
    have iz_21 : z_21.toInt = Γ (40, 7666, 0) 2 := by rw [ez_21]; exact hg_19 _ (tp_pin hn_20)
    refine lv_iconst (v := 1) hx hb dX12_without_18 (by decide) ?_
    refine lv_isub hx hb dX12_without_19 ?_
    refine lv_topi (fun z_22 ez_22 => ?_)
    try have iz_22 : z_22.toInt = z_21.toInt - (1 : Int) := by rw [ez_22]; exact tl_subN z_21 1 rfl rfl (by omega) (by omega)
    refine lv_i2l (v := z_22.toInt64) hx hb dX12_without_20 (by first | rfl | decide) ?_
    refine tl_si (tq_rS (As := [.long p2.toInt64, .long 0, .long z_22.toInt64]) (rest := []) ⟨hx, hb, hml, hown, hta⟩ (tp_P.pre hK hN hL hU hI hP) lk_X12_112 (r_X12_in l D cy s.heap.size L K Γ f p2.toInt64 0 z_22.toInt64 ) rfl rfl ⟨Nat.le_of_ble_eq_true rfl, Nat.le_of_ble_eq_true rfl⟩ rfl hl.1 rfl (Nat.le_of_ble_eq_true rfl) dX12_without_21 ⟨Nat.le_of_ble_eq_true rfl, Nat.le_of_ble_eq_true rfl⟩) (fun r_24 hw_23 => ?_)
    simp only [Int32.toInt_toInt64] at hw_23
    have hw_23 : tl_E r_24 ((0 : Int) ≤ p2.toInt ∧ p2.toInt ≤ z_22.toInt) 1 0 := hw_23
    refine lv_if_eq (tgt := 38) hx hb dX12_without_24 (by decide) (fun c_25 => ?_) (fun c_25 => ?_)
    · have c_25 := hw_23.f c_25
      refine lv_ldc (v := (-2000000)) hx hb hown (hta _ wk_248) dX12_without_38 ?_
      have hpo9 : Γ (39, 0, 0) 0 = Γ (39, 0, 0) 0 := (by omega)
      exact W.iret (v := (-2000000)) hx hb hr (fun t ht hW => ⟨⟨_, (f, Γ), rfl, hpo9, by rw [ht]; exact hP, hI, hfr, hgr⟩, hS.F ht⟩) hS.2.2 dX12_without_40
    · have c_25 := hw_23.t c_25
      refine lv_aload_n hx hb dX12_without_27 rfl (lv_at hl 0 rfl) ?_
      refine lv_iload_n hx hb dX12_without_28 rfl (lv_at hl 1 rfl) ?_
      refine lv_iload_n hx hb dX12_without_29 rfl (lv_at hl 2 rfl) ?_
      refine lv_iload_n hx hb dX12_without_30 rfl (lv_at hl 3 rfl) ?_
      refine tq_clR hS (hAf _ hS.1) (tq_rV (As := [.int p0, .int p1, .int p2]) (rest := []) ⟨hx, hb, hml, hown, hta⟩ (tp_P.pre hK hN hL hU hI hP) (tp_recv hK hP ho.1 hf_1 rfl) lk_X12_521 (r_X12_deepWithout l D cy s.heap.size L K Γ f o p0 p1 p2 ho (by first | omega | (simp only [Int32.toInt_toInt64]; omega) | decide | assumption) (by first | omega | (simp only [Int32.toInt_toInt64]; omega) | decide | assumption) (by first | omega | (simp only [Int32.toInt_toInt64]; omega) | decide | assumption) (by first | omega | (simp only [Int32.toInt_toInt64]; omega) | decide | assumption) (by first | omega | (simp only [Int32.toInt_toInt64]; omega) | decide | assumption)) rfl rfl ⟨Nat.le_of_ble_eq_true rfl, Nat.le_of_ble_eq_true rfl⟩ rfl hl.1 rfl (Nat.le_of_ble_eq_true rfl) dX12_without_31 ⟨Nat.le_of_ble_eq_true rfl, Nat.le_of_ble_eq_true rfl⟩) (fun r_27 f_28 Γ_30 H locs hw_26 hP hI hc_29 hcg_31 hS => ?_)
      have hD : va_D A (va_pl L f_28) := tp_D hL hAL
      have hfr := tp_fr2 hfr hc_29 (by decide)
      have hgr : ∀ κ : tk_K, κ.1 ∉ ([39, 58, 57, 60, 61, 62, 63, 59] : List Nat) → Γ_30 κ = Γ κ := tg_fr2 hgr hcg_31 (by decide)
      have hw_26 : Γ_30 (39, 0, 0) 0 = Γ (39, 0, 0) 0 ∧ (Γ_30 (39, 0, 0) 15 = 0 ∨ Γ_30 (39, 0, 0) 15 = 1) := hw_26
      refine lv_l2i hx hb dX12_without_34 rfl ?_
      refine lv_topi (fun z_32 ez_32 => ?_)
      refine lv_goto (tgt := 40) hx hb dX12_without_35 (by decide) ?_
      have hpo9 : Γ_30 (39, 0, 0) 0 = Γ (39, 0, 0) 0 := (by omega)
      exact W.iret (v := z_32) hx hb hr (fun t ht hW => ⟨⟨_, (f_28, Γ_30), rfl, hpo9, by rw [ht]; exact hP, hI, hfr, hgr⟩, hS.F ht⟩) hS.2.2 dX12_without_40
set_option maxHeartbeats 4000000 in
set_option maxRecDepth 100000 in
theorem r_X12_weightiest (l : Launch) (D : va_G) (cy : Nat → ClassId) (sz : Nat) (L : List Nat) (K : Nat → tk_K) (Γ : tk_G) (f : Nat → va_E) (o : Nat) (p0 : Int32) (p1 : Int32) (ho : tp_r L K 39 (0) 0 o) (htx : tx_ok (Γ (43, 8800, 0)) (Γ (45, 1056, 0)) (Γ (46, 22, 0)) (Γ (47, 6, 0)) (Γ (48, 22, 0)) (Γ (49, 22, 0)) (Γ (50, 22, 0)) (Γ (51, 22, 0)) (Γ (42, 3, 0))) (hsd : ts_said (Γ (40, 7666, 0)) (Γ (42, 3, 0) 1)) : Met l yX12_weightiest (tl_w yX12_weightiest cX12_weightiest 11 (some .int)) ({ frames := 7, cells := 0, slots := 0, locals := 180 }) (va_Pc [.ref o, .int p0, .int p1] (tp_P D cy L K Γ f sz)) (va_Qi (fun (r : Int32) (u : (Nat → va_E) × tk_G) => u.2 (39, 0, 0) 0 = Γ (39, 0, 0) 0) (tp_BG D cy L K Γ f [39, 58, 57, 60, 61, 62, 63, 59]) (tp_A L sz)) 0 0 (tp_A L sz) := by
  refine Met.ofW (cc := cX12_weightiest) (maxL := 11) (ret := (some .int)) (by decide) rfl ?_
  intro p e s m args below meth c s₁ B hml hv
  obtain ⟨rfl, hsz, hP, hK, hL, hI, hN, hU⟩ := hv
  have hx := B.exec
  have hb := B.bytes
  have hr := B.returns
  have hta := tl_hta (atoms_spec (ws := tl_w yX12_weightiest cX12_weightiest 11 (some .int)) B.pre)
  have hown : s.vm.findClass RX12 = some m.cls := findClass_of_methodNamed B.named
  have hlocks := B.notSynchronized
  subst hsz
  have hI0 := hI
  generalize hAe : tp_A L s.heap.size = A
  have hA : ∀ q : Nat, s.heap.size ≤ q → A q := fun q h => by rw [← hAe]; exact Or.inr h
  have hAL : ∀ q ∈ L, A q := fun q h => by rw [← hAe]; exact Or.inl h
  have hAf : ∀ (H : Heap), s.heap.size ≤ H.size → ∀ q, tp_A L H.size q → A q := fun H h q hq => hq.elim (hAL q) (fun h2 => hA q (Nat.le_trans h h2))
  have hS : va_S A s.heap s.heap [] := va_S.rf
  have hD : va_D A (va_pl L f) := tp_D hL hAL
  have hfr : ∀ b, (K b).1 ∉ ([39, 58, 57, 60, 61, 62, 63, 59] : List Nat) → f b = f b := fun _ _ => rfl
  have hgr : ∀ κ : tk_K, κ.1 ∉ ([39, 58, 57, 60, 61, 62, 63, 59] : List Nat) → Γ κ = Γ κ := fun _ _ => rfl
  have hl := lv_entry ([.ref o, .int p0, .int p1]) (n := 11) (Nat.le_of_ble_eq_true rfl)
  rw [lg_entry_eq]
  generalize (lg_sl ([.ref o, .int p0, .int p1]) ++ List.replicate (11 - (lg_sl ([.ref o, .int p0, .int p1])).length) Slot.unset).toArray = ls at hl ⊢
  have hl : lv_has ls 11 [(0, .ref o), (1, .int p0), (2, .int p1)] := hl
  have hs := ts_hs hsd
  have hraw := ts_raw hsd
  have hslp := ts_slp hsd
  have htb := htx.1
  refine lv_aload_n hx hb dX12_weightiest_0 rfl (lv_at hl 0 rfl) ?_
  refine lv_iload_n hx hb dX12_weightiest_1 rfl (lv_at hl 1 rfl) ?_
  refine lv_iload_n hx hb dX12_weightiest_2 rfl (lv_at hl 2 rfl) ?_
  obtain ⟨r_2, v_3, q_4, hf_1, hr_5, hv_6⟩ := (show tp_o_M L K 0 0 (Γ (39, 0, 0)) (f o) from hI.at ho)
  refine tl_si (tq_rV (As := [.int p0, .int p1]) (rest := []) ⟨hx, hb, hml, hown, hta⟩ (tp_P.pre hK hN hL hU hI hP) (tp_recv hK hP ho.1 hf_1 rfl) lk_X12_447 (r_X12_canAsk l D cy s.heap.size L K Γ f o p0 p1 ho) rfl rfl ⟨Nat.le_of_ble_eq_true rfl, Nat.le_of_ble_eq_true rfl⟩ rfl hl.1 rfl (Nat.le_of_ble_eq_true rfl) dX12_weightiest_3 ⟨Nat.le_of_ble_eq_true rfl, Nat.le_of_ble_eq_true rfl⟩) (fun r_15 hw_14 => ?_)
  have hw_14 : tl_E r_15 ((0 ≤ p0.toInt ∧ p0.toInt < Γ (42, 3, 0) 1) ∧ 0 ≤ p1.toInt ∧ p1.toInt < Γ (40, 7666, 0) 1) 1 0 := hw_14
  refine lv_if_ne (tgt := 11) hx hb dX12_weightiest_6 (by decide) (fun c_16 => ?_) (fun c_16 => ?_)
  · have c_16 := hw_14.t c_16
    refine lv_aload_n hx hb dX12_weightiest_11 rfl (lv_at hl 0 rfl) ?_
    refine lv_iload_n hx hb dX12_weightiest_12 rfl (lv_at hl 1 rfl) ?_
    refine lv_iload_n hx hb dX12_weightiest_13 rfl (lv_at hl 2 rfl) ?_
    refine tq_clR hS (hAf _ hS.1) (tq_rV (As := [.int p0, .int p1]) (rest := []) ⟨hx, hb, hml, hown, hta⟩ (tp_P.pre hK hN hL hU hI hP) (tp_recv hK hP ho.1 hf_1 rfl) lk_X12_450 (r_X12_scoreOf l D cy s.heap.size L K Γ f o p0 p1 ho (by first | omega | (simp only [Int32.toInt_toInt64]; omega) | decide | assumption) (by first | omega | (simp only [Int32.toInt_toInt64]; omega) | decide | assumption) (by first | omega | (simp only [Int32.toInt_toInt64]; omega) | decide | assumption) (by first | omega | (simp only [Int32.toInt_toInt64]; omega) | decide | assumption)) rfl rfl ⟨Nat.le_of_ble_eq_true rfl, Nat.le_of_ble_eq_true rfl⟩ rfl hl.1 rfl (Nat.le_of_ble_eq_true rfl) dX12_weightiest_14 ⟨Nat.le_of_ble_eq_true rfl, Nat.le_of_ble_eq_true rfl⟩) (fun r_18 f_19 Γ_21 H locs hw_17 hP hI hc_20 hcg_22 hS => ?_)
    have hD : va_D A (va_pl L f_19) := tp_D hL hAL
    have hfr := tp_fr2 hfr hc_20 (by decide)
    have hgr : ∀ κ : tk_K, κ.1 ∉ ([39, 58, 57, 60, 61, 62, 63, 59] : List Nat) → Γ_21 κ = Γ κ := tg_fr2 hgr hcg_22 (by decide)
    have hw_17 : Γ_21 (39, 0, 0) 0 = Γ (39, 0, 0) 0 ∧ (0 ≤ Γ_21 (39, 0, 0) 11 ∧ Γ_21 (39, 0, 0) 12 ≤ 299) ∧ (Γ_21 (39, 0, 0) 11 = Γ (49, 22, 0) (6 + p0.toInt).toNat ∧ Γ_21 (39, 0, 0) 12 = Γ (50, 22, 0) (6 + p0.toInt).toNat) ∧ (Γ_21 (39, 0, 0) 15 = 0 ∨ Γ_21 (39, 0, 0) 15 = 1) ∧ (0 ≤ Γ_21 (39, 0, 0) 13 ∧ Γ_21 (39, 0, 0) 13 ≤ 42) ∧ (0 < Γ_21 (39, 0, 0) 13 → 0 < Γ_21 (39, 0, 0) 10) ∧ (Γ_21 (39, 0, 0) 15 = 1 → 0 < Γ_21 (39, 0, 0) 13 ∧ 0 < Γ_21 (39, 0, 0) 14) ∧ (Γ_21 (39, 0, 0) 15 = 1 → gex (Γ_21 (59, 300, 0)) (Γ (49, 22, 0) (6 + p0.toInt).toNat) (Γ (50, 22, 0) (6 + p0.toInt).toNat + 1)) ∧ (∀ j : Nat, (j : Int) < Γ_21 (39, 0, 0) 13 → 0 ≤ Γ_21 (61, 42, 0) j ∧ Γ_21 (61, 42, 0) j ≤ 299) ∧ (∀ j : Nat, (j : Int) + 1 < Γ_21 (39, 0, 0) 13 → Γ_21 (61, 42, 0) j < Γ_21 (61, 42, 0) (j + 1)) ∧ (∀ j : Nat, j < 300 → (Γ_21 (59, 300, 0) j = -1000000 ∨ (-500000 ≤ Γ_21 (59, 300, 0) j ∧ Γ_21 (59, 300, 0) j ≤ 500000))) := hw_17
    obtain ⟨hq0, hqb, hq11, hq15, hq13, hq10, hqd, hqg, hqk, hqr, hql⟩ := hw_17
    refine lv_pop2_2 hx hb dX12_weightiest_17 rfl ?_
    refine lv_aload_n hx hb dX12_weightiest_18 rfl (lv_at hl 0 rfl) ?_
    obtain ⟨r_24, v_25, q_26, hf_23, hr_27, hv_28⟩ := (show tp_o_M L K 0 0 (Γ_21 (39, 0, 0)) (f_19 o) from hI.at ho)
    have hx_35 : (v_25 15).toInt = Γ_21 (39, 0, 0) 15 := hv_28 15 (by decide)
    refine tp_get (cy := cy) (ci := 12) (v := .int (v_25 15)) (C := RX12) (T := TX12) (N := 49) hx hb hta inlX12 hown hK hP ho.1 hf_23 rfl 40 (by decide) (hta _ wk_924) (fun _ h9 => h9) rfl dX12_weightiest_19 ?_
    refine lv_if_ne (tgt := 28) hx hb dX12_weightiest_22 (by decide) (fun c_36 => ?_) (fun c_36 => ?_)
    · have c_36 : ¬ (v_25 15).toInt = (0 : Int) := tl_neq c_36
      refine lv_aload_n hx hb dX12_weightiest_28 rfl (lv_at hl 0 rfl) ?_
      refine tq_clR hS (hAf _ hS.1) (tq_rV (As := []) (rest := []) ⟨hx, hb, hml, hown, hta⟩ (tp_P.pre hK hN hL hU hI hP) (tp_recv hK hP ho.1 hf_23 rfl) lk_X12_431 (r_X12_deepNow l D cy H.size L K Γ_21 f_19 o ho (by first | omega | (simp only [Int32.toInt_toInt64]; omega) | decide | assumption)) rfl rfl ⟨Nat.le_of_ble_eq_true rfl, Nat.le_of_ble_eq_true rfl⟩ rfl hl.1 rfl (Nat.le_of_ble_eq_true rfl) dX12_weightiest_29 ⟨Nat.le_of_ble_eq_true rfl, Nat.le_of_ble_eq_true rfl⟩) (fun r_38 f_39 Γ_41 H locs hw_37 hP hI hc_40 hcg_42 hS => ?_)
      have hD : va_D A (va_pl L f_39) := tp_D hL hAL
      have hfr := tp_fr2 hfr hc_40 (by decide)
      have hgr : ∀ κ : tk_K, κ.1 ∉ ([39, 58, 57, 60, 61, 62, 63, 59] : List Nat) → Γ_41 κ = Γ κ := tg_fr2 hgr hcg_42 (by decide)
      have hw_37 : 0 ≤ Γ_41 (39, 0, 0) 14 ∧ (0 < Γ_41 (39, 0, 0) 14 ↔ gex (Γ_21 (59, 300, 0)) (Γ_21 (39, 0, 0) 11) (Γ_21 (39, 0, 0) 12 + 1)) ∧ Γ_41 (39, 0, 0) 0 = Γ_21 (39, 0, 0) 0 ∧ Γ_41 (39, 0, 0) 10 = Γ_21 (39, 0, 0) 10 ∧ Γ_41 (39, 0, 0) 11 = Γ_21 (39, 0, 0) 11 ∧ Γ_41 (39, 0, 0) 12 = Γ_21 (39, 0, 0) 12 ∧ Γ_41 (39, 0, 0) 13 = Γ_21 (39, 0, 0) 13 ∧ Γ_41 (39, 0, 0) 15 = Γ_21 (39, 0, 0) 15 := hw_37
      refine lv_lstore_n (lv' := [(3, .long r_38), (0, .ref o), (1, .int p0), (2, .int p1)]) hx hb dX12_weightiest_32 rfl hl (by decide) rfl (fun ls hl => ?_)
      refine lv_bipush (v := (-2)) hx hb dX12_weightiest_33 (by decide) ?_
      refine lv_istore (lv' := [(5, .int (-2)), (3, .long r_38), (0, .ref o), (1, .int p0), (2, .int p1)]) hx hb dX12_weightiest_35 hl (by decide) rfl (fun ls hl => ?_)
      refine lv_lconst (v := 0) hx hb dX12_weightiest_37 (by decide) ?_
      refine lv_lstore (lv' := [(6, .long 0), (5, .int (-2)), (3, .long r_38), (0, .ref o), (1, .int p0), (2, .int p1)]) hx hb dX12_weightiest_38 hl (by decide) rfl (fun ls hl => ?_)
      refine lv_iconst (v := 0) hx hb dX12_weightiest_40 (by decide) ?_
      refine lv_istore (lv' := [(8, .int 0), (6, .long 0), (5, .int (-2)), (3, .long r_38), (0, .ref o), (1, .int p0), (2, .int p1)]) hx hb dX12_weightiest_41 hl (by decide) rfl (fun ls hl => ?_)
      refine tl_ind (G := fun H locs ls => W p l e ((headSpec (tl_w yX12_weightiest cX12_weightiest 11 (some .int)) ({ frames := 7, cells := 0, slots := 0, locals := 180 })).room) s m #[.ref o, .int p0, .int p1] below meth c H locs 0 0 (MQ below (va_Qi (fun (r : Int32) (u : (Nat → va_E) × tk_G) => u.2 (39, 0, 0) 0 = Γ (39, 0, 0) 0) (tp_BG D cy L K Γ f [39, 58, 57, 60, 61, 62, 63, 59]) A) #[.ref o, .int p0, .int p1] s 0 0 A) (F0 m 43 ls [])) (α := (Nat → va_E) × tk_G × Int32 × Int64 × Int32) (fun aq => (40 - aq.2.2.1.toInt).toNat) (fun aq H locs ls => (0 ≤ aq.2.2.1.toInt) ∧ (aq.2.1 (39, 0, 0) 0 = Γ (39, 0, 0) 0) ∧ va_P D vwCl (va_pl L aq.1) H ∧ tp_I cy L K aq.2.1 aq.1 ∧ (∀ b, (K b).1 ∉ ([39, 58, 57, 60, 61, 62, 63, 59] : List Nat) → aq.1 b = f b) ∧ (∀ κ : tk_K, κ.1 ∉ ([39, 58, 57, 60, 61, 62, 63, 59] : List Nat) → aq.2.1 κ = Γ κ) ∧ va_S A s.heap H locs ∧ lv_has ls 11 [(8, .int aq.2.2.1), (6, .long aq.2.2.2.1), (5, .int aq.2.2.2.2), (3, .long r_38), (0, .ref o), (1, .int p0), (2, .int p1)]) ?_ (f_39, Γ_41, (0 : Int32), (0 : Int64), ((-2) : Int32)) H locs ls ⟨(show 0 ≤ (0 : Int) from (by omega)), (show Γ_41 (39, 0, 0) 0 = Γ (39, 0, 0) 0 from (by omega)), hP, hI, hfr, hgr, hS, lv_sub hl [0, 1, 2, 3, 4, 5, 6] rfl⟩
      rintro ⟨f_43, Γ_44, v8, v6, v5⟩ H locs ls ⟨hr8, q0, hP, hI, hfr, hgr, hS, hl⟩ ih43
      have hgr : ∀ κ : tk_K, κ.1 ∉ ([39, 58, 57, 60, 61, 62, 63, 59] : List Nat) → Γ_44 κ = Γ κ := hgr
      have hP : va_P D vwCl (va_pl L f_43) H := hP
      have hI : tp_I cy L K Γ_44 f_43 := hI
      have hfr : ∀ b, (K b).1 ∉ ([39, 58, 57, 60, 61, 62, 63, 59] : List Nat) → f_43 b = f b := hfr
      have hD : va_D A (va_pl L f_43) := tp_D hL hAL
      have hr8 : 0 ≤ v8.toInt := hr8
      have q0 : Γ_44 (39, 0, 0) 0 = Γ (39, 0, 0) 0 := q0
      have hl : lv_has ls 11 [(8, .int v8), (6, .long v6), (5, .int v5), (3, .long r_38), (0, .ref o), (1, .int p0), (2, .int p1)] := hl
      refine lv_iload hx hb dX12_weightiest_43 (lv_at hl 0 rfl) ?_
      refine lv_aload_n hx hb dX12_weightiest_45 rfl (lv_at hl 4 rfl) ?_
      obtain ⟨r_46, v_47, q_48, hf_45, hr_49, hv_50⟩ := (show tp_o_M L K 0 0 (Γ_44 (39, 0, 0)) (f_43 o) from hI.at ho)
      refine tp_get (cy := cy) (ci := 12) (v := .ref (r_46 0)) (C := RX12) (T := TX12) (N := 49) hx hb hta inlX12 hown hK hP ho.1 hf_45 rfl 0 (by decide) (hta _ wk_149) (fun _ h9 => h9) rfl dX12_weightiest_46 ?_
      refine lv_iconst (v := 2) hx hb dX12_weightiest_49 (by decide) ?_
      obtain ⟨g_59, hf_58, hg_60⟩ := (show tp_gi cy (7666) (Γ (40, 7666, 0)) (f (r_46 0)) from hI0.at (show tp_r L K 40 7666 0 (r_46 0) from hr_49 0 (by decide)))
      have hn_61 : vp_in 2 (7666) := tl_in (by decide) (by decide)
      refine tp_iald (cy := cy) hx hb hK hP (show tp_r L K 40 7666 0 (r_46 0) from hr_49 0 (by decide)).1 ((tp_un hfr (show tp_r L K 40 7666 0 (r_46 0) from hr_49 0 (by decide)) (by decide)).trans hf_58) hn_61 dX12_weightiest_50 ?_
      refine lv_topi (fun z_62 ez_62 => ?_)
      have iz_62 : z_62.toInt = Γ (40, 7666, 0) 2 := by rw [ez_62]; exact hg_60 _ (tp_pin hn_61)
      refine lv_icmp_ge (tgt := 106) hx hb dX12_weightiest_51 (by decide) (fun c_63 => ?_) (fun c_63 => ?_)
      · have c_63 : z_62.toInt ≤ v8.toInt := tl_le c_63
        refine lv_iload hx hb dX12_weightiest_106 (lv_at hl 2 rfl) ?_
        have hpo9 : Γ_44 (39, 0, 0) 0 = Γ (39, 0, 0) 0 := (by omega)
        exact W.iret (v := v5) hx hb hr (fun t ht hW => ⟨⟨_, (f_43, Γ_44), rfl, hpo9, by rw [ht]; exact hP, hI, hfr, hgr⟩, hS.F ht⟩) hS.2.2 dX12_weightiest_108
      · have c_63 : v8.toInt < z_62.toInt := tl_nle c_63
        refine lv_aload_n hx hb dX12_weightiest_54 rfl (lv_at hl 4 rfl) ?_
        refine lv_iload_n hx hb dX12_weightiest_55 rfl (lv_at hl 5 rfl) ?_
        refine lv_iload_n hx hb dX12_weightiest_56 rfl (lv_at hl 6 rfl) ?_
        refine lv_iload hx hb dX12_weightiest_57 (lv_at hl 0 rfl) ?_
        refine tq_clR hS (hAf _ hS.1) (tq_rV (As := [.int p0, .int p1, .int v8]) (rest := []) ⟨hx, hb, hml, hown, hta⟩ (tp_P.pre hK hN hL hU hI hP) (tp_recv hK hP ho.1 hf_45 rfl) lk_X12_521 (r_X12_deepWithout l D cy H.size L K Γ_44 f_43 o p0 p1 v8 ho (by first | omega | assumption | (rw [hgr (42, 3, 0) (by decide), hgr (43, 8800, 0) (by decide), hgr (45, 1056, 0) (by decide), hgr (46, 22, 0) (by decide), hgr (47, 6, 0) (by decide), hgr (48, 22, 0) (by decide), hgr (49, 22, 0) (by decide), hgr (50, 22, 0) (by decide), hgr (51, 22, 0) (by decide)]; first | exact htx | assumption | omega)) (by first | omega | assumption | (rw [hgr (40, 7666, 0) (by decide), hgr (42, 3, 0) (by decide)]; first | exact hsd | assumption | omega)) (by first | omega | assumption | (rw [hgr (42, 3, 0) (by decide)]; first | assumption | omega)) (by first | omega | (simp only [Int32.toInt_toInt64]; omega) | decide | assumption) (by first | omega | assumption | (rw [hgr (40, 7666, 0) (by decide)]; first | assumption | omega))) rfl rfl ⟨Nat.le_of_ble_eq_true rfl, Nat.le_of_ble_eq_true rfl⟩ rfl hl.1 rfl (Nat.le_of_ble_eq_true rfl) dX12_weightiest_59 ⟨Nat.le_of_ble_eq_true rfl, Nat.le_of_ble_eq_true rfl⟩) (fun r_65 f_66 Γ_68 H locs hw_64 hP hI hc_67 hcg_69 hS => ?_)
        have hD : va_D A (va_pl L f_66) := tp_D hL hAL
        have hfr := tp_fr2 hfr hc_67 (by decide)
        have hgr : ∀ κ : tk_K, κ.1 ∉ ([39, 58, 57, 60, 61, 62, 63, 59] : List Nat) → Γ_68 κ = Γ κ := tg_fr2 hgr hcg_69 (by decide)
        have hw_64 : Γ_68 (39, 0, 0) 0 = Γ_44 (39, 0, 0) 0 ∧ (Γ_68 (39, 0, 0) 15 = 0 ∨ Γ_68 (39, 0, 0) 15 = 1) := hw_64
        refine lv_lload_n hx hb dX12_weightiest_62 rfl (lv_at hl 3 rfl) ?_
        refine lv_lsub hx hb dX12_weightiest_63 ?_
        refine lv_topl (fun z_70 ez_70 => ?_)
        refine tl_sl (tq_rS (As := [.long z_70]) (rest := []) ⟨hx, hb, hml, hown, hta⟩ (tp_P.pre hK hN hL hU hI hP) lk_X12_414 (r_X12_size l D cy H.size L K Γ_68 f_66 z_70 ) rfl rfl ⟨Nat.le_of_ble_eq_true rfl, Nat.le_of_ble_eq_true rfl⟩ rfl hl.1 rfl (Nat.le_of_ble_eq_true rfl) dX12_weightiest_64 ⟨Nat.le_of_ble_eq_true rfl, Nat.le_of_ble_eq_true rfl⟩) (fun r_72 hw_71 => ?_)
        refine lv_lstore (lv' := [(9, .long r_72), (8, .int v8), (6, .long v6), (5, .int v5), (3, .long r_38), (0, .ref o), (1, .int p0), (2, .int p1)]) hx hb dX12_weightiest_67 hl (by decide) rfl (fun ls hl => ?_)
        refine lv_aload_n hx hb dX12_weightiest_69 rfl (lv_at hl 5 rfl) ?_
        obtain ⟨r_74, v_75, q_76, hf_73, hr_77, hv_78⟩ := (show tp_o_M L K 0 0 (Γ_68 (39, 0, 0)) (f_66 o) from hI.at ho)
        have hx_85 : (v_75 15).toInt = Γ_68 (39, 0, 0) 15 := hv_78 15 (by decide)
        refine tp_get (cy := cy) (ci := 12) (v := .int (v_75 15)) (C := RX12) (T := TX12) (N := 49) hx hb hta inlX12 hown hK hP ho.1 hf_73 rfl 40 (by decide) (hta _ wk_924) (fun _ h9 => h9) rfl dX12_weightiest_70 ?_
        refine lv_if_eq (tgt := 100) hx hb dX12_weightiest_73 (by decide) (fun c_86 => ?_) (fun c_86 => ?_)
        · have c_86 : (v_75 15).toInt = (0 : Int) := tl_eq c_86
          obtain ⟨z_87, ez_87⟩ : ∃ y : Int32, y = v8 + 1 := ⟨_, rfl⟩
          refine lv_iinc (v := z_87) (lv' := [(8, .int z_87), (9, .long r_72), (6, .long v6), (5, .int v5), (3, .long r_38), (0, .ref o), (1, .int p0), (2, .int p1)]) hx hb dX12_weightiest_100 hl (k := 1) rfl (by rw [ez_87]; rfl) (by decide) rfl (fun ls hl => ?_)
          try have iz_87 : z_87.toInt = v8.toInt + 1 := by rw [ez_87]; exact tl_addL v8 1 (by decide) (by omega) (by omega)
          refine lv_goto (tgt := 43) hx hb dX12_weightiest_103 (by decide) ?_
          exact ih43 (f_66, Γ_68, z_87, v6, v5) H locs ls (by show (40 - z_87.toInt).toNat < (40 - v8.toInt).toNat; omega) ⟨(show 0 ≤ z_87.toInt from (by omega)), (show Γ_68 (39, 0, 0) 0 = Γ (39, 0, 0) 0 from (by omega)), hP, hI, hfr, hgr, hS, lv_sub hl [0, 2, 3, 4, 5, 6, 7] rfl⟩
        · have c_86 : ¬ (v_75 15).toInt = (0 : Int) := tl_neq c_86
          refine lv_iload hx hb dX12_weightiest_76 (lv_at hl 3 rfl) ?_
          refine lv_if_lt (tgt := 92) hx hb dX12_weightiest_78 (by decide) (fun c_88 => ?_) (fun c_88 => ?_)
          · have c_88 : v5.toInt < (0 : Int) := tl_lt c_88
            refine lv_iload hx hb dX12_weightiest_92 (lv_at hl 1 rfl) ?_
            refine lv_istore (lv' := [(5, .int v8), (9, .long r_72), (8, .int v8), (6, .long v6), (3, .long r_38), (0, .ref o), (1, .int p0), (2, .int p1)]) hx hb dX12_weightiest_94 hl (by decide) rfl (fun ls hl => ?_)
            refine lv_lload hx hb dX12_weightiest_96 (lv_at hl 1 rfl) ?_
            refine lv_lstore (lv' := [(6, .long r_72), (5, .int v8), (9, .long r_72), (8, .int v8), (3, .long r_38), (0, .ref o), (1, .int p0), (2, .int p1)]) hx hb dX12_weightiest_98 hl (by decide) rfl (fun ls hl => ?_)
            obtain ⟨z_89, ez_89⟩ : ∃ y : Int32, y = v8 + 1 := ⟨_, rfl⟩
            refine lv_iinc (v := z_89) (lv' := [(8, .int z_89), (6, .long r_72), (5, .int v8), (9, .long r_72), (3, .long r_38), (0, .ref o), (1, .int p0), (2, .int p1)]) hx hb dX12_weightiest_100 hl (k := 3) rfl (by rw [ez_89]; rfl) (by decide) rfl (fun ls hl => ?_)
            try have iz_89 : z_89.toInt = v8.toInt + 1 := by rw [ez_89]; exact tl_addL v8 1 (by decide) (by omega) (by omega)
            refine lv_goto (tgt := 43) hx hb dX12_weightiest_103 (by decide) ?_
            exact ih43 (f_66, Γ_68, z_89, r_72, v8) H locs ls (by show (40 - z_89.toInt).toNat < (40 - v8.toInt).toNat; omega) ⟨(show 0 ≤ z_89.toInt from (by omega)), (show Γ_68 (39, 0, 0) 0 = Γ (39, 0, 0) 0 from (by omega)), hP, hI, hfr, hgr, hS, lv_sub hl [0, 1, 2, 4, 5, 6, 7] rfl⟩
          · have c_88 : (0 : Int) ≤ v5.toInt := tl_nlt c_88
            refine lv_lload hx hb dX12_weightiest_81 (lv_at hl 0 rfl) ?_
            refine lv_lload hx hb dX12_weightiest_83 (lv_at hl 2 rfl) ?_
            refine W.lcmp hx hb dX12_weightiest_85 ?_
            refine lv_if_gt (tgt := 92) hx hb dX12_weightiest_86 (by decide) (fun c_90 => ?_) (fun c_90 => ?_)
            · have c_90 : r_72.toInt > v6.toInt := tl_cmp_gt c_90
              refine lv_iload hx hb dX12_weightiest_92 (lv_at hl 1 rfl) ?_
              refine lv_istore (lv' := [(5, .int v8), (9, .long r_72), (8, .int v8), (6, .long v6), (3, .long r_38), (0, .ref o), (1, .int p0), (2, .int p1)]) hx hb dX12_weightiest_94 hl (by decide) rfl (fun ls hl => ?_)
              refine lv_lload hx hb dX12_weightiest_96 (lv_at hl 1 rfl) ?_
              refine lv_lstore (lv' := [(6, .long r_72), (5, .int v8), (9, .long r_72), (8, .int v8), (3, .long r_38), (0, .ref o), (1, .int p0), (2, .int p1)]) hx hb dX12_weightiest_98 hl (by decide) rfl (fun ls hl => ?_)
              obtain ⟨z_91, ez_91⟩ : ∃ y : Int32, y = v8 + 1 := ⟨_, rfl⟩
              refine lv_iinc (v := z_91) (lv' := [(8, .int z_91), (6, .long r_72), (5, .int v8), (9, .long r_72), (3, .long r_38), (0, .ref o), (1, .int p0), (2, .int p1)]) hx hb dX12_weightiest_100 hl (k := 3) rfl (by rw [ez_91]; rfl) (by decide) rfl (fun ls hl => ?_)
              try have iz_91 : z_91.toInt = v8.toInt + 1 := by rw [ez_91]; exact tl_addL v8 1 (by decide) (by omega) (by omega)
              refine lv_goto (tgt := 43) hx hb dX12_weightiest_103 (by decide) ?_
              exact ih43 (f_66, Γ_68, z_91, r_72, v8) H locs ls (by show (40 - z_91.toInt).toNat < (40 - v8.toInt).toNat; omega) ⟨(show 0 ≤ z_91.toInt from (by omega)), (show Γ_68 (39, 0, 0) 0 = Γ (39, 0, 0) 0 from (by omega)), hP, hI, hfr, hgr, hS, lv_sub hl [0, 1, 2, 4, 5, 6, 7] rfl⟩
            · have c_90 : r_72.toInt ≤ v6.toInt := tl_cmp_ngt c_90
              refine lv_goto (tgt := 100) hx hb dX12_weightiest_89 (by decide) ?_
              obtain ⟨z_92, ez_92⟩ : ∃ y : Int32, y = v8 + 1 := ⟨_, rfl⟩
              refine lv_iinc (v := z_92) (lv' := [(8, .int z_92), (9, .long r_72), (6, .long v6), (5, .int v5), (3, .long r_38), (0, .ref o), (1, .int p0), (2, .int p1)]) hx hb dX12_weightiest_100 hl (k := 1) rfl (by rw [ez_92]; rfl) (by decide) rfl (fun ls hl => ?_)
              try have iz_92 : z_92.toInt = v8.toInt + 1 := by rw [ez_92]; exact tl_addL v8 1 (by decide) (by omega) (by omega)
              refine lv_goto (tgt := 43) hx hb dX12_weightiest_103 (by decide) ?_
              exact ih43 (f_66, Γ_68, z_92, v6, v5) H locs ls (by show (40 - z_92.toInt).toNat < (40 - v8.toInt).toNat; omega) ⟨(show 0 ≤ z_92.toInt from (by omega)), (show Γ_68 (39, 0, 0) 0 = Γ (39, 0, 0) 0 from (by omega)), hP, hI, hfr, hgr, hS, lv_sub hl [0, 2, 3, 4, 5, 6, 7] rfl⟩
    · have c_36 : (v_25 15).toInt = (0 : Int) := tl_eq c_36
      refine lv_bipush (v := (-2)) hx hb dX12_weightiest_25 (by decide) ?_
      have hpo9 : Γ_21 (39, 0, 0) 0 = Γ (39, 0, 0) 0 := (by omega)
      exact W.iret (v := (-2)) hx hb hr (fun t ht hW => ⟨⟨_, (f_19, Γ_21), rfl, hpo9, by rw [ht]; exact hP, hI, hfr, hgr⟩, hS.F ht⟩) hS.2.2 dX12_weightiest_27
  · have c_16 := hw_14.f c_16
    refine lv_iconst (v := (-1)) hx hb dX12_weightiest_9 (by decide) ?_
    have hpo9 : Γ (39, 0, 0) 0 = Γ (39, 0, 0) 0 := (by omega)
    exact W.iret (v := (-1)) hx hb hr (fun t ht hW => ⟨⟨_, (f, Γ), rfl, hpo9, by rw [ht]; exact hP, hI, hfr, hgr⟩, hS.F ht⟩) hS.2.2 dX12_weightiest_10
