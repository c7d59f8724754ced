theorem dX12_clauseOf_0 : decode cX12_clauseOf 0 = .ok (.aload_n 0, 1) := by decide +kernel
theorem dX12_clauseOf_1 : decode cX12_clauseOf 1 = .ok (.invokevirtual 178, 3) := by decide +kernel
theorem dX12_clauseOf_4 : decode cX12_clauseOf 4 = .ok (.bipush 48, 2) := by decide +kernel
theorem dX12_clauseOf_6 : decode cX12_clauseOf 6 = .ok (.aload_n 0, 1) := by decide +kernel
theorem dX12_clauseOf_7 : decode cX12_clauseOf 7 = .ok (.getfield 191, 3) := by decide +kernel
theorem dX12_clauseOf_10 : decode cX12_clauseOf 10 = .ok (.imul, 1) := by decide +kernel
theorem dX12_clauseOf_11 : decode cX12_clauseOf 11 = .ok (.iconst 4, 1) := by decide +kernel
theorem dX12_clauseOf_12 : decode cX12_clauseOf 12 = .ok (.aload_n 0, 1) := by decide +kernel
theorem dX12_clauseOf_13 : decode cX12_clauseOf 13 = .ok (.getfield 29, 3) := by decide +kernel
theorem dX12_clauseOf_16 : decode cX12_clauseOf 16 = .ok (.aload_n 0, 1) := by decide +kernel
theorem dX12_clauseOf_17 : decode cX12_clauseOf 17 = .ok (.getfield 191, 3) := by decide +kernel
theorem dX12_clauseOf_20 : decode cX12_clauseOf 20 = .ok (.iaload, 1) := by decide +kernel
theorem dX12_clauseOf_21 : decode cX12_clauseOf 21 = .ok (.imul, 1) := by decide +kernel
theorem dX12_clauseOf_22 : decode cX12_clauseOf 22 = .ok (.iadd, 1) := by decide +kernel
theorem dX12_clauseOf_23 : decode cX12_clauseOf 23 = .ok (.istore_n 2, 1) := by decide +kernel
theorem dX12_clauseOf_24 : decode cX12_clauseOf 24 = .ok (.aload_n 0, 1) := by decide +kernel
theorem dX12_clauseOf_25 : decode cX12_clauseOf 25 = .ok (.getfield 26, 3) := by decide +kernel
theorem dX12_clauseOf_28 : decode cX12_clauseOf 28 = .ok (.iload_n 2, 1) := by decide +kernel
theorem dX12_clauseOf_29 : decode cX12_clauseOf 29 = .ok (.aload_n 0, 1) := by decide +kernel
theorem dX12_clauseOf_30 : decode cX12_clauseOf 30 = .ok (.getfield 23, 3) := by decide +kernel
theorem dX12_clauseOf_33 : decode cX12_clauseOf 33 = .ok (.aload_n 0, 1) := by decide +kernel
theorem dX12_clauseOf_34 : decode cX12_clauseOf 34 = .ok (.getfield 191, 3) := by decide +kernel
theorem dX12_clauseOf_37 : decode cX12_clauseOf 37 = .ok (.iaload, 1) := by decide +kernel
theorem dX12_clauseOf_38 : decode cX12_clauseOf 38 = .ok (.iastore, 1) := by decide +kernel
theorem dX12_clauseOf_39 : decode cX12_clauseOf 39 = .ok (.iload_n 1, 1) := by decide +kernel
theorem dX12_clauseOf_40 : decode cX12_clauseOf 40 = .ok (.ifCond .eq 12, 3) := by decide +kernel
theorem dX12_clauseOf_52 : decode cX12_clauseOf 52 = .ok (.aload_n 0, 1) := by decide +kernel
theorem dX12_clauseOf_53 : decode cX12_clauseOf 53 = .ok (.getfield 26, 3) := by decide +kernel
theorem dX12_clauseOf_56 : decode cX12_clauseOf 56 = .ok (.iload_n 2, 1) := by decide +kernel
theorem dX12_clauseOf_57 : decode cX12_clauseOf 57 = .ok (.iconst 1, 1) := by decide +kernel
theorem dX12_clauseOf_58 : decode cX12_clauseOf 58 = .ok (.iadd, 1) := by decide +kernel
theorem dX12_clauseOf_59 : decode cX12_clauseOf 59 = .ok (.aload_n 0, 1) := by decide +kernel
theorem dX12_clauseOf_60 : decode cX12_clauseOf 60 = .ok (.getfield 23, 3) := by decide +kernel
theorem dX12_clauseOf_63 : decode cX12_clauseOf 63 = .ok (.aload_n 0, 1) := by decide +kernel
theorem dX12_clauseOf_64 : decode cX12_clauseOf 64 = .ok (.getfield 191, 3) := by decide +kernel
theorem dX12_clauseOf_67 : decode cX12_clauseOf 67 = .ok (.iaload, 1) := by decide +kernel
theorem dX12_clauseOf_68 : decode cX12_clauseOf 68 = .ok (.iastore, 1) := by decide +kernel
theorem dX12_clauseOf_69 : decode cX12_clauseOf 69 = .ok (.aload_n 0, 1) := by decide +kernel
theorem dX12_clauseOf_70 : decode cX12_clauseOf 70 = .ok (.getfield 26, 3) := by decide +kernel
theorem dX12_clauseOf_73 : decode cX12_clauseOf 73 = .ok (.iload_n 2, 1) := by decide +kernel
theorem dX12_clauseOf_74 : decode cX12_clauseOf 74 = .ok (.iconst 2, 1) := by decide +kernel
theorem dX12_clauseOf_75 : decode cX12_clauseOf 75 = .ok (.iadd, 1) := by decide +kernel
theorem dX12_clauseOf_76 : decode cX12_clauseOf 76 = .ok (.iconst (-1), 1) := by decide +kernel
theorem dX12_clauseOf_77 : decode cX12_clauseOf 77 = .ok (.iastore, 1) := by decide +kernel
theorem dX12_clauseOf_78 : decode cX12_clauseOf 78 = .ok (.iload_n 1, 1) := by decide +kernel
theorem dX12_clauseOf_79 : decode cX12_clauseOf 79 = .ok (.ifCond .eq 13, 3) := by decide +kernel
theorem dX12_clauseOf_92 : decode cX12_clauseOf 92 = .ok (.aload_n 0, 1) := by decide +kernel
theorem dX12_clauseOf_93 : decode cX12_clauseOf 93 = .ok (.getfield 26, 3) := by decide +kernel
theorem dX12_clauseOf_96 : decode cX12_clauseOf 96 = .ok (.iload_n 2, 1) := by decide +kernel
theorem dX12_clauseOf_97 : decode cX12_clauseOf 97 = .ok (.iconst 2, 1) := by decide +kernel
theorem dX12_clauseOf_98 : decode cX12_clauseOf 98 = .ok (.iadd, 1) := by decide +kernel
theorem dX12_clauseOf_99 : decode cX12_clauseOf 99 = .ok (.aload_n 0, 1) := by decide +kernel
theorem dX12_clauseOf_100 : decode cX12_clauseOf 100 = .ok (.getfield 23, 3) := by decide +kernel
theorem dX12_clauseOf_103 : decode cX12_clauseOf 103 = .ok (.aload_n 0, 1) := by decide +kernel
theorem dX12_clauseOf_104 : decode cX12_clauseOf 104 = .ok (.getfield 191, 3) := by decide +kernel
theorem dX12_clauseOf_107 : decode cX12_clauseOf 107 = .ok (.iaload, 1) := by decide +kernel
theorem dX12_clauseOf_108 : decode cX12_clauseOf 108 = .ok (.iastore, 1) := by decide +kernel
theorem dX12_clauseOf_109 : decode cX12_clauseOf 109 = .ok (.aload_n 0, 1) := by decide +kernel
theorem dX12_clauseOf_110 : decode cX12_clauseOf 110 = .ok (.invokevirtual 281, 3) := by decide +kernel
theorem dX12_clauseOf_113 : decode cX12_clauseOf 113 = .ok (.ifCond .ne 5, 3) := by decide +kernel
theorem dX12_clauseOf_116 : decode cX12_clauseOf 116 = .ok (.iconst 0, 1) := by decide +kernel
theorem dX12_clauseOf_117 : decode cX12_clauseOf 117 = .ok (.ireturn, 1) := by decide +kernel
theorem dX12_clauseOf_118 : decode cX12_clauseOf 118 = .ok (.aload_n 0, 1) := by decide +kernel
theorem dX12_clauseOf_119 : decode cX12_clauseOf 119 = .ok (.getfield 26, 3) := by decide +kernel
theorem dX12_clauseOf_122 : decode cX12_clauseOf 122 = .ok (.iload_n 2, 1) := by decide +kernel
theorem dX12_clauseOf_123 : decode cX12_clauseOf 123 = .ok (.iconst 3, 1) := by decide +kernel
theorem dX12_clauseOf_124 : decode cX12_clauseOf 124 = .ok (.iadd, 1) := by decide +kernel
theorem dX12_clauseOf_125 : decode cX12_clauseOf 125 = .ok (.aload_n 0, 1) := by decide +kernel
theorem dX12_clauseOf_126 : decode cX12_clauseOf 126 = .ok (.getfield 23, 3) := by decide +kernel
theorem dX12_clauseOf_129 : decode cX12_clauseOf 129 = .ok (.aload_n 0, 1) := by decide +kernel
theorem dX12_clauseOf_130 : decode cX12_clauseOf 130 = .ok (.getfield 191, 3) := by decide +kernel
theorem dX12_clauseOf_133 : decode cX12_clauseOf 133 = .ok (.iaload, 1) := by decide +kernel
theorem dX12_clauseOf_134 : decode cX12_clauseOf 134 = .ok (.iastore, 1) := by decide +kernel
theorem dX12_clauseOf_135 : decode cX12_clauseOf 135 = .ok (.aload_n 0, 1) := by decide +kernel
theorem dX12_clauseOf_136 : decode cX12_clauseOf 136 = .ok (.getfield 29, 3) := by decide +kernel
theorem dX12_clauseOf_139 : decode cX12_clauseOf 139 = .ok (.aload_n 0, 1) := by decide +kernel
theorem dX12_clauseOf_140 : decode cX12_clauseOf 140 = .ok (.getfield 191, 3) := by decide +kernel
theorem dX12_clauseOf_143 : decode cX12_clauseOf 143 = .ok (.dup2, 1) := by decide +kernel
theorem dX12_clauseOf_144 : decode cX12_clauseOf 144 = .ok (.iaload, 1) := by decide +kernel
theorem dX12_clauseOf_145 : decode cX12_clauseOf 145 = .ok (.iconst 1, 1) := by decide +kernel
theorem dX12_clauseOf_146 : decode cX12_clauseOf 146 = .ok (.iadd, 1) := by decide +kernel
theorem dX12_clauseOf_147 : decode cX12_clauseOf 147 = .ok (.iastore, 1) := by decide +kernel
theorem dX12_clauseOf_148 : decode cX12_clauseOf 148 = .ok (.iconst 1, 1) := by decide +kernel
theorem dX12_clauseOf_149 : decode cX12_clauseOf 149 = .ok (.ireturn, 1) := by decide +kernel
theorem wk_653 : Cond.methodLink RX12 281 yX12_tested ∈ tl_L := List.mem_filter.mpr ⟨lw_m7 (i := 164) rfl, rfl⟩
theorem wk_654 : Cond.instanceMethod yX12_tested ∈ tl_L := List.mem_filter.mpr ⟨lw_m7 (i := 166) rfl, rfl⟩
theorem wk_655 : Cond.selects RX12 yX12_tested yX12_tested ∈ tl_L := List.mem_filter.mpr ⟨lw_s9 (i := 3) (q := (yX12_tested, 49)) rfl, rfl⟩
theorem wk_656 : Cond.code yX12_tested cX12_tested 3 (some .boolean) ∈ tl_L := List.mem_filter.mpr ⟨lw_m7 (i := 167) rfl, rfl⟩
theorem lk_X12_281 : tl_kV RX12 281 RX12 yX12_tested cX12_tested 3 (some .boolean) 0 := ⟨wk_656, wk_653, wk_654, wk_655, wk_5, ⟨by decide +kernel, by decide +kernel, by decide +kernel⟩⟩
set_option maxHeartbeats 4000000 in
set_option maxRecDepth 100000 in
theorem r_clauseOf_0 (l : Launch) (D : va_G) (cy : Nat → ClassId) (sz : Nat) (L : List Nat) (K : Nat → tk_K) (Γ : tk_G) (f : Nat → va_E) (o : Nat) (τ : Nat → Int) (T0 : Int) (t0 : Int) (ho : tp_r L K 39 (0) 0 o) (ht : Γ (41, 400, 0) = τ) (hT : Γ (39, 0, 0) 0 = T0) (hb0 : 0 ≤ Γ (39, 0, 0) 1 ∧ Γ (39, 0, 0) 1 ≤ T0 ∧ T0 ≤ 400) (h4 : Γ (39, 0, 0) 4 = t0 ∧ 0 ≤ t0 ∧ t0 ≤ 21) (hln : 0 ≤ Γ (44, 22, 0) t0.toNat ∧ Γ (44, 22, 0) t0.toNat ≤ Γ (39, 0, 0) 1) (h5 : 0 ≤ Γ (39, 0, 0) 5 ∧ Γ (39, 0, 0) 5 ≤ 60) (hC : 0 ≤ Γ (46, 22, 0) t0.toNat ∧ Γ (46, 22, 0) t0.toNat ≤ 11) (htc : tc (Γ (43, 8800, 0)) (Γ (45, 1056, 0)) (Γ (46, 22, 0)) t0 (Γ (44, 22, 0) t0.toNat)) (h6 : 6 ≤ t0 ∧ t0 ≤ 13) : Met l yX12_clauseOf (tl_w yX12_clauseOf cX12_clauseOf 3 (some .boolean)) ({ frames := 9, cells := 0, slots := 0, locals := 198 }) (va_Pc [.ref o, .int 0] (tp_P D cy L K Γ f sz)) (va_Qi (fun (r : Int32) (u : (Nat → va_E) × tk_G) => tl_J r (u.2 (46, 22, 0) = tgu (Γ (46, 22, 0)) t0.toNat (Γ (46, 22, 0) t0.toNat + 1) ∧ u.2 (44, 22, 0) t0.toNat ≤ u.2 (39, 0, 0) 1 ∧ (0 ≤ u.2 (39, 0, 0) 5 ∧ u.2 (39, 0, 0) 5 ≤ 60) ∧ tc (u.2 (43, 8800, 0)) (u.2 (45, 1056, 0)) (u.2 (46, 22, 0)) t0 (u.2 (44, 22, 0) t0.toNat)) ∧ u.2 (39, 0, 0) 0 = Γ (39, 0, 0) 0 ∧ u.2 (39, 0, 0) 4 = Γ (39, 0, 0) 4 ∧ u.2 (39, 0, 0) 7 = Γ (39, 0, 0) 7 ∧ Γ (39, 0, 0) 1 ≤ u.2 (39, 0, 0) 1 ∧ u.2 (39, 0, 0) 1 ≤ T0 ∧ fw (Γ (43, 8800, 0)) (u.2 (43, 8800, 0)) (Γ (44, 22, 0)) (u.2 (44, 22, 0)) t0 ∧ (∀ i : Nat, (i : Int) < 48 * t0 ∨ 48 * t0 + 48 ≤ i → u.2 (45, 1056, 0) i = Γ (45, 1056, 0) i) ∧ (∀ j : Nat, ¬ j = t0.toNat → u.2 (46, 22, 0) j = Γ (46, 22, 0) j) ∧ tc (u.2 (43, 8800, 0)) (u.2 (45, 1056, 0)) (u.2 (46, 22, 0)) t0 (400) ∧ (Γ (46, 22, 0) t0.toNat ≤ u.2 (46, 22, 0) t0.toNat ∧ u.2 (46, 22, 0) t0.toNat ≤ Γ (46, 22, 0) t0.toNat + 1)) (tp_BG D cy L K Γ f [39, 43, 44, 52, 45, 46]) (tp_A L sz)) 0 0 (tp_A L sz) := by
  refine Met.ofW (cc := cX12_clauseOf) (maxL := 3) (ret := (some .boolean)) (by decide) rfl ?_
  intro p e s m args below meth c s₁ B hml hv
  obtain ⟨rfl, hsz, hP, hK, hL, hI, hN, hU⟩ := hv
  have hx := B.exec
  have hb := B.bytes
  have hr := B.returns
  have hta := tl_hta (atoms_spec (ws := tl_w yX12_clauseOf cX12_clauseOf 3 (some .boolean)) B.pre)
  have hown : s.vm.findClass RX12 = some m.cls := findClass_of_methodNamed B.named
  have hlocks := B.notSynchronized
  subst hsz
  have hI0 := hI
  generalize hAe : tp_A L s.heap.size = A
  have hA : ∀ q : Nat, s.heap.size ≤ q → A q := fun q h => by rw [← hAe]; exact Or.inr h
  have hAL : ∀ q ∈ L, A q := fun q h => by rw [← hAe]; exact Or.inl h
  have hAf : ∀ (H : Heap), s.heap.size ≤ H.size → ∀ q, tp_A L H.size q → A q := fun H h q hq => hq.elim (hAL q) (fun h2 => hA q (Nat.le_trans h h2))
  have hS : va_S A s.heap s.heap [] := va_S.rf
  have hD : va_D A (va_pl L f) := tp_D hL hAL
  have hfr : ∀ b, (K b).1 ∉ ([39, 43, 44, 52, 45, 46] : List Nat) → f b = f b := fun _ _ => rfl
  have hgr : ∀ κ : tk_K, κ.1 ∉ ([39, 43, 44, 52, 45, 46] : List Nat) → Γ κ = Γ κ := fun _ _ => rfl
  have hl := lv_entry ([.ref o, .int 0]) (n := 3) (Nat.le_of_ble_eq_true rfl)
  rw [lg_entry_eq]
  generalize (lg_sl ([.ref o, .int 0]) ++ List.replicate (3 - (lg_sl ([.ref o, .int 0])).length) Slot.unset).toArray = ls at hl ⊢
  have hl : lv_has ls 3 [(0, .ref o), (1, .int 0)] := hl
  obtain ⟨B0, hBi⟩ : ∃ y : Nat, (y : Int) = 48 * t0 + 4 * Γ (46, 22, 0) t0.toNat := ⟨(48 * t0 + 4 * Γ (46, 22, 0) t0.toNat).toNat, by omega⟩
  obtain ⟨A0, hA0⟩ : ∃ y : Int, y = Γ (44, 22, 0) t0.toNat := ⟨_, rfl⟩
  obtain ⟨a, ha2⟩ : ∃ y : Nat, y = (400 * t0 + Γ (44, 22, 0) t0.toNat).toNat := ⟨_, rfl⟩
  obtain ⟨d, hd2⟩ : ∃ y : Int, y = 0 := ⟨_, rfl⟩
  have hz : fz (Γ (43, 8800, 0)) (Γ (43, 8800, 0)) (Γ (44, 22, 0)) (Γ (44, 22, 0)) t0 := fz.rfl
  have hfw : fw (Γ (43, 8800, 0)) (Γ (43, 8800, 0)) (Γ (44, 22, 0)) (Γ (44, 22, 0)) t0 := fw.same
  have hp : ps (Γ (43, 8800, 0)) t0 (Γ (44, 22, 0) t0.toNat) (Γ (39, 0, 0) 1) T0 (Γ (39, 0, 0) 5) a (d) := by rw [hd2]; exact ⟨by omega, by omega, by omega, by omega, by rw [show (400 * t0 + Γ (44, 22, 0) t0.toNat).toNat - a = 0 from by omega]; exact rp0⟩
  have hO_MCL : Γ (45, 1056, 0) = Γ (45, 1056, 0) := rfl
  have hO_MCLS : Γ (46, 22, 0) = Γ (46, 22, 0) := rfl
  refine lv_aload_n hx hb dX12_clauseOf_0 rfl (lv_at hl 0 rfl) ?_
  obtain ⟨r_2, v_3, q_4, hf_1, hr_5, hv_6⟩ := (show tp_o_M L K 0 0 (Γ (39, 0, 0)) (f o) from hI.at ho)
  refine tq_cvR hS (hAf _ hS.1) (tq_rV (As := []) (rest := []) ⟨hx, hb, hml, hown, hta⟩ (tp_P.pre hK hN hL hU hI hP) (tp_recv hK hP ho.1 hf_1 rfl) lk_X12_178 (r_X12_passWord l D cy s.heap.size L K Γ f o τ T0 ho ht (by first | omega | (simp only [Int32.toInt_toInt64]; omega) | decide | assumption) (by first | omega | (simp only [Int32.toInt_toInt64]; omega) | decide | assumption)) rfl rfl ⟨Nat.le_of_ble_eq_true rfl, Nat.le_of_ble_eq_true rfl⟩ rfl hl.1 rfl (Nat.le_of_ble_eq_true rfl) dX12_clauseOf_1 ⟨Nat.le_of_ble_eq_true rfl, Nat.le_of_ble_eq_true rfl⟩) (fun f_17 Γ_19 H locs hw_15 hP hI hc_18 hcg_20 hS => ?_)
  have hD : va_D A (va_pl L f_17) := tp_D hL hAL
  have hfr := tp_fr2 hfr hc_18 (by decide)
  have hgr : ∀ κ : tk_K, κ.1 ∉ ([39, 43, 44, 52, 45, 46] : List Nat) → Γ_19 κ = Γ κ := tg_fr2 hgr hcg_20 (by decide)
  have wy_19_MLEN : Γ_19 (44, 22, 0) t0.toNat = Γ (44, 22, 0) t0.toNat := congrFun (hcg_20 (44, 22, 0) (by decide)) _
  have wy_19_MCLS : Γ_19 (46, 22, 0) t0.toNat = Γ (46, 22, 0) t0.toNat := congrFun (hcg_20 (46, 22, 0) (by decide)) _
  have hw_15 : Γ_19 (39, 0, 0) 0 = Γ (39, 0, 0) 0 ∧ Γ_19 (39, 0, 0) 3 = Γ (39, 0, 0) 3 ∧ Γ_19 (39, 0, 0) 4 = Γ (39, 0, 0) 4 ∧ Γ_19 (39, 0, 0) 5 = Γ (39, 0, 0) 5 ∧ Γ_19 (39, 0, 0) 6 = Γ (39, 0, 0) 6 ∧ Γ_19 (39, 0, 0) 7 = Γ (39, 0, 0) 7 ∧ Γ_19 (39, 0, 0) 8 = Γ (39, 0, 0) 8 ∧ Γ (39, 0, 0) 1 ≤ Γ_19 (39, 0, 0) 1 ∧ Γ_19 (39, 0, 0) 1 ≤ T0 ∧ (tr_L τ T0 (Γ (39, 0, 0) 1) → Γ (39, 0, 0) 1 + 1 ≤ Γ_19 (39, 0, 0) 1) := hw_15
  have hO_MCL : Γ_19 (45, 1056, 0) = Γ (45, 1056, 0) := (hcg_20 (45, 1056, 0) (by decide)).trans hO_MCL
  have hO_MCLS : Γ_19 (46, 22, 0) = Γ (46, 22, 0) := (hcg_20 (46, 22, 0) (by decide)).trans hO_MCLS
  obtain ⟨hpa, hpb, hpc, hpd, _⟩ := id hp
  have hle := congrFun (hcg_20 (44, 22, 0) (by decide)) t0.toNat
  have hp : ps (Γ_19 (43, 8800, 0)) t0 (Γ_19 (44, 22, 0) t0.toNat) (Γ_19 (39, 0, 0) 1) T0 (Γ_19 (39, 0, 0) 5) a (d) := hp.eq (hcg_20 (43, 8800, 0) (by decide)) rfl (congrFun (hcg_20 (44, 22, 0) (by decide)) _) (by omega) rfl (by omega)
  have hz : fz (Γ (43, 8800, 0)) (Γ_19 (43, 8800, 0)) (Γ (44, 22, 0)) (Γ_19 (44, 22, 0)) t0 := by rw [(hcg_20 (43, 8800, 0) (by decide)), (hcg_20 (44, 22, 0) (by decide))]; exact hz
  have hfw : fw (Γ (43, 8800, 0)) (Γ_19 (43, 8800, 0)) (Γ (44, 22, 0)) (Γ_19 (44, 22, 0)) t0 := by rw [(hcg_20 (43, 8800, 0) (by decide)), (hcg_20 (44, 22, 0) (by decide))]; exact hfw
  refine lv_bipush (v := 48) hx hb dX12_clauseOf_4 (by decide) ?_
  refine lv_aload_n hx hb dX12_clauseOf_6 rfl (lv_at hl 0 rfl) ?_
  obtain ⟨r_22, v_23, q_24, hf_21, hr_25, hv_26⟩ := (show tp_o_M L K 0 0 (Γ_19 (39, 0, 0)) (f_17 o) from hI.at ho)
  have hx_27 : (v_23 0).toInt = Γ_19 (39, 0, 0) 0 := hv_26 0 (by decide)
  have hx_28 : (v_23 1).toInt = Γ_19 (39, 0, 0) 1 := hv_26 1 (by decide)
  have hx_29 : (v_23 3).toInt = Γ_19 (39, 0, 0) 3 := hv_26 3 (by decide)
  have hx_30 : (v_23 4).toInt = Γ_19 (39, 0, 0) 4 := hv_26 4 (by decide)
  have hx_31 : (v_23 5).toInt = Γ_19 (39, 0, 0) 5 := hv_26 5 (by decide)
  have hx_32 : (v_23 6).toInt = Γ_19 (39, 0, 0) 6 := hv_26 6 (by decide)
  have hx_33 : (v_23 7).toInt = Γ_19 (39, 0, 0) 7 := hv_26 7 (by decide)
  have hx_34 : (v_23 8).toInt = Γ_19 (39, 0, 0) 8 := hv_26 8 (by decide)
  refine tp_get (cy := cy) (ci := 12) (v := .int (v_23 4)) (C := RX12) (T := TX12) (N := 49) hx hb hta inlX12 hown hK hP ho.1 hf_21 rfl 20 (by decide) (hta _ wk_537) (fun _ h9 => h9) rfl dX12_clauseOf_7 ?_
  refine lv_imul hx hb dX12_clauseOf_10 ?_
  refine lv_topi (fun z_35 ez_35 => ?_)
  try have iz_35 : z_35.toInt = (48 : Int) * (v_23 4).toInt := by rw [ez_35]; exact tl_mulN 48 (v_23 4) rfl rfl (by omega) (by omega)
  refine lv_iconst (v := 4) hx hb dX12_clauseOf_11 (by decide) ?_
  refine lv_aload_n hx hb dX12_clauseOf_12 rfl (lv_at hl 0 rfl) ?_
  refine tp_get (cy := cy) (ci := 12) (v := .ref (r_22 6)) (C := RX12) (T := TX12) (N := 49) hx hb hta inlX12 hown hK hP ho.1 hf_21 rfl 7 (by decide) (hta _ wk_156) (fun _ h9 => h9) rfl dX12_clauseOf_13 ?_
  refine lv_aload_n hx hb dX12_clauseOf_16 rfl (lv_at hl 0 rfl) ?_
  refine tp_get (cy := cy) (ci := 12) (v := .int (v_23 4)) (C := RX12) (T := TX12) (N := 49) hx hb hta inlX12 hown hK hP ho.1 hf_21 rfl 20 (by decide) (hta _ wk_537) (fun _ h9 => h9) rfl dX12_clauseOf_17 ?_
  obtain ⟨g_37, hf_36, hg_38⟩ := (show tp_gi cy (22) (Γ_19 (46, 22, 0)) (f_17 (r_22 6)) from hI.at (show tp_r L K 46 22 0 (r_22 6) from hr_25 6 (by decide)))
  have hn_39 : vp_in (v_23 4) (22) := tl_in (by omega) (by omega)
  refine tp_iald (cy := cy) hx hb hK hP (show tp_r L K 46 22 0 (r_22 6) from hr_25 6 (by decide)).1 hf_36 hn_39 dX12_clauseOf_20 ?_
  refine lv_topi (fun z_40 ez_40 => ?_)
  have iz_40 : z_40.toInt = Γ_19 (46, 22, 0) (v_23 4).toInt.toNat := by rw [ez_40]; exact hg_38 _ (tp_pin hn_39)
  have jz_40 : z_40.toInt = Γ_19 (46, 22, 0) t0.toNat := by rw [show t0 = (v_23 4).toInt from by omega]; exact iz_40
  refine lv_imul hx hb dX12_clauseOf_21 ?_
  refine lv_topi (fun z_41 ez_41 => ?_)
  try have iz_41 : z_41.toInt = (4 : Int) * z_40.toInt := by rw [ez_41]; exact tl_mulN 4 z_40 rfl rfl (by omega) (by omega)
  refine lv_iadd hx hb dX12_clauseOf_22 ?_
  refine lv_topi (fun z_42 ez_42 => ?_)
  try have iz_42 : z_42.toInt = z_35.toInt + z_41.toInt := by rw [ez_42]; exact tl_addN z_35 z_41 rfl rfl (by omega) (by omega)
  refine lv_istore_n (lv' := [(2, .int z_42), (0, .ref o), (1, .int 0)]) hx hb dX12_clauseOf_23 rfl hl (by decide) rfl (fun ls hl => ?_)
  refine lv_aload_n hx hb dX12_clauseOf_24 rfl (lv_at hl 1 rfl) ?_
  refine tp_get (cy := cy) (ci := 12) (v := .ref (r_22 5)) (C := RX12) (T := TX12) (N := 49) hx hb hta inlX12 hown hK hP ho.1 hf_21 rfl 6 (by decide) (hta _ wk_155) (fun _ h9 => h9) rfl dX12_clauseOf_25 ?_
  refine lv_iload_n hx hb dX12_clauseOf_28 rfl (lv_at hl 0 rfl) ?_
  refine lv_aload_n hx hb dX12_clauseOf_29 rfl (lv_at hl 1 rfl) ?_
  refine tp_get (cy := cy) (ci := 12) (v := .ref (r_22 4)) (C := RX12) (T := TX12) (N := 49) hx hb hta inlX12 hown hK hP ho.1 hf_21 rfl 5 (by decide) (hta _ wk_154) (fun _ h9 => h9) rfl dX12_clauseOf_30 ?_
  refine lv_aload_n hx hb dX12_clauseOf_33 rfl (lv_at hl 1 rfl) ?_
  refine tp_get (cy := cy) (ci := 12) (v := .int (v_23 4)) (C := RX12) (T := TX12) (N := 49) hx hb hta inlX12 hown hK hP ho.1 hf_21 rfl 20 (by decide) (hta _ wk_537) (fun _ h9 => h9) rfl dX12_clauseOf_34 ?_
  obtain ⟨g_44, hf_43, hg_45⟩ := (show tp_gi cy (22) (Γ_19 (44, 22, 0)) (f_17 (r_22 4)) from hI.at (show tp_r L K 44 22 0 (r_22 4) from hr_25 4 (by decide)))
  have hn_46 : vp_in (v_23 4) (22) := tl_in (by omega) (by omega)
  refine tp_iald (cy := cy) hx hb hK hP (show tp_r L K 44 22 0 (r_22 4) from hr_25 4 (by decide)).1 hf_43 hn_46 dX12_clauseOf_37 ?_
  refine lv_topi (fun z_47 ez_47 => ?_)
  have iz_47 : z_47.toInt = Γ_19 (44, 22, 0) (v_23 4).toInt.toNat := by rw [ez_47]; exact hg_45 _ (tp_pin hn_46)
  have jz_47 : z_47.toInt = Γ_19 (44, 22, 0) t0.toNat := by rw [show t0 = (v_23 4).toInt from by omega]; exact iz_47
  obtain ⟨g_49, hf_48, hg_50⟩ := (show tp_gi cy (1056) (Γ_19 (45, 1056, 0)) (f_17 (r_22 5)) from hI.at (show tp_r L K 45 1056 0 (r_22 5) from hr_25 5 (by decide)))
  have hn_51 : vp_in z_42 (1056) := tl_in (by omega) (by omega)
  have hj_52 : z_42.toNatClampNeg = (B0 + 0) := by show z_42.toInt.toNat = _; omega
  have hv_53 : z_47.toInt = A0 := by omega
  obtain ⟨Γ_54, eΓ_54⟩ : ∃ y : tk_G, y = tg Γ_19 (45, 1056, 0) (B0 + 0) A0 := ⟨_, rfl⟩
  have hI9 : tp_I cy L K Γ_54 (va_up f_17 (r_22 5) (.inl (cy 0, 1056, .inl (upd g_49 z_42.toNatClampNeg z_47)))) := by have q9 : tg Γ_19 (45, 1056, 0) (B0 + 0) A0 = tg Γ_19 (45, 1056, 0) z_42.toNatClampNeg z_47.toInt := (by rw [hj_52, hv_53]); rw [eΓ_54, q9]; exact hI.setg hU rfl (show tp_r L K 45 1056 0 (r_22 5) from hr_25 5 (by decide)) (show tp_gi cy (1056) (tgu (Γ_19 (45, 1056, 0)) _ _) _ from ⟨_, rfl, tp_gi_upd hg_50⟩)
  have hfr9 : ∀ b, (K b).1 ∉ ([39, 43, 44, 52, 45, 46] : List Nat) → va_up f_17 (r_22 5) (.inl (cy 0, 1056, .inl (upd g_49 z_42.toNatClampNeg z_47))) b = f b := tp_fr hfr (show tp_r L K 45 1056 0 (r_22 5) from hr_25 5 (by decide)) (by decide)
  refine tp_iast (cy := cy) hx hb hK hP hD hS (show tp_r L K 45 1056 0 (r_22 5) from hr_25 5 (by decide)).1 hf_48 hn_51 dX12_clauseOf_38 (fun H locs hP hD hS => ?_)
  have hP : va_P D vwCl (va_pl L (va_up f_17 (r_22 5) (.inl (cy 0, 1056, .inl (upd g_49 z_42.toNatClampNeg z_47))))) H := hP
  generalize hfe : va_up f_17 (r_22 5) (.inl (cy 0, 1056, .inl (upd g_49 z_42.toNatClampNeg z_47))) = f_55 at hP hI9 hfr9
  have hD : va_D A (va_pl L f_55) := tp_D hL hAL
  have hf_56 := (show f_55 o = _ from by rw [← hfe, va_up_ne _ _ (tp_ne ho (show tp_r L K 45 1056 0 (r_22 5) from hr_25 5 (by decide)) (by decide))]).trans hf_21
  have hf_57 := (show f_55 (r_22 6) = _ from by rw [← hfe, va_up_ne _ _ (tp_ne (show tp_r L K 46 22 0 (r_22 6) from hr_25 6 (by decide)) (show tp_r L K 45 1056 0 (r_22 5) from hr_25 5 (by decide)) (by decide))]).trans hf_36
  have hf_58 := (show f_55 (r_22 4) = _ from by rw [← hfe, va_up_ne _ _ (tp_ne (show tp_r L K 44 22 0 (r_22 4) from hr_25 4 (by decide)) (show tp_r L K 45 1056 0 (r_22 5) from hr_25 5 (by decide)) (by decide))]).trans hf_43
  have hf_59 : f_55 (r_22 5) = .inl (cy 0, 1056, .inl (upd g_49 z_42.toNatClampNeg z_47)) := by rw [← hfe]; exact va_up_self _ _ _
  clear hfe
  have hI := hI9
  have hfr := hfr9
  clear hI9 hfr9
  clear hj_52 hv_53
  have wxΓ_54_MLEN : Γ_54 (44, 22, 0) t0.toNat = Γ_19 (44, 22, 0) t0.toNat := by rw [eΓ_54, tg_r (by decide)]
  have wxΓ_54_MCLS : Γ_54 (46, 22, 0) t0.toNat = Γ_19 (46, 22, 0) t0.toNat := by rw [eΓ_54, tg_r (by decide)]
  have wsΓ_54 : Γ_54 (45, 1056, 0) (B0 + 0) = A0 := by rw [eΓ_54]; exact tg_s
  have hgr : ∀ κ : tk_K, κ.1 ∉ ([39, 43, 44, 52, 45, 46] : List Nat) → Γ_54 κ = Γ κ := tg_fr hgr eΓ_54 (by decide)
  have hv_60 : ∀ i : Nat, i < 16 → (v_23 i).toInt = Γ_54 (39, 0, 0) i := fun i hi => by rw [eΓ_54, tg_r (by decide)]; exact hv_26 i hi
  have hx_61 : (v_23 0).toInt = Γ_54 (39, 0, 0) 0 := hv_60 0 (by decide)
  have hx_62 : (v_23 1).toInt = Γ_54 (39, 0, 0) 1 := hv_60 1 (by decide)
  have hx_63 : (v_23 3).toInt = Γ_54 (39, 0, 0) 3 := hv_60 3 (by decide)
  have hx_64 : (v_23 4).toInt = Γ_54 (39, 0, 0) 4 := hv_60 4 (by decide)
  have hx_65 : (v_23 5).toInt = Γ_54 (39, 0, 0) 5 := hv_60 5 (by decide)
  have hx_66 : (v_23 6).toInt = Γ_54 (39, 0, 0) 6 := hv_60 6 (by decide)
  have hx_67 : (v_23 7).toInt = Γ_54 (39, 0, 0) 7 := hv_60 7 (by decide)
  have hx_68 : (v_23 8).toInt = Γ_54 (39, 0, 0) 8 := hv_60 8 (by decide)
  have hg_69 : ∀ j : Nat, j < 22 → (g_37 j).toInt = Γ_54 (46, 22, 0) j := fun j hj => by rw [eΓ_54, tg_r (by decide)]; exact hg_38 j hj
  have hg_70 : ∀ j : Nat, j < 22 → (g_44 j).toInt = Γ_54 (44, 22, 0) j := fun j hj => by rw [eΓ_54, tg_r (by decide)]; exact hg_45 j hj
  have hO_MCL : Γ_54 (45, 1056, 0) = tgu (Γ (45, 1056, 0)) (B0 + 0) (A0) := by rw [eΓ_54, tg_f, hO_MCL]
  have hO_MCLS : Γ_54 (46, 22, 0) = Γ (46, 22, 0) := by rw [eΓ_54, tg_rf (by decide)]; exact hO_MCLS
  obtain ⟨hpa, hpb, hpc, hpd, _⟩ := id hp
  have hle := congrFun (show Γ_54 (44, 22, 0) = _ from by rw [eΓ_54, tg_rf (by decide)]) t0.toNat
  have hp : ps (Γ_54 (43, 8800, 0)) t0 (Γ_54 (44, 22, 0) t0.toNat) (Γ_54 (39, 0, 0) 1) T0 (Γ_54 (39, 0, 0) 5) a (d) := hp.eq (show Γ_54 (43, 8800, 0) = _ from by rw [eΓ_54, tg_rf (by decide)]) rfl (congrFun (show Γ_54 (44, 22, 0) = _ from by rw [eΓ_54, tg_rf (by decide)]) _) (by omega) rfl (by omega)
  have hz : fz (Γ (43, 8800, 0)) (Γ_54 (43, 8800, 0)) (Γ (44, 22, 0)) (Γ_54 (44, 22, 0)) t0 := by rw [(show Γ_54 (43, 8800, 0) = _ from by rw [eΓ_54, tg_rf (by decide)]), (show Γ_54 (44, 22, 0) = _ from by rw [eΓ_54, tg_rf (by decide)])]; exact hz
  have hfw : fw (Γ (43, 8800, 0)) (Γ_54 (43, 8800, 0)) (Γ (44, 22, 0)) (Γ_54 (44, 22, 0)) t0 := by rw [(show Γ_54 (43, 8800, 0) = _ from by rw [eΓ_54, tg_rf (by decide)]), (show Γ_54 (44, 22, 0) = _ from by rw [eΓ_54, tg_rf (by decide)])]; exact hfw
  refine lv_iload_n hx hb dX12_clauseOf_39 rfl (lv_at hl 2 rfl) ?_
  refine lv_if_eq (tgt := 52) hx hb dX12_clauseOf_40 (by decide) (fun _ => ?_) (fun c => absurd c (by decide))
  obtain ⟨_, hL1, hM1, _, hrpS⟩ := id hp
  obtain ⟨A1, hA1⟩ : ∃ y : Int, y = Γ_54 (44, 22, 0) t0.toNat := ⟨_, rfl⟩
  have hl01 : A0 ≤ A1 := by have q9 := hz.2.1; omega
  have hO_SIGN : Γ_54 (43, 8800, 0) = Γ_54 (43, 8800, 0) := rfl
  refine lv_aload_n hx hb dX12_clauseOf_52 rfl (lv_at hl 1 rfl) ?_
  refine tp_get (cy := cy) (ci := 12) (v := .ref (r_22 5)) (C := RX12) (T := TX12) (N := 49) hx hb hta inlX12 hown hK hP ho.1 hf_56 rfl 6 (by decide) (hta _ wk_155) (fun _ h9 => h9) rfl dX12_clauseOf_53 ?_
  refine lv_iload_n hx hb dX12_clauseOf_56 rfl (lv_at hl 0 rfl) ?_
  refine lv_iconst (v := 1) hx hb dX12_clauseOf_57 (by decide) ?_
  refine lv_iadd hx hb dX12_clauseOf_58 ?_
  refine lv_topi (fun z_71 ez_71 => ?_)
  try have iz_71 : z_71.toInt = z_42.toInt + (1 : Int) := by rw [ez_71]; exact tl_addN z_42 1 rfl rfl (by omega) (by omega)
  refine lv_aload_n hx hb dX12_clauseOf_59 rfl (lv_at hl 1 rfl) ?_
  refine tp_get (cy := cy) (ci := 12) (v := .ref (r_22 4)) (C := RX12) (T := TX12) (N := 49) hx hb hta inlX12 hown hK hP ho.1 hf_56 rfl 5 (by decide) (hta _ wk_154) (fun _ h9 => h9) rfl dX12_clauseOf_60 ?_
  refine lv_aload_n hx hb dX12_clauseOf_63 rfl (lv_at hl 1 rfl) ?_
  refine tp_get (cy := cy) (ci := 12) (v := .int (v_23 4)) (C := RX12) (T := TX12) (N := 49) hx hb hta inlX12 hown hK hP ho.1 hf_56 rfl 20 (by decide) (hta _ wk_537) (fun _ h9 => h9) rfl dX12_clauseOf_64 ?_
  have hn_72 : vp_in (v_23 4) (22) := tl_in (by omega) (by omega)
  refine tp_iald (cy := cy) hx hb hK hP (show tp_r L K 44 22 0 (r_22 4) from hr_25 4 (by decide)).1 hf_58 hn_72 dX12_clauseOf_67 ?_
  refine lv_topi (fun z_73 ez_73 => ?_)
  obtain rfl : z_47 = z_73 := ez_47.trans ez_73.symm
  obtain ⟨g_75, hf_74, hg_76⟩ := (show tp_gi cy (1056) (Γ_54 (45, 1056, 0)) (f_55 (r_22 5)) from hI.at (show tp_r L K 45 1056 0 (r_22 5) from hr_25 5 (by decide)))
  have hn_77 : vp_in z_71 (1056) := tl_in (by omega) (by omega)
  have hj_78 : z_71.toNatClampNeg = (B0 + 1) := by show z_71.toInt.toNat = _; omega
  have hv_79 : z_47.toInt = A1 := by omega
  obtain ⟨Γ_80, eΓ_80⟩ : ∃ y : tk_G, y = tg Γ_54 (45, 1056, 0) (B0 + 1) A1 := ⟨_, rfl⟩
  have hI9 : tp_I cy L K Γ_80 (va_up f_55 (r_22 5) (.inl (cy 0, 1056, .inl (upd g_75 z_71.toNatClampNeg z_47)))) := by have q9 : tg Γ_54 (45, 1056, 0) (B0 + 1) A1 = tg Γ_54 (45, 1056, 0) z_71.toNatClampNeg z_47.toInt := (by rw [hj_78, hv_79]); rw [eΓ_80, q9]; exact hI.setg hU rfl (show tp_r L K 45 1056 0 (r_22 5) from hr_25 5 (by decide)) (show tp_gi cy (1056) (tgu (Γ_54 (45, 1056, 0)) _ _) _ from ⟨_, rfl, tp_gi_upd hg_76⟩)
  have hfr9 : ∀ b, (K b).1 ∉ ([39, 43, 44, 52, 45, 46] : List Nat) → va_up f_55 (r_22 5) (.inl (cy 0, 1056, .inl (upd g_75 z_71.toNatClampNeg z_47))) b = f b := tp_fr hfr (show tp_r L K 45 1056 0 (r_22 5) from hr_25 5 (by decide)) (by decide)
  refine tp_iast (cy := cy) hx hb hK hP hD hS (show tp_r L K 45 1056 0 (r_22 5) from hr_25 5 (by decide)).1 hf_74 hn_77 dX12_clauseOf_68 (fun H locs hP hD hS => ?_)
  have hP : va_P D vwCl (va_pl L (va_up f_55 (r_22 5) (.inl (cy 0, 1056, .inl (upd g_75 z_71.toNatClampNeg z_47))))) H := hP
  generalize hfe : va_up f_55 (r_22 5) (.inl (cy 0, 1056, .inl (upd g_75 z_71.toNatClampNeg z_47))) = f_81 at hP hI9 hfr9
  have hD : va_D A (va_pl L f_81) := tp_D hL hAL
  have hf_82 := (show f_81 o = _ from by rw [← hfe, va_up_ne _ _ (tp_ne ho (show tp_r L K 45 1056 0 (r_22 5) from hr_25 5 (by decide)) (by decide))]).trans hf_56
  have hf_83 := (show f_81 (r_22 6) = _ from by rw [← hfe, va_up_ne _ _ (tp_ne (show tp_r L K 46 22 0 (r_22 6) from hr_25 6 (by decide)) (show tp_r L K 45 1056 0 (r_22 5) from hr_25 5 (by decide)) (by decide))]).trans hf_57
  have hf_84 := (show f_81 (r_22 4) = _ from by rw [← hfe, va_up_ne _ _ (tp_ne (show tp_r L K 44 22 0 (r_22 4) from hr_25 4 (by decide)) (show tp_r L K 45 1056 0 (r_22 5) from hr_25 5 (by decide)) (by decide))]).trans hf_58
  have hf_85 : f_81 (r_22 5) = .inl (cy 0, 1056, .inl (upd g_75 z_71.toNatClampNeg z_47)) := by rw [← hfe]; exact va_up_self _ _ _
  clear hfe
  have hI := hI9
  have hfr := hfr9
  clear hI9 hfr9
  clear hj_78 hv_79
  have wxΓ_80_MLEN : Γ_80 (44, 22, 0) t0.toNat = Γ_54 (44, 22, 0) t0.toNat := by rw [eΓ_80, tg_r (by decide)]
  have wxΓ_80_MCLS : Γ_80 (46, 22, 0) t0.toNat = Γ_54 (46, 22, 0) t0.toNat := by rw [eΓ_80, tg_r (by decide)]
  have wsΓ_80 : Γ_80 (45, 1056, 0) (B0 + 1) = A1 := by rw [eΓ_80]; exact tg_s
  have hgr : ∀ κ : tk_K, κ.1 ∉ ([39, 43, 44, 52, 45, 46] : List Nat) → Γ_80 κ = Γ κ := tg_fr hgr eΓ_80 (by decide)
  have hv_86 : ∀ i : Nat, i < 16 → (v_23 i).toInt = Γ_80 (39, 0, 0) i := fun i hi => by rw [eΓ_80, tg_r (by decide)]; exact hv_60 i hi
  have hx_87 : (v_23 0).toInt = Γ_80 (39, 0, 0) 0 := hv_86 0 (by decide)
  have hx_88 : (v_23 1).toInt = Γ_80 (39, 0, 0) 1 := hv_86 1 (by decide)
  have hx_89 : (v_23 3).toInt = Γ_80 (39, 0, 0) 3 := hv_86 3 (by decide)
  have hx_90 : (v_23 4).toInt = Γ_80 (39, 0, 0) 4 := hv_86 4 (by decide)
  have hx_91 : (v_23 5).toInt = Γ_80 (39, 0, 0) 5 := hv_86 5 (by decide)
  have hx_92 : (v_23 6).toInt = Γ_80 (39, 0, 0) 6 := hv_86 6 (by decide)
  have hx_93 : (v_23 7).toInt = Γ_80 (39, 0, 0) 7 := hv_86 7 (by decide)
  have hx_94 : (v_23 8).toInt = Γ_80 (39, 0, 0) 8 := hv_86 8 (by decide)
  have hg_95 : ∀ j : Nat, j < 22 → (g_37 j).toInt = Γ_80 (46, 22, 0) j := fun j hj => by rw [eΓ_80, tg_r (by decide)]; exact hg_69 j hj
  have hg_96 : ∀ j : Nat, j < 22 → (g_44 j).toInt = Γ_80 (44, 22, 0) j := fun j hj => by rw [eΓ_80, tg_r (by decide)]; exact hg_70 j hj
  have hO_MCL : Γ_80 (45, 1056, 0) = tgu (tgu (Γ (45, 1056, 0)) (B0 + 0) (A0)) (B0 + 1) (A1) := by rw [eΓ_80, tg_f, hO_MCL]
  have hO_MCLS : Γ_80 (46, 22, 0) = Γ (46, 22, 0) := by rw [eΓ_80, tg_rf (by decide)]; exact hO_MCLS
  have hO_SIGN : Γ_80 (43, 8800, 0) = Γ_54 (43, 8800, 0) := by rw [eΓ_80, tg_rf (by decide)]
  obtain ⟨hpa, hpb, hpc, hpd, _⟩ := id hp
  have hle := congrFun (show Γ_80 (44, 22, 0) = _ from by rw [eΓ_80, tg_rf (by decide)]) t0.toNat
  have hp : ps (Γ_80 (43, 8800, 0)) t0 (Γ_80 (44, 22, 0) t0.toNat) (Γ_80 (39, 0, 0) 1) T0 (Γ_80 (39, 0, 0) 5) a (d) := hp.eq (show Γ_80 (43, 8800, 0) = _ from by rw [eΓ_80, tg_rf (by decide)]) rfl (congrFun (show Γ_80 (44, 22, 0) = _ from by rw [eΓ_80, tg_rf (by decide)]) _) (by omega) rfl (by omega)
  have hz : fz (Γ (43, 8800, 0)) (Γ_80 (43, 8800, 0)) (Γ (44, 22, 0)) (Γ_80 (44, 22, 0)) t0 := by rw [(show Γ_80 (43, 8800, 0) = _ from by rw [eΓ_80, tg_rf (by decide)]), (show Γ_80 (44, 22, 0) = _ from by rw [eΓ_80, tg_rf (by decide)])]; exact hz
  have hfw : fw (Γ (43, 8800, 0)) (Γ_80 (43, 8800, 0)) (Γ (44, 22, 0)) (Γ_80 (44, 22, 0)) t0 := by rw [(show Γ_80 (43, 8800, 0) = _ from by rw [eΓ_80, tg_rf (by decide)]), (show Γ_80 (44, 22, 0) = _ from by rw [eΓ_80, tg_rf (by decide)])]; exact hfw
  refine lv_aload_n hx hb dX12_clauseOf_69 rfl (lv_at hl 1 rfl) ?_
  refine tp_get (cy := cy) (ci := 12) (v := .ref (r_22 5)) (C := RX12) (T := TX12) (N := 49) hx hb hta inlX12 hown hK hP ho.1 hf_82 rfl 6 (by decide) (hta _ wk_155) (fun _ h9 => h9) rfl dX12_clauseOf_70 ?_
  refine lv_iload_n hx hb dX12_clauseOf_73 rfl (lv_at hl 0 rfl) ?_
  refine lv_iconst (v := 2) hx hb dX12_clauseOf_74 (by decide) ?_
  refine lv_iadd hx hb dX12_clauseOf_75 ?_
  refine lv_topi (fun z_97 ez_97 => ?_)
  try have iz_97 : z_97.toInt = z_42.toInt + (2 : Int) := by rw [ez_97]; exact tl_addN z_42 2 rfl rfl (by omega) (by omega)
  refine lv_iconst (v := (-1)) hx hb dX12_clauseOf_76 (by decide) ?_
  obtain ⟨g_99, hf_98, hg_100⟩ := (show tp_gi cy (1056) (Γ_80 (45, 1056, 0)) (f_81 (r_22 5)) from hI.at (show tp_r L K 45 1056 0 (r_22 5) from hr_25 5 (by decide)))
  have hn_101 : vp_in z_97 (1056) := tl_in (by omega) (by omega)
  have hj_102 : z_97.toNatClampNeg = (B0 + 2) := by show z_97.toInt.toNat = _; omega
  have hv_103 : ((-1) : Int32).toInt = (-1 : Int) := by decide
  obtain ⟨Γ_104, eΓ_104⟩ : ∃ y : tk_G, y = tg Γ_80 (45, 1056, 0) (B0 + 2) (-1 : Int) := ⟨_, rfl⟩
  have hI9 : tp_I cy L K Γ_104 (va_up f_81 (r_22 5) (.inl (cy 0, 1056, .inl (upd g_99 z_97.toNatClampNeg (-1))))) := by have q9 : tg Γ_80 (45, 1056, 0) (B0 + 2) (-1 : Int) = tg Γ_80 (45, 1056, 0) z_97.toNatClampNeg ((-1) : Int32).toInt := (by rw [hj_102, hv_103]); rw [eΓ_104, q9]; exact hI.setg hU rfl (show tp_r L K 45 1056 0 (r_22 5) from hr_25 5 (by decide)) (show tp_gi cy (1056) (tgu (Γ_80 (45, 1056, 0)) _ _) _ from ⟨_, rfl, tp_gi_upd hg_100⟩)
  have hfr9 : ∀ b, (K b).1 ∉ ([39, 43, 44, 52, 45, 46] : List Nat) → va_up f_81 (r_22 5) (.inl (cy 0, 1056, .inl (upd g_99 z_97.toNatClampNeg (-1)))) b = f b := tp_fr hfr (show tp_r L K 45 1056 0 (r_22 5) from hr_25 5 (by decide)) (by decide)
  refine tp_iast (cy := cy) hx hb hK hP hD hS (show tp_r L K 45 1056 0 (r_22 5) from hr_25 5 (by decide)).1 hf_98 hn_101 dX12_clauseOf_77 (fun H locs hP hD hS => ?_)
  have hP : va_P D vwCl (va_pl L (va_up f_81 (r_22 5) (.inl (cy 0, 1056, .inl (upd g_99 z_97.toNatClampNeg (-1)))))) H := hP
  generalize hfe : va_up f_81 (r_22 5) (.inl (cy 0, 1056, .inl (upd g_99 z_97.toNatClampNeg (-1)))) = f_105 at hP hI9 hfr9
  have hD : va_D A (va_pl L f_105) := tp_D hL hAL
  have hf_106 := (show f_105 o = _ from by rw [← hfe, va_up_ne _ _ (tp_ne ho (show tp_r L K 45 1056 0 (r_22 5) from hr_25 5 (by decide)) (by decide))]).trans hf_82
  have hf_107 := (show f_105 (r_22 6) = _ from by rw [← hfe, va_up_ne _ _ (tp_ne (show tp_r L K 46 22 0 (r_22 6) from hr_25 6 (by decide)) (show tp_r L K 45 1056 0 (r_22 5) from hr_25 5 (by decide)) (by decide))]).trans hf_83
  have hf_108 := (show f_105 (r_22 4) = _ from by rw [← hfe, va_up_ne _ _ (tp_ne (show tp_r L K 44 22 0 (r_22 4) from hr_25 4 (by decide)) (show tp_r L K 45 1056 0 (r_22 5) from hr_25 5 (by decide)) (by decide))]).trans hf_84
  have hf_109 : f_105 (r_22 5) = .inl (cy 0, 1056, .inl (upd g_99 z_97.toNatClampNeg (-1))) := by rw [← hfe]; exact va_up_self _ _ _
  clear hfe
  have hI := hI9
  have hfr := hfr9
  clear hI9 hfr9
  clear hj_102 hv_103
  have wxΓ_104_MLEN : Γ_104 (44, 22, 0) t0.toNat = Γ_80 (44, 22, 0) t0.toNat := by rw [eΓ_104, tg_r (by decide)]
  have wxΓ_104_MCLS : Γ_104 (46, 22, 0) t0.toNat = Γ_80 (46, 22, 0) t0.toNat := by rw [eΓ_104, tg_r (by decide)]
  have wsΓ_104 : Γ_104 (45, 1056, 0) (B0 + 2) = (-1 : Int) := by rw [eΓ_104]; exact tg_s
  have hgr : ∀ κ : tk_K, κ.1 ∉ ([39, 43, 44, 52, 45, 46] : List Nat) → Γ_104 κ = Γ κ := tg_fr hgr eΓ_104 (by decide)
  have hv_110 : ∀ i : Nat, i < 16 → (v_23 i).toInt = Γ_104 (39, 0, 0) i := fun i hi => by rw [eΓ_104, tg_r (by decide)]; exact hv_86 i hi
  have hx_111 : (v_23 0).toInt = Γ_104 (39, 0, 0) 0 := hv_110 0 (by decide)
  have hx_112 : (v_23 1).toInt = Γ_104 (39, 0, 0) 1 := hv_110 1 (by decide)
  have hx_113 : (v_23 3).toInt = Γ_104 (39, 0, 0) 3 := hv_110 3 (by decide)
  have hx_114 : (v_23 4).toInt = Γ_104 (39, 0, 0) 4 := hv_110 4 (by decide)
  have hx_115 : (v_23 5).toInt = Γ_104 (39, 0, 0) 5 := hv_110 5 (by decide)
  have hx_116 : (v_23 6).toInt = Γ_104 (39, 0, 0) 6 := hv_110 6 (by decide)
  have hx_117 : (v_23 7).toInt = Γ_104 (39, 0, 0) 7 := hv_110 7 (by decide)
  have hx_118 : (v_23 8).toInt = Γ_104 (39, 0, 0) 8 := hv_110 8 (by decide)
  have hg_119 : ∀ j : Nat, j < 22 → (g_37 j).toInt = Γ_104 (46, 22, 0) j := fun j hj => by rw [eΓ_104, tg_r (by decide)]; exact hg_95 j hj
  have hg_120 : ∀ j : Nat, j < 22 → (g_44 j).toInt = Γ_104 (44, 22, 0) j := fun j hj => by rw [eΓ_104, tg_r (by decide)]; exact hg_96 j hj
  have hO_MCL : Γ_104 (45, 1056, 0) = tgu (tgu (tgu (Γ (45, 1056, 0)) (B0 + 0) (A0)) (B0 + 1) (A1)) (B0 + 2) ((-1 : Int)) := by rw [eΓ_104, tg_f, hO_MCL]
  have hO_MCLS : Γ_104 (46, 22, 0) = Γ (46, 22, 0) := by rw [eΓ_104, tg_rf (by decide)]; exact hO_MCLS
  have hO_SIGN : Γ_104 (43, 8800, 0) = Γ_54 (43, 8800, 0) := by rw [eΓ_104, tg_rf (by decide)]; exact hO_SIGN
  obtain ⟨hpa, hpb, hpc, hpd, _⟩ := id hp
  have hle := congrFun (show Γ_104 (44, 22, 0) = _ from by rw [eΓ_104, tg_rf (by decide)]) t0.toNat
  have hp : ps (Γ_104 (43, 8800, 0)) t0 (Γ_104 (44, 22, 0) t0.toNat) (Γ_104 (39, 0, 0) 1) T0 (Γ_104 (39, 0, 0) 5) a (d) := hp.eq (show Γ_104 (43, 8800, 0) = _ from by rw [eΓ_104, tg_rf (by decide)]) rfl (congrFun (show Γ_104 (44, 22, 0) = _ from by rw [eΓ_104, tg_rf (by decide)]) _) (by omega) rfl (by omega)
  have hz : fz (Γ (43, 8800, 0)) (Γ_104 (43, 8800, 0)) (Γ (44, 22, 0)) (Γ_104 (44, 22, 0)) t0 := by rw [(show Γ_104 (43, 8800, 0) = _ from by rw [eΓ_104, tg_rf (by decide)]), (show Γ_104 (44, 22, 0) = _ from by rw [eΓ_104, tg_rf (by decide)])]; exact hz
  have hfw : fw (Γ (43, 8800, 0)) (Γ_104 (43, 8800, 0)) (Γ (44, 22, 0)) (Γ_104 (44, 22, 0)) t0 := by rw [(show Γ_104 (43, 8800, 0) = _ from by rw [eΓ_104, tg_rf (by decide)]), (show Γ_104 (44, 22, 0) = _ from by rw [eΓ_104, tg_rf (by decide)])]; exact hfw
  refine lv_iload_n hx hb dX12_clauseOf_78 rfl (lv_at hl 2 rfl) ?_
  refine lv_if_eq (tgt := 92) hx hb dX12_clauseOf_79 (by decide) (fun _ => ?_) (fun c => absurd c (by decide))
  refine lv_aload_n hx hb dX12_clauseOf_92 rfl (lv_at hl 1 rfl) ?_
  refine tp_get (cy := cy) (ci := 12) (v := .ref (r_22 5)) (C := RX12) (T := TX12) (N := 49) hx hb hta inlX12 hown hK hP ho.1 hf_106 rfl 6 (by decide) (hta _ wk_155) (fun _ h9 => h9) rfl dX12_clauseOf_93 ?_
  refine lv_iload_n hx hb dX12_clauseOf_96 rfl (lv_at hl 0 rfl) ?_
  refine lv_iconst (v := 2) hx hb dX12_clauseOf_97 (by decide) ?_
  refine lv_iadd hx hb dX12_clauseOf_98 ?_
  refine lv_topi (fun z_121 ez_121 => ?_)
  try have iz_121 : z_121.toInt = z_42.toInt + (2 : Int) := by rw [ez_121]; exact tl_addN z_42 2 rfl rfl (by omega) (by omega)
  refine lv_aload_n hx hb dX12_clauseOf_99 rfl (lv_at hl 1 rfl) ?_
  refine tp_get (cy := cy) (ci := 12) (v := .ref (r_22 4)) (C := RX12) (T := TX12) (N := 49) hx hb hta inlX12 hown hK hP ho.1 hf_106 rfl 5 (by decide) (hta _ wk_154) (fun _ h9 => h9) rfl dX12_clauseOf_100 ?_
  refine lv_aload_n hx hb dX12_clauseOf_103 rfl (lv_at hl 1 rfl) ?_
  refine tp_get (cy := cy) (ci := 12) (v := .int (v_23 4)) (C := RX12) (T := TX12) (N := 49) hx hb hta inlX12 hown hK hP ho.1 hf_106 rfl 20 (by decide) (hta _ wk_537) (fun _ h9 => h9) rfl dX12_clauseOf_104 ?_
  have hn_122 : vp_in (v_23 4) (22) := tl_in (by omega) (by omega)
  refine tp_iald (cy := cy) hx hb hK hP (show tp_r L K 44 22 0 (r_22 4) from hr_25 4 (by decide)).1 hf_108 hn_122 dX12_clauseOf_107 ?_
  refine lv_topi (fun z_123 ez_123 => ?_)
  obtain rfl : z_47 = z_123 := ez_47.trans ez_123.symm
  obtain ⟨g_125, hf_124, hg_126⟩ := (show tp_gi cy (1056) (Γ_104 (45, 1056, 0)) (f_105 (r_22 5)) from hI.at (show tp_r L K 45 1056 0 (r_22 5) from hr_25 5 (by decide)))
  have hn_127 : vp_in z_121 (1056) := tl_in (by omega) (by omega)
  have hj_128 : z_121.toNatClampNeg = (B0 + 2) := by show z_121.toInt.toNat = _; omega
  have hv_129 : z_47.toInt = A1 := by omega
  obtain ⟨Γ_130, eΓ_130⟩ : ∃ y : tk_G, y = tg Γ_104 (45, 1056, 0) (B0 + 2) A1 := ⟨_, rfl⟩
  have hI9 : tp_I cy L K Γ_130 (va_up f_105 (r_22 5) (.inl (cy 0, 1056, .inl (upd g_125 z_121.toNatClampNeg z_47)))) := by have q9 : tg Γ_104 (45, 1056, 0) (B0 + 2) A1 = tg Γ_104 (45, 1056, 0) z_121.toNatClampNeg z_47.toInt := (by rw [hj_128, hv_129]); rw [eΓ_130, q9]; exact hI.setg hU rfl (show tp_r L K 45 1056 0 (r_22 5) from hr_25 5 (by decide)) (show tp_gi cy (1056) (tgu (Γ_104 (45, 1056, 0)) _ _) _ from ⟨_, rfl, tp_gi_upd hg_126⟩)
  have hfr9 : ∀ b, (K b).1 ∉ ([39, 43, 44, 52, 45, 46] : List Nat) → va_up f_105 (r_22 5) (.inl (cy 0, 1056, .inl (upd g_125 z_121.toNatClampNeg z_47))) b = f b := tp_fr hfr (show tp_r L K 45 1056 0 (r_22 5) from hr_25 5 (by decide)) (by decide)
  refine tp_iast (cy := cy) hx hb hK hP hD hS (show tp_r L K 45 1056 0 (r_22 5) from hr_25 5 (by decide)).1 hf_124 hn_127 dX12_clauseOf_108 (fun H locs hP hD hS => ?_)
  have hP : va_P D vwCl (va_pl L (va_up f_105 (r_22 5) (.inl (cy 0, 1056, .inl (upd g_125 z_121.toNatClampNeg z_47))))) H := hP
  generalize hfe : va_up f_105 (r_22 5) (.inl (cy 0, 1056, .inl (upd g_125 z_121.toNatClampNeg z_47))) = f_131 at hP hI9 hfr9
  have hD : va_D A (va_pl L f_131) := tp_D hL hAL
  have hf_132 := (show f_131 o = _ from by rw [← hfe, va_up_ne _ _ (tp_ne ho (show tp_r L K 45 1056 0 (r_22 5) from hr_25 5 (by decide)) (by decide))]).trans hf_106
  have hf_133 := (show f_131 (r_22 6) = _ from by rw [← hfe, va_up_ne _ _ (tp_ne (show tp_r L K 46 22 0 (r_22 6) from hr_25 6 (by decide)) (show tp_r L K 45 1056 0 (r_22 5) from hr_25 5 (by decide)) (by decide))]).trans hf_107
  have hf_134 := (show f_131 (r_22 4) = _ from by rw [← hfe, va_up_ne _ _ (tp_ne (show tp_r L K 44 22 0 (r_22 4) from hr_25 4 (by decide)) (show tp_r L K 45 1056 0 (r_22 5) from hr_25 5 (by decide)) (by decide))]).trans hf_108
  have hf_135 : f_131 (r_22 5) = .inl (cy 0, 1056, .inl (upd g_125 z_121.toNatClampNeg z_47)) := by rw [← hfe]; exact va_up_self _ _ _
  clear hfe
  have hI := hI9
  have hfr := hfr9
  clear hI9 hfr9
  clear hj_128 hv_129
  have wxΓ_130_MLEN : Γ_130 (44, 22, 0) t0.toNat = Γ_104 (44, 22, 0) t0.toNat := by rw [eΓ_130, tg_r (by decide)]
  have wxΓ_130_MCLS : Γ_130 (46, 22, 0) t0.toNat = Γ_104 (46, 22, 0) t0.toNat := by rw [eΓ_130, tg_r (by decide)]
  have wsΓ_130 : Γ_130 (45, 1056, 0) (B0 + 2) = A1 := by rw [eΓ_130]; exact tg_s
  have hgr : ∀ κ : tk_K, κ.1 ∉ ([39, 43, 44, 52, 45, 46] : List Nat) → Γ_130 κ = Γ κ := tg_fr hgr eΓ_130 (by decide)
  have hv_136 : ∀ i : Nat, i < 16 → (v_23 i).toInt = Γ_130 (39, 0, 0) i := fun i hi => by rw [eΓ_130, tg_r (by decide)]; exact hv_110 i hi
  have hx_137 : (v_23 0).toInt = Γ_130 (39, 0, 0) 0 := hv_136 0 (by decide)
  have hx_138 : (v_23 1).toInt = Γ_130 (39, 0, 0) 1 := hv_136 1 (by decide)
  have hx_139 : (v_23 3).toInt = Γ_130 (39, 0, 0) 3 := hv_136 3 (by decide)
  have hx_140 : (v_23 4).toInt = Γ_130 (39, 0, 0) 4 := hv_136 4 (by decide)
  have hx_141 : (v_23 5).toInt = Γ_130 (39, 0, 0) 5 := hv_136 5 (by decide)
  have hx_142 : (v_23 6).toInt = Γ_130 (39, 0, 0) 6 := hv_136 6 (by decide)
  have hx_143 : (v_23 7).toInt = Γ_130 (39, 0, 0) 7 := hv_136 7 (by decide)
  have hx_144 : (v_23 8).toInt = Γ_130 (39, 0, 0) 8 := hv_136 8 (by decide)
  have hg_145 : ∀ j : Nat, j < 22 → (g_37 j).toInt = Γ_130 (46, 22, 0) j := fun j hj => by rw [eΓ_130, tg_r (by decide)]; exact hg_119 j hj
  have hg_146 : ∀ j : Nat, j < 22 → (g_44 j).toInt = Γ_130 (44, 22, 0) j := fun j hj => by rw [eΓ_130, tg_r (by decide)]; exact hg_120 j hj
  have hO_MCL : Γ_130 (45, 1056, 0) = tgu (tgu (tgu (tgu (Γ (45, 1056, 0)) (B0 + 0) (A0)) (B0 + 1) (A1)) (B0 + 2) ((-1 : Int))) (B0 + 2) (A1) := by rw [eΓ_130, tg_f, hO_MCL]
  have hO_MCLS : Γ_130 (46, 22, 0) = Γ (46, 22, 0) := by rw [eΓ_130, tg_rf (by decide)]; exact hO_MCLS
  have hO_SIGN : Γ_130 (43, 8800, 0) = Γ_54 (43, 8800, 0) := by rw [eΓ_130, tg_rf (by decide)]; exact hO_SIGN
  obtain ⟨hpa, hpb, hpc, hpd, _⟩ := id hp
  have hle := congrFun (show Γ_130 (44, 22, 0) = _ from by rw [eΓ_130, tg_rf (by decide)]) t0.toNat
  have hp : ps (Γ_130 (43, 8800, 0)) t0 (Γ_130 (44, 22, 0) t0.toNat) (Γ_130 (39, 0, 0) 1) T0 (Γ_130 (39, 0, 0) 5) a (d) := hp.eq (show Γ_130 (43, 8800, 0) = _ from by rw [eΓ_130, tg_rf (by decide)]) rfl (congrFun (show Γ_130 (44, 22, 0) = _ from by rw [eΓ_130, tg_rf (by decide)]) _) (by omega) rfl (by omega)
  have hz : fz (Γ (43, 8800, 0)) (Γ_130 (43, 8800, 0)) (Γ (44, 22, 0)) (Γ_130 (44, 22, 0)) t0 := by rw [(show Γ_130 (43, 8800, 0) = _ from by rw [eΓ_130, tg_rf (by decide)]), (show Γ_130 (44, 22, 0) = _ from by rw [eΓ_130, tg_rf (by decide)])]; exact hz
  have hfw : fw (Γ (43, 8800, 0)) (Γ_130 (43, 8800, 0)) (Γ (44, 22, 0)) (Γ_130 (44, 22, 0)) t0 := by rw [(show Γ_130 (43, 8800, 0) = _ from by rw [eΓ_130, tg_rf (by decide)]), (show Γ_130 (44, 22, 0) = _ from by rw [eΓ_130, tg_rf (by decide)])]; exact hfw
  refine lv_aload_n hx hb dX12_clauseOf_109 rfl (lv_at hl 1 rfl) ?_
  obtain ⟨hpa, hpb, hpc, hpd, _⟩ := id hp
  obtain ⟨a, ha2⟩ : ∃ y : Nat, y = (400 * t0 + Γ_130 (44, 22, 0) t0.toNat).toNat := ⟨_, rfl⟩
  obtain ⟨d, hd2⟩ : ∃ y : Int, y = 0 := ⟨_, rfl⟩
  have hp : ps (Γ_130 (43, 8800, 0)) t0 (Γ_130 (44, 22, 0) t0.toNat) (Γ_130 (39, 0, 0) 1) T0 (Γ_130 (39, 0, 0) 5) a (d) := by rw [hd2]; exact ⟨by omega, by omega, by omega, by omega, by rw [show (400 * t0 + Γ_130 (44, 22, 0) t0.toNat).toNat - a = 0 from by omega]; exact rp0⟩
  refine tq_ciR hS (hAf _ hS.1) (tq_rV (As := []) (rest := []) ⟨hx, hb, hml, hown, hta⟩ (tp_P.pre hK hN hL hU hI hP) (tp_recv hK hP ho.1 hf_132 rfl) lk_X12_281 (r_X12_tested l D cy H.size L K Γ_130 f_131 o τ T0 t0 a d ho ((hgr _ (by decide)).trans ht) (by first | omega | (simp only [Int32.toInt_toInt64]; omega) | decide | assumption) (by first | omega | (simp only [Int32.toInt_toInt64]; omega) | decide | assumption) (by first | omega | (simp only [Int32.toInt_toInt64]; omega) | decide | assumption) (by first | omega | (simp only [Int32.toInt_toInt64]; omega) | decide | assumption) (by first | omega | (simp only [Int32.toInt_toInt64]; omega) | decide | assumption)) rfl rfl ⟨Nat.le_of_ble_eq_true rfl, Nat.le_of_ble_eq_true rfl⟩ rfl hl.1 rfl (Nat.le_of_ble_eq_true rfl) dX12_clauseOf_110 ⟨Nat.le_of_ble_eq_true rfl, Nat.le_of_ble_eq_true rfl⟩) (fun r_148 f_149 Γ_151 H locs hw_147 hP hI hc_150 hcg_152 hS => ?_)
  have hD : va_D A (va_pl L f_149) := tp_D hL hAL
  have hfr := tp_fr2 hfr hc_150 (by decide)
  have hgr : ∀ κ : tk_K, κ.1 ∉ ([39, 43, 44, 52, 45, 46] : List Nat) → Γ_151 κ = Γ κ := tg_fr2 hgr hcg_152 (by decide)
  have hf_153 := (tp_un hc_150 (show tp_r L K 46 22 0 (r_22 6) from hr_25 6 (by decide)) (by decide)).trans hf_133
  have hg_154 : ∀ j : Nat, j < 22 → (g_37 j).toInt = Γ_151 (46, 22, 0) j := fun j hj => by rw [hcg_152 _ (by decide)]; exact hg_145 j hj
  have wy_151_MCLS : Γ_151 (46, 22, 0) t0.toNat = Γ_130 (46, 22, 0) t0.toNat := congrFun (hcg_152 (46, 22, 0) (by decide)) _
  obtain ⟨hE_155, hw_147⟩ := hw_147
  have hE_155 : tl_J r_148 (ps (Γ_151 (43, 8800, 0)) t0 (Γ_151 (44, 22, 0) t0.toNat) (Γ_151 (39, 0, 0) 1) T0 (Γ_151 (39, 0, 0) 5) a (1) ∧ Γ_151 (44, 22, 0) t0.toNat ≤ Γ_151 (39, 0, 0) 1 ∧ fz (Γ_130 (43, 8800, 0)) (Γ_151 (43, 8800, 0)) (Γ_130 (44, 22, 0)) (Γ_151 (44, 22, 0)) t0) := hE_155
  have hw_147 : Γ_151 (39, 0, 0) 0 = Γ_130 (39, 0, 0) 0 ∧ Γ_151 (39, 0, 0) 4 = Γ_130 (39, 0, 0) 4 ∧ Γ_151 (39, 0, 0) 7 = Γ_130 (39, 0, 0) 7 ∧ Γ_130 (39, 0, 0) 1 ≤ Γ_151 (39, 0, 0) 1 ∧ Γ_151 (39, 0, 0) 1 ≤ T0 ∧ fw (Γ_130 (43, 8800, 0)) (Γ_151 (43, 8800, 0)) (Γ_130 (44, 22, 0)) (Γ_151 (44, 22, 0)) t0 := hw_147
  have hO_MCL : Γ_151 (45, 1056, 0) = tgu (tgu (tgu (tgu (Γ (45, 1056, 0)) (B0 + 0) (A0)) (B0 + 1) (A1)) (B0 + 2) ((-1 : Int))) (B0 + 2) (A1) := (hcg_152 (45, 1056, 0) (by decide)).trans hO_MCL
  have hO_MCLS : Γ_151 (46, 22, 0) = Γ (46, 22, 0) := (hcg_152 (46, 22, 0) (by decide)).trans hO_MCLS
  have hOp_SIGN := hO_SIGN
  have hfw := hfw.trans hw_147.2.2.2.2.2
  refine lv_if_ne (tgt := 118) hx hb dX12_clauseOf_113 (by decide) (fun c_156 => ?_) (fun c_156 => ?_)
  · have c_156 := hE_155.t c_156
    obtain ⟨hp, hsl, hz9⟩ := c_156
    have hz := hz.trans hz9
    obtain ⟨_, hL2, hM2, _, hrpT⟩ := id hp
    obtain ⟨A3, hA3⟩ : ∃ y : Int, y = Γ_151 (44, 22, 0) t0.toNat := ⟨_, rfl⟩
    have hl13 : A1 ≤ A3 := by have q9 := hz9.2.1; omega
    have hT1 : rp (Γ_151 (43, 8800, 0)) (400 * t0 + A1).toNat (A3 - A1).toNat 1 := by have q9 := hrpT; rw [show (400 * t0 + Γ_151 (44, 22, 0) t0.toNat).toNat - a = (A3 - A1).toNat from by omega, show a = (400 * t0 + A1).toNat from by omega] at q9; exact q9
    have hO_SIGN : Γ_151 (43, 8800, 0) = Γ_151 (43, 8800, 0) := rfl
    refine lv_aload_n hx hb dX12_clauseOf_118 rfl (lv_at hl 1 rfl) ?_
    obtain ⟨r_158, v_159, q_160, hf_157, hr_161, hv_162⟩ := (show tp_o_M L K 0 0 (Γ_151 (39, 0, 0)) (f_149 o) from hI.at ho)
    have hx_163 : (v_159 0).toInt = Γ_151 (39, 0, 0) 0 := hv_162 0 (by decide)
    have hx_164 : (v_159 1).toInt = Γ_151 (39, 0, 0) 1 := hv_162 1 (by decide)
    have hx_165 : (v_159 3).toInt = Γ_151 (39, 0, 0) 3 := hv_162 3 (by decide)
    have hx_166 : (v_159 4).toInt = Γ_151 (39, 0, 0) 4 := hv_162 4 (by decide)
    have hx_167 : (v_159 5).toInt = Γ_151 (39, 0, 0) 5 := hv_162 5 (by decide)
    have hx_168 : (v_159 6).toInt = Γ_151 (39, 0, 0) 6 := hv_162 6 (by decide)
    have hx_169 : (v_159 7).toInt = Γ_151 (39, 0, 0) 7 := hv_162 7 (by decide)
    have hx_170 : (v_159 8).toInt = Γ_151 (39, 0, 0) 8 := hv_162 8 (by decide)
    refine tp_get (cy := cy) (ci := 12) (v := .ref (r_158 5)) (C := RX12) (T := TX12) (N := 49) hx hb hta inlX12 hown hK hP ho.1 hf_157 rfl 6 (by decide) (hta _ wk_155) (fun _ h9 => h9) rfl dX12_clauseOf_119 ?_
    refine lv_iload_n hx hb dX12_clauseOf_122 rfl (lv_at hl 0 rfl) ?_
    refine lv_iconst (v := 3) hx hb dX12_clauseOf_123 (by decide) ?_
    refine lv_iadd hx hb dX12_clauseOf_124 ?_
    refine lv_topi (fun z_171 ez_171 => ?_)
    try have iz_171 : z_171.toInt = z_42.toInt + (3 : Int) := by rw [ez_171]; exact tl_addN z_42 3 rfl rfl (by omega) (by omega)
    refine lv_aload_n hx hb dX12_clauseOf_125 rfl (lv_at hl 1 rfl) ?_
    refine tp_get (cy := cy) (ci := 12) (v := .ref (r_158 4)) (C := RX12) (T := TX12) (N := 49) hx hb hta inlX12 hown hK hP ho.1 hf_157 rfl 5 (by decide) (hta _ wk_154) (fun _ h9 => h9) rfl dX12_clauseOf_126 ?_
    refine lv_aload_n hx hb dX12_clauseOf_129 rfl (lv_at hl 1 rfl) ?_
    refine tp_get (cy := cy) (ci := 12) (v := .int (v_159 4)) (C := RX12) (T := TX12) (N := 49) hx hb hta inlX12 hown hK hP ho.1 hf_157 rfl 20 (by decide) (hta _ wk_537) (fun _ h9 => h9) rfl dX12_clauseOf_130 ?_
    obtain ⟨g_173, hf_172, hg_174⟩ := (show tp_gi cy (22) (Γ_151 (44, 22, 0)) (f_149 (r_158 4)) from hI.at (show tp_r L K 44 22 0 (r_158 4) from hr_161 4 (by decide)))
    have hn_175 : vp_in (v_159 4) (22) := tl_in (by omega) (by omega)
    refine tp_iald (cy := cy) hx hb hK hP (show tp_r L K 44 22 0 (r_158 4) from hr_161 4 (by decide)).1 hf_172 hn_175 dX12_clauseOf_133 ?_
    refine lv_topi (fun z_176 ez_176 => ?_)
    have iz_176 : z_176.toInt = Γ_151 (44, 22, 0) (v_159 4).toInt.toNat := by rw [ez_176]; exact hg_174 _ (tp_pin hn_175)
    have jz_176 : z_176.toInt = Γ_151 (44, 22, 0) t0.toNat := by rw [show t0 = (v_159 4).toInt from by omega]; exact iz_176
    obtain ⟨g_178, hf_177, hg_179⟩ := (show tp_gi cy (1056) (Γ_151 (45, 1056, 0)) (f_149 (r_158 5)) from hI.at (show tp_r L K 45 1056 0 (r_158 5) from hr_161 5 (by decide)))
    have hn_180 : vp_in z_171 (1056) := tl_in (by omega) (by omega)
    have hj_181 : z_171.toNatClampNeg = (B0 + 3) := by show z_171.toInt.toNat = _; omega
    have hv_182 : z_176.toInt = A3 := by omega
    obtain ⟨Γ_183, eΓ_183⟩ : ∃ y : tk_G, y = tg Γ_151 (45, 1056, 0) (B0 + 3) A3 := ⟨_, rfl⟩
    have hI9 : tp_I cy L K Γ_183 (va_up f_149 (r_158 5) (.inl (cy 0, 1056, .inl (upd g_178 z_171.toNatClampNeg z_176)))) := by have q9 : tg Γ_151 (45, 1056, 0) (B0 + 3) A3 = tg Γ_151 (45, 1056, 0) z_171.toNatClampNeg z_176.toInt := (by rw [hj_181, hv_182]); rw [eΓ_183, q9]; exact hI.setg hU rfl (show tp_r L K 45 1056 0 (r_158 5) from hr_161 5 (by decide)) (show tp_gi cy (1056) (tgu (Γ_151 (45, 1056, 0)) _ _) _ from ⟨_, rfl, tp_gi_upd hg_179⟩)
    have hfr9 : ∀ b, (K b).1 ∉ ([39, 43, 44, 52, 45, 46] : List Nat) → va_up f_149 (r_158 5) (.inl (cy 0, 1056, .inl (upd g_178 z_171.toNatClampNeg z_176))) b = f b := tp_fr hfr (show tp_r L K 45 1056 0 (r_158 5) from hr_161 5 (by decide)) (by decide)
    refine tp_iast (cy := cy) hx hb hK hP hD hS (show tp_r L K 45 1056 0 (r_158 5) from hr_161 5 (by decide)).1 hf_177 hn_180 dX12_clauseOf_134 (fun H locs hP hD hS => ?_)
    have hP : va_P D vwCl (va_pl L (va_up f_149 (r_158 5) (.inl (cy 0, 1056, .inl (upd g_178 z_171.toNatClampNeg z_176))))) H := hP
    generalize hfe : va_up f_149 (r_158 5) (.inl (cy 0, 1056, .inl (upd g_178 z_171.toNatClampNeg z_176))) = f_184 at hP hI9 hfr9
    have hD : va_D A (va_pl L f_184) := tp_D hL hAL
    have hf_185 := (show f_184 (r_22 6) = _ from by rw [← hfe, va_up_ne _ _ (tp_ne (show tp_r L K 46 22 0 (r_22 6) from hr_25 6 (by decide)) (show tp_r L K 45 1056 0 (r_158 5) from hr_161 5 (by decide)) (by decide))]).trans hf_153
    have hf_186 := (show f_184 o = _ from by rw [← hfe, va_up_ne _ _ (tp_ne ho (show tp_r L K 45 1056 0 (r_158 5) from hr_161 5 (by decide)) (by decide))]).trans hf_157
    have hf_187 := (show f_184 (r_158 4) = _ from by rw [← hfe, va_up_ne _ _ (tp_ne (show tp_r L K 44 22 0 (r_158 4) from hr_161 4 (by decide)) (show tp_r L K 45 1056 0 (r_158 5) from hr_161 5 (by decide)) (by decide))]).trans hf_172
    have hf_188 : f_184 (r_158 5) = .inl (cy 0, 1056, .inl (upd g_178 z_171.toNatClampNeg z_176)) := by rw [← hfe]; exact va_up_self _ _ _
    clear hfe
    have hI := hI9
    have hfr := hfr9
    clear hI9 hfr9
    clear hj_181 hv_182
    have wxΓ_183_MLEN : Γ_183 (44, 22, 0) t0.toNat = Γ_151 (44, 22, 0) t0.toNat := by rw [eΓ_183, tg_r (by decide)]
    have wxΓ_183_MCLS : Γ_183 (46, 22, 0) t0.toNat = Γ_151 (46, 22, 0) t0.toNat := by rw [eΓ_183, tg_r (by decide)]
    have wsΓ_183 : Γ_183 (45, 1056, 0) (B0 + 3) = A3 := by rw [eΓ_183]; exact tg_s
    have hgr : ∀ κ : tk_K, κ.1 ∉ ([39, 43, 44, 52, 45, 46] : List Nat) → Γ_183 κ = Γ κ := tg_fr hgr eΓ_183 (by decide)
    have hg_189 : ∀ j : Nat, j < 22 → (g_37 j).toInt = Γ_183 (46, 22, 0) j := fun j hj => by rw [eΓ_183, tg_r (by decide)]; exact hg_154 j hj
    have hv_190 : ∀ i : Nat, i < 16 → (v_159 i).toInt = Γ_183 (39, 0, 0) i := fun i hi => by rw [eΓ_183, tg_r (by decide)]; exact hv_162 i hi
    have hx_191 : (v_159 0).toInt = Γ_183 (39, 0, 0) 0 := hv_190 0 (by decide)
    have hx_192 : (v_159 1).toInt = Γ_183 (39, 0, 0) 1 := hv_190 1 (by decide)
    have hx_193 : (v_159 3).toInt = Γ_183 (39, 0, 0) 3 := hv_190 3 (by decide)
    have hx_194 : (v_159 4).toInt = Γ_183 (39, 0, 0) 4 := hv_190 4 (by decide)
    have hx_195 : (v_159 5).toInt = Γ_183 (39, 0, 0) 5 := hv_190 5 (by decide)
    have hx_196 : (v_159 6).toInt = Γ_183 (39, 0, 0) 6 := hv_190 6 (by decide)
    have hx_197 : (v_159 7).toInt = Γ_183 (39, 0, 0) 7 := hv_190 7 (by decide)
    have hx_198 : (v_159 8).toInt = Γ_183 (39, 0, 0) 8 := hv_190 8 (by decide)
    have hg_199 : ∀ j : Nat, j < 22 → (g_173 j).toInt = Γ_183 (44, 22, 0) j := fun j hj => by rw [eΓ_183, tg_r (by decide)]; exact hg_174 j hj
    have hO_MCL : Γ_183 (45, 1056, 0) = tgu (tgu (tgu (tgu (tgu (Γ (45, 1056, 0)) (B0 + 0) (A0)) (B0 + 1) (A1)) (B0 + 2) ((-1 : Int))) (B0 + 2) (A1)) (B0 + 3) (A3) := by rw [eΓ_183, tg_f, hO_MCL]
    have hO_MCLS : Γ_183 (46, 22, 0) = Γ (46, 22, 0) := by rw [eΓ_183, tg_rf (by decide)]; exact hO_MCLS
    have hO_SIGN : Γ_183 (43, 8800, 0) = Γ_151 (43, 8800, 0) := by rw [eΓ_183, tg_rf (by decide)]
    obtain ⟨hpa, hpb, hpc, hpd, _⟩ := id hp
    have hle := congrFun (show Γ_183 (44, 22, 0) = _ from by rw [eΓ_183, tg_rf (by decide)]) t0.toNat
    have hp : ps (Γ_183 (43, 8800, 0)) t0 (Γ_183 (44, 22, 0) t0.toNat) (Γ_183 (39, 0, 0) 1) T0 (Γ_183 (39, 0, 0) 5) a (1) := hp.eq (show Γ_183 (43, 8800, 0) = _ from by rw [eΓ_183, tg_rf (by decide)]) rfl (congrFun (show Γ_183 (44, 22, 0) = _ from by rw [eΓ_183, tg_rf (by decide)]) _) (by omega) rfl (by omega)
    have hz : fz (Γ (43, 8800, 0)) (Γ_183 (43, 8800, 0)) (Γ (44, 22, 0)) (Γ_183 (44, 22, 0)) t0 := by rw [(show Γ_183 (43, 8800, 0) = _ from by rw [eΓ_183, tg_rf (by decide)]), (show Γ_183 (44, 22, 0) = _ from by rw [eΓ_183, tg_rf (by decide)])]; exact hz
    have hfw : fw (Γ (43, 8800, 0)) (Γ_183 (43, 8800, 0)) (Γ (44, 22, 0)) (Γ_183 (44, 22, 0)) t0 := by rw [(show Γ_183 (43, 8800, 0) = _ from by rw [eΓ_183, tg_rf (by decide)]), (show Γ_183 (44, 22, 0) = _ from by rw [eΓ_183, tg_rf (by decide)])]; exact hfw
    refine lv_aload_n hx hb dX12_clauseOf_135 rfl (lv_at hl 1 rfl) ?_
    refine tp_get (cy := cy) (ci := 12) (v := .ref (r_158 6)) (C := RX12) (T := TX12) (N := 49) hx hb hta inlX12 hown hK hP ho.1 hf_186 rfl 7 (by decide) (hta _ wk_156) (fun _ h9 => h9) rfl dX12_clauseOf_136 ?_
    refine lv_aload_n hx hb dX12_clauseOf_139 rfl (lv_at hl 1 rfl) ?_
    refine tp_get (cy := cy) (ci := 12) (v := .int (v_159 4)) (C := RX12) (T := TX12) (N := 49) hx hb hta inlX12 hown hK hP ho.1 hf_186 rfl 20 (by decide) (hta _ wk_537) (fun _ h9 => h9) rfl dX12_clauseOf_140 ?_
    refine lv_dup2_11 hx hb dX12_clauseOf_143 rfl rfl ?_
    obtain ⟨g_201, hf_200, hg_202⟩ := (show tp_gi cy (22) (Γ_183 (46, 22, 0)) (f_184 (r_158 6)) from hI.at (show tp_r L K 46 22 0 (r_158 6) from hr_161 6 (by decide)))
    have hn_203 : vp_in (v_159 4) (22) := tl_in (by omega) (by omega)
    refine tp_iald (cy := cy) hx hb hK hP (show tp_r L K 46 22 0 (r_158 6) from hr_161 6 (by decide)).1 hf_200 hn_203 dX12_clauseOf_144 ?_
    refine lv_topi (fun z_204 ez_204 => ?_)
    have iz_204 : z_204.toInt = Γ_183 (46, 22, 0) (v_159 4).toInt.toNat := by rw [ez_204]; exact hg_202 _ (tp_pin hn_203)
    have jz_204 : z_204.toInt = Γ_183 (46, 22, 0) t0.toNat := by rw [show t0 = (v_159 4).toInt from by omega]; exact iz_204
    refine lv_iconst (v := 1) hx hb dX12_clauseOf_145 (by decide) ?_
    refine lv_iadd hx hb dX12_clauseOf_146 ?_
    refine lv_topi (fun z_205 ez_205 => ?_)
    try have iz_205 : z_205.toInt = z_204.toInt + (1 : Int) := by rw [ez_205]; exact tl_addN z_204 1 rfl rfl (by omega) (by omega)
    have hn_206 : vp_in (v_159 4) (22) := tl_in (by omega) (by omega)
    have hj_207 : (v_159 4).toNatClampNeg = t0.toNat := by show (v_159 4).toInt.toNat = _; omega
    have hv_208 : z_205.toInt = Γ (46, 22, 0) t0.toNat + 1 := by omega
    obtain ⟨Γ_209, eΓ_209⟩ : ∃ y : tk_G, y = tg Γ_183 (46, 22, 0) t0.toNat (Γ (46, 22, 0) t0.toNat + 1) := ⟨_, rfl⟩
    have hI9 : tp_I cy L K Γ_209 (va_up f_184 (r_158 6) (.inl (cy 0, 22, .inl (upd g_201 (v_159 4).toNatClampNeg z_205)))) := by have q9 : tg Γ_183 (46, 22, 0) t0.toNat (Γ (46, 22, 0) t0.toNat + 1) = tg Γ_183 (46, 22, 0) (v_159 4).toNatClampNeg z_205.toInt := (by rw [hj_207, hv_208]); rw [eΓ_209, q9]; exact hI.setg hU rfl (show tp_r L K 46 22 0 (r_158 6) from hr_161 6 (by decide)) (show tp_gi cy (22) (tgu (Γ_183 (46, 22, 0)) _ _) _ from ⟨_, rfl, tp_gi_upd hg_202⟩)
    have hfr9 : ∀ b, (K b).1 ∉ ([39, 43, 44, 52, 45, 46] : List Nat) → va_up f_184 (r_158 6) (.inl (cy 0, 22, .inl (upd g_201 (v_159 4).toNatClampNeg z_205))) b = f b := tp_fr hfr (show tp_r L K 46 22 0 (r_158 6) from hr_161 6 (by decide)) (by decide)
    refine tp_iast (cy := cy) hx hb hK hP hD hS (show tp_r L K 46 22 0 (r_158 6) from hr_161 6 (by decide)).1 hf_200 hn_206 dX12_clauseOf_147 (fun H locs hP hD hS => ?_)
    have hP : va_P D vwCl (va_pl L (va_up f_184 (r_158 6) (.inl (cy 0, 22, .inl (upd g_201 (v_159 4).toNatClampNeg z_205))))) H := hP
    generalize hfe : va_up f_184 (r_158 6) (.inl (cy 0, 22, .inl (upd g_201 (v_159 4).toNatClampNeg z_205))) = f_210 at hP hI9 hfr9
    have hD : va_D A (va_pl L f_210) := tp_D hL hAL
    have hf_211 := (show f_210 o = _ from by rw [← hfe, va_up_ne _ _ (tp_ne ho (show tp_r L K 46 22 0 (r_158 6) from hr_161 6 (by decide)) (by decide))]).trans hf_186
    have hf_212 := (show f_210 (r_158 4) = _ from by rw [← hfe, va_up_ne _ _ (tp_ne (show tp_r L K 44 22 0 (r_158 4) from hr_161 4 (by decide)) (show tp_r L K 46 22 0 (r_158 6) from hr_161 6 (by decide)) (by decide))]).trans hf_187
    have hf_213 : f_210 (r_158 6) = .inl (cy 0, 22, .inl (upd g_201 (v_159 4).toNatClampNeg z_205)) := by rw [← hfe]; exact va_up_self _ _ _
    clear hfe
    have hI := hI9
    have hfr := hfr9
    clear hI9 hfr9
    clear hj_207 hv_208
    have wxΓ_209_MLEN : Γ_209 (44, 22, 0) t0.toNat = Γ_183 (44, 22, 0) t0.toNat := by rw [eΓ_209, tg_r (by decide)]
    have wsΓ_209 : Γ_209 (46, 22, 0) t0.toNat = Γ (46, 22, 0) t0.toNat + 1 := by rw [eΓ_209]; exact tg_s
    have hgr : ∀ κ : tk_K, κ.1 ∉ ([39, 43, 44, 52, 45, 46] : List Nat) → Γ_209 κ = Γ κ := tg_fr hgr eΓ_209 (by decide)
    have hv_214 : ∀ i : Nat, i < 16 → (v_159 i).toInt = Γ_209 (39, 0, 0) i := fun i hi => by rw [eΓ_209, tg_r (by decide)]; exact hv_190 i hi
    have hx_215 : (v_159 0).toInt = Γ_209 (39, 0, 0) 0 := hv_214 0 (by decide)
    have hx_216 : (v_159 1).toInt = Γ_209 (39, 0, 0) 1 := hv_214 1 (by decide)
    have hx_217 : (v_159 3).toInt = Γ_209 (39, 0, 0) 3 := hv_214 3 (by decide)
    have hx_218 : (v_159 4).toInt = Γ_209 (39, 0, 0) 4 := hv_214 4 (by decide)
    have hx_219 : (v_159 5).toInt = Γ_209 (39, 0, 0) 5 := hv_214 5 (by decide)
    have hx_220 : (v_159 6).toInt = Γ_209 (39, 0, 0) 6 := hv_214 6 (by decide)
    have hx_221 : (v_159 7).toInt = Γ_209 (39, 0, 0) 7 := hv_214 7 (by decide)
    have hx_222 : (v_159 8).toInt = Γ_209 (39, 0, 0) 8 := hv_214 8 (by decide)
    have hg_223 : ∀ j : Nat, j < 22 → (g_173 j).toInt = Γ_209 (44, 22, 0) j := fun j hj => by rw [eΓ_209, tg_r (by decide)]; exact hg_199 j hj
    have hO_MCL : Γ_209 (45, 1056, 0) = tgu (tgu (tgu (tgu (tgu (Γ (45, 1056, 0)) (B0 + 0) (A0)) (B0 + 1) (A1)) (B0 + 2) ((-1 : Int))) (B0 + 2) (A1)) (B0 + 3) (A3) := by rw [eΓ_209, tg_rf (by decide)]; exact hO_MCL
    have hO_MCLS : Γ_209 (46, 22, 0) = tgu (Γ (46, 22, 0)) t0.toNat (Γ (46, 22, 0) t0.toNat + 1) := by rw [eΓ_209, tg_f, hO_MCLS]
    have hO_SIGN : Γ_209 (43, 8800, 0) = Γ_151 (43, 8800, 0) := by rw [eΓ_209, tg_rf (by decide)]; exact hO_SIGN
    obtain ⟨hpa, hpb, hpc, hpd, _⟩ := id hp
    have hle := congrFun (show Γ_209 (44, 22, 0) = _ from by rw [eΓ_209, tg_rf (by decide)]) t0.toNat
    have hp : ps (Γ_209 (43, 8800, 0)) t0 (Γ_209 (44, 22, 0) t0.toNat) (Γ_209 (39, 0, 0) 1) T0 (Γ_209 (39, 0, 0) 5) a (1) := hp.eq (show Γ_209 (43, 8800, 0) = _ from by rw [eΓ_209, tg_rf (by decide)]) rfl (congrFun (show Γ_209 (44, 22, 0) = _ from by rw [eΓ_209, tg_rf (by decide)]) _) (by omega) rfl (by omega)
    have hz : fz (Γ (43, 8800, 0)) (Γ_209 (43, 8800, 0)) (Γ (44, 22, 0)) (Γ_209 (44, 22, 0)) t0 := by rw [(show Γ_209 (43, 8800, 0) = _ from by rw [eΓ_209, tg_rf (by decide)]), (show Γ_209 (44, 22, 0) = _ from by rw [eΓ_209, tg_rf (by decide)])]; exact hz
    have hfw : fw (Γ (43, 8800, 0)) (Γ_209 (43, 8800, 0)) (Γ (44, 22, 0)) (Γ_209 (44, 22, 0)) t0 := by rw [(show Γ_209 (43, 8800, 0) = _ from by rw [eΓ_209, tg_rf (by decide)]), (show Γ_209 (44, 22, 0) = _ from by rw [eΓ_209, tg_rf (by decide)])]; exact hfw
    obtain ⟨hpa, hpb, hpc, hpd, _⟩ := id hp
    have hq2 : tc (Γ_209 (43, 8800, 0)) (Γ (45, 1056, 0)) (Γ (46, 22, 0)) t0 (Γ (44, 22, 0) t0.toNat) := htc.fz (by omega) hz (Int.le_refl _)
    have hq3 : tc (Γ_209 (43, 8800, 0)) (Γ_209 (45, 1056, 0)) (Γ (46, 22, 0)) t0 (Γ_209 (44, 22, 0) t0.toNat) := (hq2.mono hz.2.1).mc (by omega) (fun i9 q9 => by rw [hO_MCL, tgu_n (by omega), tgu_n (by omega), tgu_n (by omega), tgu_n (by omega), tgu_n (by omega)])
    have hm0 : Γ_209 (45, 1056, 0) (B0 + 0) = A0 := by rw [hO_MCL, tgu_n (by omega), tgu_n (by omega), tgu_n (by omega), tgu_n (by omega), tgu_s]
    have hm1 : Γ_209 (45, 1056, 0) (B0 + 1) = A1 := by rw [hO_MCL, tgu_n (by omega), tgu_n (by omega), tgu_n (by omega), tgu_s]
    have hm2 : Γ_209 (45, 1056, 0) (B0 + 2) = A1 := by rw [hO_MCL, tgu_n (by omega), tgu_s]
    have hm3 : Γ_209 (45, 1056, 0) (B0 + 3) = A3 := by rw [hO_MCL, tgu_s]
    have hn9 : tcc (Γ_209 (43, 8800, 0)) (Γ_209 (45, 1056, 0)) t0 (Γ (46, 22, 0) t0.toNat) (Γ_209 (44, 22, 0) t0.toNat) := by unfold tcc; rw [clx0 hBi, clx1 hBi, clx2 hBi, clx3 hBi]; exact ⟨(Or.inr (by rw [hm2, hm3]; exact ⟨by omega, by omega, by omega, by rw [hO_SIGN]; exact hT1⟩)), (fun q9 => by exfalso; omega)⟩
    have hq4 : tc (Γ_209 (43, 8800, 0)) (Γ_209 (45, 1056, 0)) (Γ_209 (46, 22, 0)) t0 (Γ_209 (44, 22, 0) t0.toNat) := by rw [hO_MCLS]; exact hq3.add hn9
    refine lv_iconst (v := 1) hx hb dX12_clauseOf_148 (by decide) ?_
    have hpo9 : tl_J (1 : Int32) (Γ_209 (46, 22, 0) = tgu (Γ (46, 22, 0)) t0.toNat (Γ (46, 22, 0) t0.toNat + 1) ∧ Γ_209 (44, 22, 0) t0.toNat ≤ Γ_209 (39, 0, 0) 1 ∧ (0 ≤ Γ_209 (39, 0, 0) 5 ∧ Γ_209 (39, 0, 0) 5 ≤ 60) ∧ tc (Γ_209 (43, 8800, 0)) (Γ_209 (45, 1056, 0)) (Γ_209 (46, 22, 0)) t0 (Γ_209 (44, 22, 0) t0.toNat)) ∧ Γ_209 (39, 0, 0) 0 = Γ (39, 0, 0) 0 ∧ Γ_209 (39, 0, 0) 4 = Γ (39, 0, 0) 4 ∧ Γ_209 (39, 0, 0) 7 = Γ (39, 0, 0) 7 ∧ Γ (39, 0, 0) 1 ≤ Γ_209 (39, 0, 0) 1 ∧ Γ_209 (39, 0, 0) 1 ≤ T0 ∧ fw (Γ (43, 8800, 0)) (Γ_209 (43, 8800, 0)) (Γ (44, 22, 0)) (Γ_209 (44, 22, 0)) t0 ∧ (∀ i : Nat, (i : Int) < 48 * t0 ∨ 48 * t0 + 48 ≤ i → Γ_209 (45, 1056, 0) i = Γ (45, 1056, 0) i) ∧ (∀ j : Nat, ¬ j = t0.toNat → Γ_209 (46, 22, 0) j = Γ (46, 22, 0) j) ∧ tc (Γ_209 (43, 8800, 0)) (Γ_209 (45, 1056, 0)) (Γ_209 (46, 22, 0)) t0 (400) ∧ (Γ (46, 22, 0) t0.toNat ≤ Γ_209 (46, 22, 0) t0.toNat ∧ Γ_209 (46, 22, 0) t0.toNat ≤ Γ (46, 22, 0) t0.toNat + 1) := ⟨(Or.inl ⟨rfl, ⟨hO_MCLS, (by omega), (by omega), hq4⟩⟩), ⟨(by omega), (by omega), (by omega), (by omega), (by omega), hfw, (fun i9 q9 => by rw [hO_MCL, tgu_n (by omega), tgu_n (by omega), tgu_n (by omega), tgu_n (by omega), tgu_n (by omega)]), (fun j9 q9 => by rw [hO_MCLS, tgu_n q9]), (hq4.mono (by omega)), (by rw [hO_MCLS, tgu_s]; omega)⟩⟩
    exact W.zret (ty := .boolean) (v := 1) hx hb hr rfl (fun t ht hW => ⟨⟨_, (f_210, Γ_209), rfl, hpo9, by rw [ht]; exact hP, hI, hfr, hgr⟩, hS.F ht⟩) hS.2.2 dX12_clauseOf_149
  · have c_156 := c_156
    refine lv_iconst (v := 0) hx hb dX12_clauseOf_116 (by decide) ?_
    have hpo9 : tl_J (0 : Int32) (Γ_151 (46, 22, 0) = tgu (Γ (46, 22, 0)) t0.toNat (Γ (46, 22, 0) t0.toNat + 1) ∧ Γ_151 (44, 22, 0) t0.toNat ≤ Γ_151 (39, 0, 0) 1 ∧ (0 ≤ Γ_151 (39, 0, 0) 5 ∧ Γ_151 (39, 0, 0) 5 ≤ 60) ∧ tc (Γ_151 (43, 8800, 0)) (Γ_151 (45, 1056, 0)) (Γ_151 (46, 22, 0)) t0 (Γ_151 (44, 22, 0) t0.toNat)) ∧ Γ_151 (39, 0, 0) 0 = Γ (39, 0, 0) 0 ∧ Γ_151 (39, 0, 0) 4 = Γ (39, 0, 0) 4 ∧ Γ_151 (39, 0, 0) 7 = Γ (39, 0, 0) 7 ∧ Γ (39, 0, 0) 1 ≤ Γ_151 (39, 0, 0) 1 ∧ Γ_151 (39, 0, 0) 1 ≤ T0 ∧ fw (Γ (43, 8800, 0)) (Γ_151 (43, 8800, 0)) (Γ (44, 22, 0)) (Γ_151 (44, 22, 0)) t0 ∧ (∀ i : Nat, (i : Int) < 48 * t0 ∨ 48 * t0 + 48 ≤ i → Γ_151 (45, 1056, 0) i = Γ (45, 1056, 0) i) ∧ (∀ j : Nat, ¬ j = t0.toNat → Γ_151 (46, 22, 0) j = Γ (46, 22, 0) j) ∧ tc (Γ_151 (43, 8800, 0)) (Γ_151 (45, 1056, 0)) (Γ_151 (46, 22, 0)) t0 (400) ∧ (Γ (46, 22, 0) t0.toNat ≤ Γ_151 (46, 22, 0) t0.toNat ∧ Γ_151 (46, 22, 0) t0.toNat ≤ Γ (46, 22, 0) t0.toNat + 1) := ⟨(Or.inr rfl), ⟨(by omega), (by omega), (by omega), (by omega), (by omega), hfw, (fun i9 q9 => by rw [hO_MCL, tgu_n (by omega), tgu_n (by omega), tgu_n (by omega), tgu_n (by omega)]), (fun j9 q9 => by rw [hO_MCLS]), (by rw [hO_MCLS]; exact ((htc.fz (by omega) hfw (Int.le_refl _)).mono (by omega)).mc (by omega) (fun i9 q9 => by rw [hO_MCL, tgu_n (by omega), tgu_n (by omega), tgu_n (by omega), tgu_n (by omega)])), (by rw [hO_MCLS]; omega)⟩⟩
    exact W.zret (ty := .boolean) (v := 0) hx hb hr rfl (fun t ht hW => ⟨⟨_, (f_149, Γ_151), rfl, hpo9, by rw [ht]; exact hP, hI, hfr, hgr⟩, hS.F ht⟩) hS.2.2 dX12_clauseOf_117
