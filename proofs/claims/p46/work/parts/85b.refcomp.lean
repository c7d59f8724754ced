theorem dX12_compare_0 : decode cX12_compare 0 = .ok (.aload_n 0, 1) := by decide +kernel
theorem dX12_compare_1 : decode cX12_compare 1 = .ok (.invokevirtual 249, 3) := by decide +kernel
theorem dX12_compare_4 : decode cX12_compare 4 = .ok (.ifCond .ne 5, 3) := by decide +kernel
theorem dX12_compare_7 : decode cX12_compare 7 = .ok (.iconst 0, 1) := by decide +kernel
theorem dX12_compare_8 : decode cX12_compare 8 = .ok (.ireturn, 1) := by decide +kernel
theorem dX12_compare_9 : decode cX12_compare 9 = .ok (.aload_n 0, 1) := by decide +kernel
theorem dX12_compare_10 : decode cX12_compare 10 = .ok (.invokevirtual 167, 3) := by decide +kernel
theorem dX12_compare_13 : decode cX12_compare 13 = .ok (.istore_n 1, 1) := by decide +kernel
theorem dX12_compare_14 : decode cX12_compare 14 = .ok (.aload_n 0, 1) := by decide +kernel
theorem dX12_compare_15 : decode cX12_compare 15 = .ok (.getfield 164, 3) := by decide +kernel
theorem dX12_compare_18 : decode cX12_compare 18 = .ok (.istore_n 2, 1) := by decide +kernel
theorem dX12_compare_19 : decode cX12_compare 19 = .ok (.iload_n 1, 1) := by decide +kernel
theorem dX12_compare_20 : decode cX12_compare 20 = .ok (.bipush 60, 2) := by decide +kernel
theorem dX12_compare_22 : decode cX12_compare 22 = .ok (.if_icmp .eq 22, 3) := by decide +kernel
theorem dX12_compare_25 : decode cX12_compare 25 = .ok (.iload_n 1, 1) := by decide +kernel
theorem dX12_compare_26 : decode cX12_compare 26 = .ok (.bipush 61, 2) := by decide +kernel
theorem dX12_compare_28 : decode cX12_compare 28 = .ok (.if_icmp .eq 16, 3) := by decide +kernel
theorem dX12_compare_31 : decode cX12_compare 31 = .ok (.iload_n 1, 1) := by decide +kernel
theorem dX12_compare_32 : decode cX12_compare 32 = .ok (.bipush 62, 2) := by decide +kernel
theorem dX12_compare_34 : decode cX12_compare 34 = .ok (.if_icmp .eq 10, 3) := by decide +kernel
theorem dX12_compare_37 : decode cX12_compare 37 = .ok (.aload_n 0, 1) := by decide +kernel
theorem dX12_compare_38 : decode cX12_compare 38 = .ok (.iconst 0, 1) := by decide +kernel
theorem dX12_compare_39 : decode cX12_compare 39 = .ok (.iload_n 2, 1) := by decide +kernel
theorem dX12_compare_40 : decode cX12_compare 40 = .ok (.invokevirtual 184, 3) := by decide +kernel
theorem dX12_compare_43 : decode cX12_compare 43 = .ok (.ireturn, 1) := by decide +kernel
theorem dX12_compare_44 : decode cX12_compare 44 = .ok (.aload_n 0, 1) := by decide +kernel
theorem dX12_compare_45 : decode cX12_compare 45 = .ok (.dup, 1) := by decide +kernel
theorem dX12_compare_46 : decode cX12_compare 46 = .ok (.getfield 164, 3) := by decide +kernel
theorem dX12_compare_49 : decode cX12_compare 49 = .ok (.iconst 1, 1) := by decide +kernel
theorem dX12_compare_50 : decode cX12_compare 50 = .ok (.iadd, 1) := by decide +kernel
theorem dX12_compare_51 : decode cX12_compare 51 = .ok (.putfield 164, 3) := by decide +kernel
theorem dX12_compare_54 : decode cX12_compare 54 = .ok (.iload_n 1, 1) := by decide +kernel
theorem dX12_compare_55 : decode cX12_compare 55 = .ok (.bipush 61, 2) := by decide +kernel
theorem dX12_compare_57 : decode cX12_compare 57 = .ok (.if_icmp .eq 32, 3) := by decide +kernel
theorem dX12_compare_60 : decode cX12_compare 60 = .ok (.aload_n 0, 1) := by decide +kernel
theorem dX12_compare_61 : decode cX12_compare 61 = .ok (.getfield 164, 3) := by decide +kernel
theorem dX12_compare_64 : decode cX12_compare 64 = .ok (.aload_n 0, 1) := by decide +kernel
theorem dX12_compare_65 : decode cX12_compare 65 = .ok (.getfield 153, 3) := by decide +kernel
theorem dX12_compare_68 : decode cX12_compare 68 = .ok (.if_icmp .ge 21, 3) := by decide +kernel
theorem dX12_compare_71 : decode cX12_compare 71 = .ok (.aload_n 0, 1) := by decide +kernel
theorem dX12_compare_72 : decode cX12_compare 72 = .ok (.getfield 13, 3) := by decide +kernel
theorem dX12_compare_75 : decode cX12_compare 75 = .ok (.aload_n 0, 1) := by decide +kernel
theorem dX12_compare_76 : decode cX12_compare 76 = .ok (.getfield 164, 3) := by decide +kernel
theorem dX12_compare_79 : decode cX12_compare 79 = .ok (.baload, 1) := by decide +kernel
theorem dX12_compare_80 : decode cX12_compare 80 = .ok (.bipush 61, 2) := by decide +kernel
theorem dX12_compare_82 : decode cX12_compare 82 = .ok (.if_icmp .ne 7, 3) := by decide +kernel
theorem dX12_compare_85 : decode cX12_compare 85 = .ok (.iconst 1, 1) := by decide +kernel
theorem dX12_compare_86 : decode cX12_compare 86 = .ok (.goto 4, 3) := by decide +kernel
theorem dX12_compare_89 : decode cX12_compare 89 = .ok (.iconst 0, 1) := by decide +kernel
theorem dX12_compare_90 : decode cX12_compare 90 = .ok (.istore_n 3, 1) := by decide +kernel
theorem dX12_compare_91 : decode cX12_compare 91 = .ok (.iload_n 3, 1) := by decide +kernel
theorem dX12_compare_92 : decode cX12_compare 92 = .ok (.ifCond .eq 13, 3) := by decide +kernel
theorem dX12_compare_95 : decode cX12_compare 95 = .ok (.aload_n 0, 1) := by decide +kernel
theorem dX12_compare_96 : decode cX12_compare 96 = .ok (.dup, 1) := by decide +kernel
theorem dX12_compare_97 : decode cX12_compare 97 = .ok (.getfield 164, 3) := by decide +kernel
theorem dX12_compare_100 : decode cX12_compare 100 = .ok (.iconst 1, 1) := by decide +kernel
theorem dX12_compare_101 : decode cX12_compare 101 = .ok (.iadd, 1) := by decide +kernel
theorem dX12_compare_102 : decode cX12_compare 102 = .ok (.putfield 164, 3) := by decide +kernel
theorem dX12_compare_105 : decode cX12_compare 105 = .ok (.aload_n 0, 1) := by decide +kernel
theorem dX12_compare_106 : decode cX12_compare 106 = .ok (.iload_n 2, 1) := by decide +kernel
theorem dX12_compare_107 : decode cX12_compare 107 = .ok (.invokevirtual 236, 3) := by decide +kernel
theorem dX12_compare_110 : decode cX12_compare 110 = .ok (.ifCond .ne 5, 3) := by decide +kernel
theorem dX12_compare_113 : decode cX12_compare 113 = .ok (.iconst 0, 1) := by decide +kernel
theorem dX12_compare_114 : decode cX12_compare 114 = .ok (.ireturn, 1) := by decide +kernel
theorem dX12_compare_115 : decode cX12_compare 115 = .ok (.iload_n 1, 1) := by decide +kernel
theorem dX12_compare_116 : decode cX12_compare 116 = .ok (.bipush 60, 2) := by decide +kernel
theorem dX12_compare_118 : decode cX12_compare 118 = .ok (.if_icmp .ne 15, 3) := by decide +kernel
theorem dX12_compare_121 : decode cX12_compare 121 = .ok (.iload_n 3, 1) := by decide +kernel
theorem dX12_compare_122 : decode cX12_compare 122 = .ok (.ifCond .eq 7, 3) := by decide +kernel
theorem dX12_compare_125 : decode cX12_compare 125 = .ok (.iconst 1, 1) := by decide +kernel
theorem dX12_compare_126 : decode cX12_compare 126 = .ok (.goto 26, 3) := by decide +kernel
theorem dX12_compare_129 : decode cX12_compare 129 = .ok (.iconst 0, 1) := by decide +kernel
theorem dX12_compare_130 : decode cX12_compare 130 = .ok (.goto 22, 3) := by decide +kernel
theorem dX12_compare_133 : decode cX12_compare 133 = .ok (.iload_n 1, 1) := by decide +kernel
theorem dX12_compare_134 : decode cX12_compare 134 = .ok (.bipush 61, 2) := by decide +kernel
theorem dX12_compare_136 : decode cX12_compare 136 = .ok (.if_icmp .ne 7, 3) := by decide +kernel
theorem dX12_compare_139 : decode cX12_compare 139 = .ok (.iconst 2, 1) := by decide +kernel
theorem dX12_compare_140 : decode cX12_compare 140 = .ok (.goto 12, 3) := by decide +kernel
theorem dX12_compare_143 : decode cX12_compare 143 = .ok (.iload_n 3, 1) := by decide +kernel
theorem dX12_compare_144 : decode cX12_compare 144 = .ok (.ifCond .eq 7, 3) := by decide +kernel
theorem dX12_compare_147 : decode cX12_compare 147 = .ok (.iconst 3, 1) := by decide +kernel
theorem dX12_compare_148 : decode cX12_compare 148 = .ok (.goto 4, 3) := by decide +kernel
theorem dX12_compare_151 : decode cX12_compare 151 = .ok (.iconst 4, 1) := by decide +kernel
theorem dX12_compare_152 : decode cX12_compare 152 = .ok (.istore 4, 2) := by decide +kernel
theorem dX12_compare_154 : decode cX12_compare 154 = .ok (.aload_n 0, 1) := by decide +kernel
theorem dX12_compare_155 : decode cX12_compare 155 = .ok (.invokevirtual 249, 3) := by decide +kernel
theorem dX12_compare_158 : decode cX12_compare 158 = .ok (.ifCond .ne 5, 3) := by decide +kernel
theorem dX12_compare_161 : decode cX12_compare 161 = .ok (.iconst 0, 1) := by decide +kernel
theorem dX12_compare_162 : decode cX12_compare 162 = .ok (.ireturn, 1) := by decide +kernel
theorem dX12_compare_163 : decode cX12_compare 163 = .ok (.aload_n 0, 1) := by decide +kernel
theorem dX12_compare_164 : decode cX12_compare 164 = .ok (.bipush 6, 2) := by decide +kernel
theorem dX12_compare_166 : decode cX12_compare 166 = .ok (.iload 4, 2) := by decide +kernel
theorem dX12_compare_168 : decode cX12_compare 168 = .ok (.iadd, 1) := by decide +kernel
theorem dX12_compare_169 : decode cX12_compare 169 = .ok (.iconst 0, 1) := by decide +kernel
theorem dX12_compare_170 : decode cX12_compare 170 = .ok (.invokevirtual 228, 3) := by decide +kernel
theorem dX12_compare_173 : decode cX12_compare 173 = .ok (.iconst 1, 1) := by decide +kernel
theorem dX12_compare_174 : decode cX12_compare 174 = .ok (.ireturn, 1) := by decide +kernel
theorem wk_615 : Cond.methodLink RX12 249 yX12_sum ∈ tl_L := List.mem_filter.mpr ⟨lw_m7 (i := 125) rfl, rfl⟩
theorem wk_616 : Cond.instanceMethod yX12_sum ∈ tl_L := List.mem_filter.mpr ⟨lw_m7 (i := 127) rfl, rfl⟩
theorem wk_617 : Cond.selects RX12 yX12_sum yX12_sum ∈ tl_L := List.mem_filter.mpr ⟨lw_s8 (i := 12) (q := (yX12_sum, 49)) rfl, rfl⟩
theorem wk_618 : Cond.code yX12_sum cX12_sum 2 (some .boolean) ∈ tl_L := List.mem_filter.mpr ⟨lw_m7 (i := 128) rfl, rfl⟩
theorem lk_X12_249 : tl_kV RX12 249 RX12 yX12_sum cX12_sum 2 (some .boolean) 0 := ⟨wk_618, wk_615, wk_616, wk_617, wk_5, ⟨by decide +kernel, by decide +kernel, by decide +kernel⟩⟩
set_option maxHeartbeats 4000000 in
set_option maxRecDepth 100000 in
theorem r_X12_compare (l : Launch) (D : va_G) (cy : Nat → ClassId) (sz : Nat) (L : List Nat) (K : Nat → tk_K) (Γ : tk_G) (f : Nat → va_E) (o : Nat) (τ : Nat → Int) (T0 : Int) (t0 : Int) (a : Nat) (d : Int) (ho : tp_r L K 39 (0) 0 o) (ht : Γ (41, 400, 0) = τ) (hT : Γ (39, 0, 0) 0 = T0) (hb0 : 0 ≤ Γ (39, 0, 0) 1 ∧ Γ (39, 0, 0) 1 ≤ T0 ∧ T0 ≤ 400) (h4 : Γ (39, 0, 0) 4 = t0) (hp : ps (Γ (43, 8800, 0)) t0 (Γ (44, 22, 0) t0.toNat) (Γ (39, 0, 0) 1) T0 (Γ (39, 0, 0) 5) a (d)) : Met l yX12_compare (tl_w yX12_compare cX12_compare 5 (some .boolean)) ({ frames := 6, cells := 0, slots := 0, locals := 130 }) (va_Pc [.ref o] (tp_P D cy L K Γ f sz)) (va_Qi (fun (r : Int32) (u : (Nat → va_E) × tk_G) => tl_J r (ps (u.2 (43, 8800, 0)) t0 (u.2 (44, 22, 0) t0.toNat) (u.2 (39, 0, 0) 1) T0 (u.2 (39, 0, 0) 5) a (d + 1) ∧ Γ (39, 0, 0) 1 - Γ (44, 22, 0) t0.toNat ≤ u.2 (39, 0, 0) 1 - u.2 (44, 22, 0) t0.toNat ∧ fz (Γ (43, 8800, 0)) (u.2 (43, 8800, 0)) (Γ (44, 22, 0)) (u.2 (44, 22, 0)) t0) ∧ u.2 (39, 0, 0) 0 = Γ (39, 0, 0) 0 ∧ u.2 (39, 0, 0) 4 = Γ (39, 0, 0) 4 ∧ u.2 (39, 0, 0) 6 = Γ (39, 0, 0) 6 ∧ u.2 (39, 0, 0) 7 = Γ (39, 0, 0) 7 ∧ u.2 (39, 0, 0) 8 = Γ (39, 0, 0) 8 ∧ Γ (39, 0, 0) 1 ≤ u.2 (39, 0, 0) 1 ∧ u.2 (39, 0, 0) 1 ≤ T0 ∧ fw (Γ (43, 8800, 0)) (u.2 (43, 8800, 0)) (Γ (44, 22, 0)) (u.2 (44, 22, 0)) t0) (tp_BG D cy L K Γ f [39, 43, 44]) (tp_A L sz)) 0 0 (tp_A L sz) := by
  refine Met.ofW (cc := cX12_compare) (maxL := 5) (ret := (some .boolean)) (by decide) rfl ?_
  intro p e s m args below meth c s₁ B hml hv
  obtain ⟨rfl, hsz, hP, hK, hL, hI, hN, hU⟩ := hv
  have hx := B.exec
  have hb := B.bytes
  have hr := B.returns
  have hta := tl_hta (atoms_spec (ws := tl_w yX12_compare cX12_compare 5 (some .boolean)) B.pre)
  have hown : s.vm.findClass RX12 = some m.cls := findClass_of_methodNamed B.named
  have hlocks := B.notSynchronized
  subst hsz
  have hI0 := hI
  generalize hAe : tp_A L s.heap.size = A
  have hA : ∀ q : Nat, s.heap.size ≤ q → A q := fun q h => by rw [← hAe]; exact Or.inr h
  have hAL : ∀ q ∈ L, A q := fun q h => by rw [← hAe]; exact Or.inl h
  have hAf : ∀ (H : Heap), s.heap.size ≤ H.size → ∀ q, tp_A L H.size q → A q := fun H h q hq => hq.elim (hAL q) (fun h2 => hA q (Nat.le_trans h h2))
  have hS : va_S A s.heap s.heap [] := va_S.rf
  have hD : va_D A (va_pl L f) := tp_D hL hAL
  have hfr : ∀ b, (K b).1 ∉ ([39, 43, 44] : List Nat) → f b = f b := fun _ _ => rfl
  have hgr : ∀ κ : tk_K, κ.1 ∉ ([39, 43, 44] : List Nat) → Γ κ = Γ κ := fun _ _ => rfl
  have hl := lv_entry ([.ref o]) (n := 5) (Nat.le_of_ble_eq_true rfl)
  rw [lg_entry_eq]
  generalize (lg_sl ([.ref o]) ++ List.replicate (5 - (lg_sl ([.ref o])).length) Slot.unset).toArray = ls at hl ⊢
  have hl : lv_has ls 5 [(0, .ref o)] := hl
  have hz : fz (Γ (43, 8800, 0)) (Γ (43, 8800, 0)) (Γ (44, 22, 0)) (Γ (44, 22, 0)) t0 := fz.rfl
  have hfw : fw (Γ (43, 8800, 0)) (Γ (43, 8800, 0)) (Γ (44, 22, 0)) (Γ (44, 22, 0)) t0 := fw.same
  have hpo := hp
  obtain ⟨hp1, hp2, hp3, hp4, _⟩ := hpo
  refine lv_aload_n hx hb dX12_compare_0 rfl (lv_at hl 0 rfl) ?_
  obtain ⟨r_2, v_3, q_4, hf_1, hr_5, hv_6⟩ := (show tp_o_M L K 0 0 (Γ (39, 0, 0)) (f o) from hI.at ho)
  refine tq_ciR hS (hAf _ hS.1) (tq_rV (As := []) (rest := []) ⟨hx, hb, hml, hown, hta⟩ (tp_P.pre hK hN hL hU hI hP) (tp_recv hK hP ho.1 hf_1 rfl) lk_X12_249 (r_X12_sum l D cy s.heap.size L K Γ f o τ T0 t0 a d ho ht (by first | omega | (simp only [Int32.toInt_toInt64]; omega) | decide | assumption) (by first | omega | (simp only [Int32.toInt_toInt64]; omega) | decide | assumption) (by first | omega | (simp only [Int32.toInt_toInt64]; omega) | decide | assumption) (by first | omega | (simp only [Int32.toInt_toInt64]; omega) | decide | assumption)) rfl rfl ⟨Nat.le_of_ble_eq_true rfl, Nat.le_of_ble_eq_true rfl⟩ rfl hl.1 rfl (Nat.le_of_ble_eq_true rfl) dX12_compare_1 ⟨Nat.le_of_ble_eq_true rfl, Nat.le_of_ble_eq_true rfl⟩) (fun r_16 f_17 Γ_19 H locs hw_15 hP hI hc_18 hcg_20 hS => ?_)
  have hD : va_D A (va_pl L f_17) := tp_D hL hAL
  have hfr := tp_fr2 hfr hc_18 (by decide)
  have hgr : ∀ κ : tk_K, κ.1 ∉ ([39, 43, 44] : List Nat) → Γ_19 κ = Γ κ := tg_fr2 hgr hcg_20 (by decide)
  obtain ⟨hE_21, hw_15⟩ := hw_15
  have hE_21 : tl_J r_16 (ps (Γ_19 (43, 8800, 0)) t0 (Γ_19 (44, 22, 0) t0.toNat) (Γ_19 (39, 0, 0) 1) T0 (Γ_19 (39, 0, 0) 5) a (d + 1) ∧ Γ (39, 0, 0) 1 - Γ (44, 22, 0) t0.toNat ≤ Γ_19 (39, 0, 0) 1 - Γ_19 (44, 22, 0) t0.toNat ∧ fz (Γ (43, 8800, 0)) (Γ_19 (43, 8800, 0)) (Γ (44, 22, 0)) (Γ_19 (44, 22, 0)) t0) := hE_21
  have hw_15 : Γ_19 (39, 0, 0) 0 = Γ (39, 0, 0) 0 ∧ Γ_19 (39, 0, 0) 4 = Γ (39, 0, 0) 4 ∧ Γ_19 (39, 0, 0) 6 = Γ (39, 0, 0) 6 ∧ Γ_19 (39, 0, 0) 7 = Γ (39, 0, 0) 7 ∧ Γ_19 (39, 0, 0) 8 = Γ (39, 0, 0) 8 ∧ Γ (39, 0, 0) 1 ≤ Γ_19 (39, 0, 0) 1 ∧ Γ_19 (39, 0, 0) 1 ≤ T0 ∧ fw (Γ (43, 8800, 0)) (Γ_19 (43, 8800, 0)) (Γ (44, 22, 0)) (Γ_19 (44, 22, 0)) t0 := hw_15
  have hfw := hfw.trans hw_15.2.2.2.2.2.2.2
  refine lv_if_ne (tgt := 9) hx hb dX12_compare_4 (by decide) (fun c_22 => ?_) (fun c_22 => ?_)
  · have c_22 := hE_21.t c_22
    obtain ⟨hp, hsl, hz9⟩ := c_22
    have hz := hz.trans hz9
    refine lv_aload_n hx hb dX12_compare_9 rfl (lv_at hl 0 rfl) ?_
    obtain ⟨r_24, v_25, q_26, hf_23, hr_27, hv_28⟩ := (show tp_o_M L K 0 0 (Γ_19 (39, 0, 0)) (f_17 o) from hI.at ho)
    refine tq_ciR hS (hAf _ hS.1) (tq_rV (As := []) (rest := []) ⟨hx, hb, hml, hown, hta⟩ (tp_P.pre hK hN hL hU hI hP) (tp_recv hK hP ho.1 hf_23 rfl) lk_X12_167 (r_X12_see l D cy H.size L K Γ_19 f_17 o τ T0 ho ((hgr _ (by decide)).trans ht) (by first | omega | (simp only [Int32.toInt_toInt64]; omega) | decide | assumption) (by first | omega | (simp only [Int32.toInt_toInt64]; omega) | decide | assumption)) rfl rfl ⟨Nat.le_of_ble_eq_true rfl, Nat.le_of_ble_eq_true rfl⟩ rfl hl.1 rfl (Nat.le_of_ble_eq_true rfl) dX12_compare_10 ⟨Nat.le_of_ble_eq_true rfl, Nat.le_of_ble_eq_true rfl⟩) (fun r_38 f_39 Γ_41 H locs hw_37 hP hI hc_40 hcg_42 hS => ?_)
    have hD : va_D A (va_pl L f_39) := tp_D hL hAL
    have hfr := tp_fr2 hfr hc_40 (by decide)
    have hgr : ∀ κ : tk_K, κ.1 ∉ ([39, 43, 44] : List Nat) → Γ_41 κ = Γ κ := tg_fr2 hgr hcg_42 (by decide)
    have hw_37 : Γ_41 (39, 0, 0) 0 = Γ_19 (39, 0, 0) 0 ∧ Γ_41 (39, 0, 0) 3 = Γ_19 (39, 0, 0) 3 ∧ Γ_41 (39, 0, 0) 4 = Γ_19 (39, 0, 0) 4 ∧ Γ_41 (39, 0, 0) 5 = Γ_19 (39, 0, 0) 5 ∧ Γ_41 (39, 0, 0) 6 = Γ_19 (39, 0, 0) 6 ∧ Γ_41 (39, 0, 0) 7 = Γ_19 (39, 0, 0) 7 ∧ Γ_41 (39, 0, 0) 8 = Γ_19 (39, 0, 0) 8 ∧ Γ_19 (39, 0, 0) 1 ≤ Γ_41 (39, 0, 0) 1 ∧ Γ_41 (39, 0, 0) 1 ≤ T0 ∧ (¬ τ (Γ_19 (39, 0, 0) 1).toNat = 32 → Γ_41 (39, 0, 0) 1 = Γ_19 (39, 0, 0) 1) ∧ ((r_38.toInt = -1 ∧ Γ_41 (39, 0, 0) 1 = T0) ∨ (0 ≤ r_38.toInt ∧ r_38.toInt ≤ 255 ∧ Γ_41 (39, 0, 0) 1 < T0 ∧ ¬ τ (Γ_41 (39, 0, 0) 1).toNat = 32)) := hw_37
    obtain ⟨hpa, hpb, hpc, hpd, _⟩ := id hp
    have hle := congrFun (hcg_42 (44, 22, 0) (by decide)) t0.toNat
    have hp : ps (Γ_41 (43, 8800, 0)) t0 (Γ_41 (44, 22, 0) t0.toNat) (Γ_41 (39, 0, 0) 1) T0 (Γ_41 (39, 0, 0) 5) a (d + 1) := hp.eq (hcg_42 (43, 8800, 0) (by decide)) rfl (congrFun (hcg_42 (44, 22, 0) (by decide)) _) (by omega) rfl (by omega)
    have hz : fz (Γ (43, 8800, 0)) (Γ_41 (43, 8800, 0)) (Γ (44, 22, 0)) (Γ_41 (44, 22, 0)) t0 := by rw [(hcg_42 (43, 8800, 0) (by decide)), (hcg_42 (44, 22, 0) (by decide))]; exact hz
    have hfw : fw (Γ (43, 8800, 0)) (Γ_41 (43, 8800, 0)) (Γ (44, 22, 0)) (Γ_41 (44, 22, 0)) t0 := by rw [(hcg_42 (43, 8800, 0) (by decide)), (hcg_42 (44, 22, 0) (by decide))]; exact hfw
    refine lv_istore_n (lv' := [(1, .int r_38), (0, .ref o)]) hx hb dX12_compare_13 rfl hl (by decide) rfl (fun ls hl => ?_)
    refine lv_aload_n hx hb dX12_compare_14 rfl (lv_at hl 1 rfl) ?_
    obtain ⟨r_44, v_45, q_46, hf_43, hr_47, hv_48⟩ := (show tp_o_M L K 0 0 (Γ_41 (39, 0, 0)) (f_39 o) from hI.at ho)
    have hx_49 : (v_45 0).toInt = Γ_41 (39, 0, 0) 0 := hv_48 0 (by decide)
    have hx_50 : (v_45 1).toInt = Γ_41 (39, 0, 0) 1 := hv_48 1 (by decide)
    have hx_51 : (v_45 3).toInt = Γ_41 (39, 0, 0) 3 := hv_48 3 (by decide)
    have hx_52 : (v_45 4).toInt = Γ_41 (39, 0, 0) 4 := hv_48 4 (by decide)
    have hx_53 : (v_45 5).toInt = Γ_41 (39, 0, 0) 5 := hv_48 5 (by decide)
    have hx_54 : (v_45 6).toInt = Γ_41 (39, 0, 0) 6 := hv_48 6 (by decide)
    have hx_55 : (v_45 7).toInt = Γ_41 (39, 0, 0) 7 := hv_48 7 (by decide)
    have hx_56 : (v_45 8).toInt = Γ_41 (39, 0, 0) 8 := hv_48 8 (by decide)
    refine tp_get (cy := cy) (ci := 12) (v := .int (v_45 1)) (C := RX12) (T := TX12) (N := 49) hx hb hta inlX12 hown hK hP ho.1 hf_43 rfl 17 (by decide) (hta _ wk_539) (fun _ h9 => h9) rfl dX12_compare_15 ?_
    refine lv_istore_n (lv' := [(2, .int (v_45 1)), (1, .int r_38), (0, .ref o)]) hx hb dX12_compare_18 rfl hl (by decide) rfl (fun ls hl => ?_)
    have hjn105 : ∀ (f_57 : Nat → va_E) (Γ_58 : tk_G) (u1 : Int32) (u3 : Int32) (H : Heap) (locs : List Loc) (ls : Array Slot), (ps (Γ_58 (43, 8800, 0)) t0 (Γ_58 (44, 22, 0) t0.toNat) (Γ_58 (39, 0, 0) 1) T0 (Γ_58 (39, 0, 0) 5) a (d + 1)) → (fz (Γ (43, 8800, 0)) (Γ_58 (43, 8800, 0)) (Γ (44, 22, 0)) (Γ_58 (44, 22, 0)) t0) → (fw (Γ (43, 8800, 0)) (Γ_58 (43, 8800, 0)) (Γ (44, 22, 0)) (Γ_58 (44, 22, 0)) t0) → (Γ (39, 0, 0) 1 - Γ (44, 22, 0) t0.toNat + 1 ≤ Γ_58 (39, 0, 0) 1 - Γ_58 (44, 22, 0) t0.toNat) → (Γ_58 (39, 0, 0) 0 = Γ (39, 0, 0) 0) → (Γ_58 (39, 0, 0) 4 = Γ (39, 0, 0) 4) → (Γ_58 (39, 0, 0) 6 = Γ (39, 0, 0) 6) → (Γ_58 (39, 0, 0) 7 = Γ (39, 0, 0) 7) → (Γ_58 (39, 0, 0) 8 = Γ (39, 0, 0) 8) → (Γ (39, 0, 0) 1 ≤ Γ_58 (39, 0, 0) 1 ∧ Γ_58 (39, 0, 0) 1 ≤ T0) → (u3.toInt = 0 ∨ u3.toInt = 1) → va_P D vwCl (va_pl L f_57) H → tp_I cy L K Γ_58 f_57 → (∀ b, (K b).1 ∉ ([39, 43, 44] : List Nat) → f_57 b = f b) → (∀ κ : tk_K, κ.1 ∉ ([39, 43, 44] : List Nat) → Γ_58 κ = Γ κ) → va_S A s.heap H locs → lv_has ls 5 [(1, .int u1), (3, .int u3), (2, .int (v_45 1)), (0, .ref o)] → W p l e ((headSpec (tl_w yX12_compare cX12_compare 5 (some .boolean)) ({ frames := 6, cells := 0, slots := 0, locals := 130 })).room) s m #[.ref o] below meth c H locs 0 0 (MQ below (va_Qi (fun (r : Int32) (u : (Nat → va_E) × tk_G) => tl_J r (ps (u.2 (43, 8800, 0)) t0 (u.2 (44, 22, 0) t0.toNat) (u.2 (39, 0, 0) 1) T0 (u.2 (39, 0, 0) 5) a (d + 1) ∧ Γ (39, 0, 0) 1 - Γ (44, 22, 0) t0.toNat ≤ u.2 (39, 0, 0) 1 - u.2 (44, 22, 0) t0.toNat ∧ fz (Γ (43, 8800, 0)) (u.2 (43, 8800, 0)) (Γ (44, 22, 0)) (u.2 (44, 22, 0)) t0) ∧ u.2 (39, 0, 0) 0 = Γ (39, 0, 0) 0 ∧ u.2 (39, 0, 0) 4 = Γ (39, 0, 0) 4 ∧ u.2 (39, 0, 0) 6 = Γ (39, 0, 0) 6 ∧ u.2 (39, 0, 0) 7 = Γ (39, 0, 0) 7 ∧ u.2 (39, 0, 0) 8 = Γ (39, 0, 0) 8 ∧ Γ (39, 0, 0) 1 ≤ u.2 (39, 0, 0) 1 ∧ u.2 (39, 0, 0) 1 ≤ T0 ∧ fw (Γ (43, 8800, 0)) (u.2 (43, 8800, 0)) (Γ (44, 22, 0)) (u.2 (44, 22, 0)) t0) (tp_BG D cy L K Γ f [39, 43, 44]) A) #[.ref o] s 0 0 A) (F0 m 105 ls []) := by
      intro f_57 Γ_58 u1 u3 H locs ls hp hz hfw hsl q0 q4 q6 q7 q8 hx9 hu3 hP hI hfr hgr hS hl
      have hD : va_D A (va_pl L f_57) := tp_D hL hAL
      refine lv_aload_n hx hb dX12_compare_105 rfl (lv_at hl 3 rfl) ?_
      refine lv_iload_n hx hb dX12_compare_106 rfl (lv_at hl 2 rfl) ?_
      obtain ⟨hpa, hpb, hpc, hpd, _⟩ := id hp
      obtain ⟨r_60, v_61, q_62, hf_59, hr_63, hv_64⟩ := (show tp_o_M L K 0 0 (Γ_58 (39, 0, 0)) (f_57 o) from hI.at ho)
      refine tq_ciR hS (hAf _ hS.1) (tq_rV (As := [.int (v_45 1)]) (rest := []) ⟨hx, hb, hml, hown, hta⟩ (tp_P.pre hK hN hL hU hI hP) (tp_recv hK hP ho.1 hf_59 rfl) lk_X12_236 (r_X12_makes l D cy H.size L K Γ_58 f_57 o (v_45 1) ho (by first | omega | (simp only [Int32.toInt_toInt64]; omega) | decide | assumption)) rfl rfl ⟨Nat.le_of_ble_eq_true rfl, Nat.le_of_ble_eq_true rfl⟩ rfl hl.1 rfl (Nat.le_of_ble_eq_true rfl) dX12_compare_107 ⟨Nat.le_of_ble_eq_true rfl, Nat.le_of_ble_eq_true rfl⟩) (fun r_74 f_75 Γ_77 H locs hw_73 hP hI hc_76 hcg_78 hS => ?_)
      have hD : va_D A (va_pl L f_75) := tp_D hL hAL
      have hfr := tp_fr2 hfr hc_76 (by decide)
      have hgr : ∀ κ : tk_K, κ.1 ∉ ([39, 43, 44] : List Nat) → Γ_77 κ = Γ κ := tg_fr2 hgr hcg_78 (by decide)
      obtain ⟨hE_79, hw_73⟩ := hw_73
      have hE_79 : tl_J r_74 (Γ_77 (39, 0, 0) 5 = Γ_58 (39, 0, 0) 5 + 1) := hE_79
      have hw_73 : Γ_77 (39, 0, 0) 0 = Γ_58 (39, 0, 0) 0 ∧ Γ_77 (39, 0, 0) 1 = Γ_58 (39, 0, 0) 1 ∧ Γ_77 (39, 0, 0) 3 = Γ_58 (39, 0, 0) 3 ∧ Γ_77 (39, 0, 0) 4 = Γ_58 (39, 0, 0) 4 ∧ Γ_77 (39, 0, 0) 6 = Γ_58 (39, 0, 0) 6 ∧ Γ_77 (39, 0, 0) 7 = Γ_58 (39, 0, 0) 7 ∧ Γ_77 (39, 0, 0) 8 = Γ_58 (39, 0, 0) 8 ∧ Γ_58 (39, 0, 0) 5 ≤ Γ_77 (39, 0, 0) 5 ∧ Γ_77 (39, 0, 0) 5 ≤ 60 := hw_73
      obtain ⟨hpa, hpb, hpc, hpd, _⟩ := id hp
      have hle := congrFun (hcg_78 (44, 22, 0) (by decide)) t0.toNat
      have hp : ps (Γ_77 (43, 8800, 0)) t0 (Γ_77 (44, 22, 0) t0.toNat) (Γ_77 (39, 0, 0) 1) T0 (Γ_77 (39, 0, 0) 5) a (d + 1) := hp.eq (hcg_78 (43, 8800, 0) (by decide)) rfl (congrFun (hcg_78 (44, 22, 0) (by decide)) _) (by omega) rfl (by omega)
      have hz : fz (Γ (43, 8800, 0)) (Γ_77 (43, 8800, 0)) (Γ (44, 22, 0)) (Γ_77 (44, 22, 0)) t0 := by rw [(hcg_78 (43, 8800, 0) (by decide)), (hcg_78 (44, 22, 0) (by decide))]; exact hz
      have hfw : fw (Γ (43, 8800, 0)) (Γ_77 (43, 8800, 0)) (Γ (44, 22, 0)) (Γ_77 (44, 22, 0)) t0 := by rw [(hcg_78 (43, 8800, 0) (by decide)), (hcg_78 (44, 22, 0) (by decide))]; exact hfw
      refine lv_if_ne (tgt := 115) hx hb dX12_compare_110 (by decide) (fun c_80 => ?_) (fun c_80 => ?_)
      · have c_80 := hE_79.t c_80
        have hjn154 : ∀ (f_81 : Nat → va_E) (Γ_82 : tk_G) (u4 : Int32) (H : Heap) (locs : List Loc) (ls : Array Slot), (ps (Γ_82 (43, 8800, 0)) t0 (Γ_82 (44, 22, 0) t0.toNat) (Γ_82 (39, 0, 0) 1) T0 (Γ_82 (39, 0, 0) 5) a (d + 1)) → (fz (Γ (43, 8800, 0)) (Γ_82 (43, 8800, 0)) (Γ (44, 22, 0)) (Γ_82 (44, 22, 0)) t0) → (fw (Γ (43, 8800, 0)) (Γ_82 (43, 8800, 0)) (Γ (44, 22, 0)) (Γ_82 (44, 22, 0)) t0) → (Γ (39, 0, 0) 1 - Γ (44, 22, 0) t0.toNat + 1 ≤ Γ_82 (39, 0, 0) 1 - Γ_82 (44, 22, 0) t0.toNat) → (Γ_82 (39, 0, 0) 0 = Γ (39, 0, 0) 0) → (Γ_82 (39, 0, 0) 4 = Γ (39, 0, 0) 4) → (Γ_82 (39, 0, 0) 6 = Γ (39, 0, 0) 6) → (Γ_82 (39, 0, 0) 7 = Γ (39, 0, 0) 7) → (Γ_82 (39, 0, 0) 8 = Γ (39, 0, 0) 8) → (Γ (39, 0, 0) 1 ≤ Γ_82 (39, 0, 0) 1 ∧ Γ_82 (39, 0, 0) 1 ≤ T0) → (0 ≤ u4.toInt ∧ u4.toInt ≤ 4) → va_P D vwCl (va_pl L f_81) H → tp_I cy L K Γ_82 f_81 → (∀ b, (K b).1 ∉ ([39, 43, 44] : List Nat) → f_81 b = f b) → (∀ κ : tk_K, κ.1 ∉ ([39, 43, 44] : List Nat) → Γ_82 κ = Γ κ) → va_S A s.heap H locs → lv_has ls 5 [(4, .int u4), (2, .int (v_45 1)), (0, .ref o)] → W p l e ((headSpec (tl_w yX12_compare cX12_compare 5 (some .boolean)) ({ frames := 6, cells := 0, slots := 0, locals := 130 })).room) s m #[.ref o] below meth c H locs 0 0 (MQ below (va_Qi (fun (r : Int32) (u : (Nat → va_E) × tk_G) => tl_J r (ps (u.2 (43, 8800, 0)) t0 (u.2 (44, 22, 0) t0.toNat) (u.2 (39, 0, 0) 1) T0 (u.2 (39, 0, 0) 5) a (d + 1) ∧ Γ (39, 0, 0) 1 - Γ (44, 22, 0) t0.toNat ≤ u.2 (39, 0, 0) 1 - u.2 (44, 22, 0) t0.toNat ∧ fz (Γ (43, 8800, 0)) (u.2 (43, 8800, 0)) (Γ (44, 22, 0)) (u.2 (44, 22, 0)) t0) ∧ u.2 (39, 0, 0) 0 = Γ (39, 0, 0) 0 ∧ u.2 (39, 0, 0) 4 = Γ (39, 0, 0) 4 ∧ u.2 (39, 0, 0) 6 = Γ (39, 0, 0) 6 ∧ u.2 (39, 0, 0) 7 = Γ (39, 0, 0) 7 ∧ u.2 (39, 0, 0) 8 = Γ (39, 0, 0) 8 ∧ Γ (39, 0, 0) 1 ≤ u.2 (39, 0, 0) 1 ∧ u.2 (39, 0, 0) 1 ≤ T0 ∧ fw (Γ (43, 8800, 0)) (u.2 (43, 8800, 0)) (Γ (44, 22, 0)) (u.2 (44, 22, 0)) t0) (tp_BG D cy L K Γ f [39, 43, 44]) A) #[.ref o] s 0 0 A) (F0 m 154 ls []) := by
          intro f_81 Γ_82 u4 H locs ls hp hz hfw hsl q0 q4 q6 q7 q8 hx9 hu4 hP hI hfr hgr hS hl
          have hD : va_D A (va_pl L f_81) := tp_D hL hAL
          refine lv_aload_n hx hb dX12_compare_154 rfl (lv_at hl 2 rfl) ?_
          obtain ⟨r_84, v_85, q_86, hf_83, hr_87, hv_88⟩ := (show tp_o_M L K 0 0 (Γ_82 (39, 0, 0)) (f_81 o) from hI.at ho)
          refine tq_ciR hS (hAf _ hS.1) (tq_rV (As := []) (rest := []) ⟨hx, hb, hml, hown, hta⟩ (tp_P.pre hK hN hL hU hI hP) (tp_recv hK hP ho.1 hf_83 rfl) lk_X12_249 (r_X12_sum l D cy H.size L K Γ_82 f_81 o τ T0 t0 a (d + 1) ho ((hgr _ (by decide)).trans ht) (by first | omega | (simp only [Int32.toInt_toInt64]; omega) | decide | assumption) (by first | omega | (simp only [Int32.toInt_toInt64]; omega) | decide | assumption) (by first | omega | (simp only [Int32.toInt_toInt64]; omega) | decide | assumption) (by first | omega | (simp only [Int32.toInt_toInt64]; omega) | decide | assumption)) rfl rfl ⟨Nat.le_of_ble_eq_true rfl, Nat.le_of_ble_eq_true rfl⟩ rfl hl.1 rfl (Nat.le_of_ble_eq_true rfl) dX12_compare_155 ⟨Nat.le_of_ble_eq_true rfl, Nat.le_of_ble_eq_true rfl⟩) (fun r_98 f_99 Γ_101 H locs hw_97 hP hI hc_100 hcg_102 hS => ?_)
          have hD : va_D A (va_pl L f_99) := tp_D hL hAL
          have hfr := tp_fr2 hfr hc_100 (by decide)
          have hgr : ∀ κ : tk_K, κ.1 ∉ ([39, 43, 44] : List Nat) → Γ_101 κ = Γ κ := tg_fr2 hgr hcg_102 (by decide)
          obtain ⟨hE_103, hw_97⟩ := hw_97
          have hE_103 : tl_J r_98 (ps (Γ_101 (43, 8800, 0)) t0 (Γ_101 (44, 22, 0) t0.toNat) (Γ_101 (39, 0, 0) 1) T0 (Γ_101 (39, 0, 0) 5) a ((d + 1) + 1) ∧ Γ_82 (39, 0, 0) 1 - Γ_82 (44, 22, 0) t0.toNat ≤ Γ_101 (39, 0, 0) 1 - Γ_101 (44, 22, 0) t0.toNat ∧ fz (Γ_82 (43, 8800, 0)) (Γ_101 (43, 8800, 0)) (Γ_82 (44, 22, 0)) (Γ_101 (44, 22, 0)) t0) := hE_103
          have hw_97 : Γ_101 (39, 0, 0) 0 = Γ_82 (39, 0, 0) 0 ∧ Γ_101 (39, 0, 0) 4 = Γ_82 (39, 0, 0) 4 ∧ Γ_101 (39, 0, 0) 6 = Γ_82 (39, 0, 0) 6 ∧ Γ_101 (39, 0, 0) 7 = Γ_82 (39, 0, 0) 7 ∧ Γ_101 (39, 0, 0) 8 = Γ_82 (39, 0, 0) 8 ∧ Γ_82 (39, 0, 0) 1 ≤ Γ_101 (39, 0, 0) 1 ∧ Γ_101 (39, 0, 0) 1 ≤ T0 ∧ fw (Γ_82 (43, 8800, 0)) (Γ_101 (43, 8800, 0)) (Γ_82 (44, 22, 0)) (Γ_101 (44, 22, 0)) t0 := hw_97
          have hfw := hfw.trans hw_97.2.2.2.2.2.2.2
          refine lv_if_ne (tgt := 163) hx hb dX12_compare_158 (by decide) (fun c_104 => ?_) (fun c_104 => ?_)
          · have c_104 := hE_103.t c_104
            obtain ⟨hp, hsl, hz9⟩ := c_104
            have hz := hz.trans hz9
            refine lv_aload_n hx hb dX12_compare_163 rfl (lv_at hl 2 rfl) ?_
            refine lv_bipush (v := 6) hx hb dX12_compare_164 (by decide) ?_
            refine lv_iload hx hb dX12_compare_166 (lv_at hl 0 rfl) ?_
            refine lv_iadd hx hb dX12_compare_168 ?_
            refine lv_topi (fun z_105 ez_105 => ?_)
            try have iz_105 : z_105.toInt = (6 : Int) + u4.toInt := by rw [ez_105]; exact tl_addN 6 u4 rfl rfl (by omega) (by omega)
            refine lv_iconst (v := 0) hx hb dX12_compare_169 (by decide) ?_
            obtain ⟨hpa, hpb, hpc, hpd, _⟩ := id hp
            obtain ⟨r_107, v_108, q_109, hf_106, hr_110, hv_111⟩ := (show tp_o_M L K 0 0 (Γ_101 (39, 0, 0)) (f_99 o) from hI.at ho)
            have hx_112 : (v_108 0).toInt = Γ_101 (39, 0, 0) 0 := hv_111 0 (by decide)
            have hx_113 : (v_108 1).toInt = Γ_101 (39, 0, 0) 1 := hv_111 1 (by decide)
            have hx_114 : (v_108 3).toInt = Γ_101 (39, 0, 0) 3 := hv_111 3 (by decide)
            have hx_115 : (v_108 4).toInt = Γ_101 (39, 0, 0) 4 := hv_111 4 (by decide)
            have hx_116 : (v_108 5).toInt = Γ_101 (39, 0, 0) 5 := hv_111 5 (by decide)
            have hx_117 : (v_108 6).toInt = Γ_101 (39, 0, 0) 6 := hv_111 6 (by decide)
            have hx_118 : (v_108 7).toInt = Γ_101 (39, 0, 0) 7 := hv_111 7 (by decide)
            have hx_119 : (v_108 8).toInt = Γ_101 (39, 0, 0) 8 := hv_111 8 (by decide)
            refine tq_cvR hS (hAf _ hS.1) (tq_rV (As := [.int z_105, .int 0]) (rest := []) ⟨hx, hb, hml, hown, hta⟩ (tp_P.pre hK hN hL hU hI hP) (tp_recv hK hP ho.1 hf_106 rfl) lk_X12_228 (r_X12_puts l D cy H.size L K Γ_101 f_99 o z_105 0 t0 ho (by first | omega | (simp only [Int32.toInt_toInt64]; omega) | decide | assumption) (by first | omega | (simp only [Int32.toInt_toInt64]; omega) | decide | assumption) (by first | omega | (simp only [Int32.toInt_toInt64]; omega) | decide | assumption) (by first | omega | (simp only [Int32.toInt_toInt64]; omega) | decide | assumption)) rfl rfl ⟨Nat.le_of_ble_eq_true rfl, Nat.le_of_ble_eq_true rfl⟩ rfl hl.1 rfl (Nat.le_of_ble_eq_true rfl) dX12_compare_170 ⟨Nat.le_of_ble_eq_true rfl, Nat.le_of_ble_eq_true rfl⟩) (fun f_122 Γ_124 H locs hw_120 hP hI hc_123 hcg_125 hS => ?_)
            have hD : va_D A (va_pl L f_122) := tp_D hL hAL
            have hfr := tp_fr2 hfr hc_123 (by decide)
            have hgr : ∀ κ : tk_K, κ.1 ∉ ([39, 43, 44] : List Nat) → Γ_124 κ = Γ κ := tg_fr2 hgr hcg_125 (by decide)
            have hf_126 := (tp_un hc_123 ho (by decide)).trans hf_106
            have hv_127 : ∀ i : Nat, i < 16 → (v_108 i).toInt = Γ_124 (39, 0, 0) i := fun i hi => by rw [hcg_125 _ (by decide)]; exact hv_111 i hi
            have hx_128 : (v_108 0).toInt = Γ_124 (39, 0, 0) 0 := hv_127 0 (by decide)
            have hx_129 : (v_108 1).toInt = Γ_124 (39, 0, 0) 1 := hv_127 1 (by decide)
            have hx_130 : (v_108 3).toInt = Γ_124 (39, 0, 0) 3 := hv_127 3 (by decide)
            have hx_131 : (v_108 4).toInt = Γ_124 (39, 0, 0) 4 := hv_127 4 (by decide)
            have hx_132 : (v_108 5).toInt = Γ_124 (39, 0, 0) 5 := hv_127 5 (by decide)
            have hx_133 : (v_108 6).toInt = Γ_124 (39, 0, 0) 6 := hv_127 6 (by decide)
            have hx_134 : (v_108 7).toInt = Γ_124 (39, 0, 0) 7 := hv_127 7 (by decide)
            have hx_135 : (v_108 8).toInt = Γ_124 (39, 0, 0) 8 := hv_127 8 (by decide)
            have mk_124_0 : Γ_124 (39, 0, 0) 0 = Γ_101 (39, 0, 0) 0 := congrFun (hcg_125 (39, 0, 0) (by decide)) 0
            have mk_124_1 : Γ_124 (39, 0, 0) 1 = Γ_101 (39, 0, 0) 1 := congrFun (hcg_125 (39, 0, 0) (by decide)) 1
            have mk_124_3 : Γ_124 (39, 0, 0) 3 = Γ_101 (39, 0, 0) 3 := congrFun (hcg_125 (39, 0, 0) (by decide)) 3
            have mk_124_4 : Γ_124 (39, 0, 0) 4 = Γ_101 (39, 0, 0) 4 := congrFun (hcg_125 (39, 0, 0) (by decide)) 4
            have mk_124_5 : Γ_124 (39, 0, 0) 5 = Γ_101 (39, 0, 0) 5 := congrFun (hcg_125 (39, 0, 0) (by decide)) 5
            have mk_124_6 : Γ_124 (39, 0, 0) 6 = Γ_101 (39, 0, 0) 6 := congrFun (hcg_125 (39, 0, 0) (by decide)) 6
            have mk_124_7 : Γ_124 (39, 0, 0) 7 = Γ_101 (39, 0, 0) 7 := congrFun (hcg_125 (39, 0, 0) (by decide)) 7
            have mk_124_8 : Γ_124 (39, 0, 0) 8 = Γ_101 (39, 0, 0) 8 := congrFun (hcg_125 (39, 0, 0) (by decide)) 8
            have hw_120 : Γ_124 (43, 8800, 0) = tgu (Γ_101 (43, 8800, 0)) (400 * t0 + Γ_101 (44, 22, 0) t0.toNat).toNat (z_105.toInt + 16 * (0 : Int)) ∧ Γ_124 (44, 22, 0) = tgu (Γ_101 (44, 22, 0)) t0.toNat (Γ_101 (44, 22, 0) t0.toNat + 1) := hw_120
            obtain ⟨hpa, hpb, hpc, hpd, _⟩ := id hp
            have hlem : rp_ok (z_105.toInt + 16 * (0 : Int)) ((d + 1) + 1) ∧ rp_d (z_105.toInt + 16 * (0 : Int)) = -1 := (rp_two (by omega) (by omega))
            have hput := hp.put (e := (z_105.toInt + 16 * (0 : Int))) (by omega) hlem.1 (by rw [hlem.2]; omega)
            rw [hlem.2] at hput
            have hln2 : Γ_124 (44, 22, 0) t0.toNat = Γ_101 (44, 22, 0) t0.toNat + 1 := by rw [hw_120.2, tgu_s]
            have hfz2 : fz (Γ_101 (43, 8800, 0)) (Γ_124 (43, 8800, 0)) (Γ_101 (44, 22, 0)) (Γ_124 (44, 22, 0)) t0 := by rw [hw_120.1, hw_120.2]; exact fz.put (by omega) (by omega)
            have hp : ps (Γ_124 (43, 8800, 0)) t0 (Γ_124 (44, 22, 0) t0.toNat) (Γ_124 (39, 0, 0) 1) T0 (Γ_124 (39, 0, 0) 5) a ((d + 1) + 1 + -1) := by rw [hln2, hw_120.1, show Γ_124 (39, 0, 0) 1 = Γ_101 (39, 0, 0) 1 from by omega, show Γ_124 (39, 0, 0) 5 = Γ_101 (39, 0, 0) 5 from by omega]; exact hput
            have hz := hz.trans hfz2
            have hfw := hfw.trans (hfz2.fw (by omega))
            refine lv_iconst (v := 1) hx hb dX12_compare_173 (by decide) ?_
            have hpo9 : tl_J (1 : Int32) (ps (Γ_124 (43, 8800, 0)) t0 (Γ_124 (44, 22, 0) t0.toNat) (Γ_124 (39, 0, 0) 1) T0 (Γ_124 (39, 0, 0) 5) a (d + 1) ∧ Γ (39, 0, 0) 1 - Γ (44, 22, 0) t0.toNat ≤ Γ_124 (39, 0, 0) 1 - Γ_124 (44, 22, 0) t0.toNat ∧ fz (Γ (43, 8800, 0)) (Γ_124 (43, 8800, 0)) (Γ (44, 22, 0)) (Γ_124 (44, 22, 0)) t0) ∧ Γ_124 (39, 0, 0) 0 = Γ (39, 0, 0) 0 ∧ Γ_124 (39, 0, 0) 4 = Γ (39, 0, 0) 4 ∧ Γ_124 (39, 0, 0) 6 = Γ (39, 0, 0) 6 ∧ Γ_124 (39, 0, 0) 7 = Γ (39, 0, 0) 7 ∧ Γ_124 (39, 0, 0) 8 = Γ (39, 0, 0) 8 ∧ Γ (39, 0, 0) 1 ≤ Γ_124 (39, 0, 0) 1 ∧ Γ_124 (39, 0, 0) 1 ≤ T0 ∧ fw (Γ (43, 8800, 0)) (Γ_124 (43, 8800, 0)) (Γ (44, 22, 0)) (Γ_124 (44, 22, 0)) t0 := ⟨(Or.inl ⟨rfl, ⟨(hp.dd (by omega)), (by omega), hz⟩⟩), ⟨(by omega), (by omega), (by omega), (by omega), (by omega), (by omega), (by omega), hfw⟩⟩
            exact W.zret (ty := .boolean) (v := 1) hx hb hr rfl (fun t ht hW => ⟨⟨_, (f_122, Γ_124), rfl, hpo9, by rw [ht]; exact hP, hI, hfr, hgr⟩, hS.F ht⟩) hS.2.2 dX12_compare_174
          · have c_104 := c_104
            refine lv_iconst (v := 0) hx hb dX12_compare_161 (by decide) ?_
            have hpo9 : tl_J (0 : Int32) (ps (Γ_101 (43, 8800, 0)) t0 (Γ_101 (44, 22, 0) t0.toNat) (Γ_101 (39, 0, 0) 1) T0 (Γ_101 (39, 0, 0) 5) a (d + 1) ∧ Γ (39, 0, 0) 1 - Γ (44, 22, 0) t0.toNat ≤ Γ_101 (39, 0, 0) 1 - Γ_101 (44, 22, 0) t0.toNat ∧ fz (Γ (43, 8800, 0)) (Γ_101 (43, 8800, 0)) (Γ (44, 22, 0)) (Γ_101 (44, 22, 0)) t0) ∧ Γ_101 (39, 0, 0) 0 = Γ (39, 0, 0) 0 ∧ Γ_101 (39, 0, 0) 4 = Γ (39, 0, 0) 4 ∧ Γ_101 (39, 0, 0) 6 = Γ (39, 0, 0) 6 ∧ Γ_101 (39, 0, 0) 7 = Γ (39, 0, 0) 7 ∧ Γ_101 (39, 0, 0) 8 = Γ (39, 0, 0) 8 ∧ Γ (39, 0, 0) 1 ≤ Γ_101 (39, 0, 0) 1 ∧ Γ_101 (39, 0, 0) 1 ≤ T0 ∧ fw (Γ (43, 8800, 0)) (Γ_101 (43, 8800, 0)) (Γ (44, 22, 0)) (Γ_101 (44, 22, 0)) t0 := ⟨(Or.inr rfl), ⟨(by omega), (by omega), (by omega), (by omega), (by omega), (by omega), (by omega), hfw⟩⟩
            exact W.zret (ty := .boolean) (v := 0) hx hb hr rfl (fun t ht hW => ⟨⟨_, (f_99, Γ_101), rfl, hpo9, by rw [ht]; exact hP, hI, hfr, hgr⟩, hS.F ht⟩) hS.2.2 dX12_compare_162
        refine lv_iload_n hx hb dX12_compare_115 rfl (lv_at hl 0 rfl) ?_
        refine lv_bipush (v := 60) hx hb dX12_compare_116 (by decide) ?_
        refine lv_icmp_ne (tgt := 133) hx hb dX12_compare_118 (by decide) (fun c_136 => ?_) (fun c_136 => ?_)
        · have c_136 : ¬ u1.toInt = (60 : Int) := tl_neq c_136
          refine lv_iload_n hx hb dX12_compare_133 rfl (lv_at hl 0 rfl) ?_
          refine lv_bipush (v := 61) hx hb dX12_compare_134 (by decide) ?_
          refine lv_icmp_ne (tgt := 143) hx hb dX12_compare_136 (by decide) (fun c_137 => ?_) (fun c_137 => ?_)
          · have c_137 : ¬ u1.toInt = (61 : Int) := tl_neq c_137
            refine lv_iload_n hx hb dX12_compare_143 rfl (lv_at hl 1 rfl) ?_
            refine lv_if_eq (tgt := 151) hx hb dX12_compare_144 (by decide) (fun c_138 => ?_) (fun c_138 => ?_)
            · have c_138 : u3.toInt = (0 : Int) := tl_eq c_138
              refine lv_iconst (v := 4) hx hb dX12_compare_151 (by decide) ?_
              refine lv_istore (lv' := [(4, .int 4), (1, .int u1), (3, .int u3), (2, .int (v_45 1)), (0, .ref o)]) hx hb dX12_compare_152 hl (by decide) rfl (fun ls hl => ?_)
              exact hjn154 f_75 Γ_77 4 H locs ls (show ps (Γ_77 (43, 8800, 0)) t0 (Γ_77 (44, 22, 0) t0.toNat) (Γ_77 (39, 0, 0) 1) T0 (Γ_77 (39, 0, 0) 5) a (d + 1) from hp) (show fz (Γ (43, 8800, 0)) (Γ_77 (43, 8800, 0)) (Γ (44, 22, 0)) (Γ_77 (44, 22, 0)) t0 from hz) (show fw (Γ (43, 8800, 0)) (Γ_77 (43, 8800, 0)) (Γ (44, 22, 0)) (Γ_77 (44, 22, 0)) t0 from hfw) (show Γ (39, 0, 0) 1 - Γ (44, 22, 0) t0.toNat + 1 ≤ Γ_77 (39, 0, 0) 1 - Γ_77 (44, 22, 0) t0.toNat from (by omega)) (show Γ_77 (39, 0, 0) 0 = Γ (39, 0, 0) 0 from (by omega)) (show Γ_77 (39, 0, 0) 4 = Γ (39, 0, 0) 4 from (by omega)) (show Γ_77 (39, 0, 0) 6 = Γ (39, 0, 0) 6 from (by omega)) (show Γ_77 (39, 0, 0) 7 = Γ (39, 0, 0) 7 from (by omega)) (show Γ_77 (39, 0, 0) 8 = Γ (39, 0, 0) 8 from (by omega)) (show Γ (39, 0, 0) 1 ≤ Γ_77 (39, 0, 0) 1 ∧ Γ_77 (39, 0, 0) 1 ≤ T0 from (by omega)) (show 0 ≤ (4 : Int) ∧ (4 : Int) ≤ 4 from (by decide)) hP hI hfr hgr hS (lv_sub hl [0, 3, 4] rfl)
            · have c_138 : ¬ u3.toInt = (0 : Int) := tl_neq c_138
              refine lv_iconst (v := 3) hx hb dX12_compare_147 (by decide) ?_
              refine lv_goto (tgt := 152) hx hb dX12_compare_148 (by decide) ?_
              refine lv_istore (lv' := [(4, .int 3), (1, .int u1), (3, .int u3), (2, .int (v_45 1)), (0, .ref o)]) hx hb dX12_compare_152 hl (by decide) rfl (fun ls hl => ?_)
              exact hjn154 f_75 Γ_77 3 H locs ls (show ps (Γ_77 (43, 8800, 0)) t0 (Γ_77 (44, 22, 0) t0.toNat) (Γ_77 (39, 0, 0) 1) T0 (Γ_77 (39, 0, 0) 5) a (d + 1) from hp) (show fz (Γ (43, 8800, 0)) (Γ_77 (43, 8800, 0)) (Γ (44, 22, 0)) (Γ_77 (44, 22, 0)) t0 from hz) (show fw (Γ (43, 8800, 0)) (Γ_77 (43, 8800, 0)) (Γ (44, 22, 0)) (Γ_77 (44, 22, 0)) t0 from hfw) (show Γ (39, 0, 0) 1 - Γ (44, 22, 0) t0.toNat + 1 ≤ Γ_77 (39, 0, 0) 1 - Γ_77 (44, 22, 0) t0.toNat from (by omega)) (show Γ_77 (39, 0, 0) 0 = Γ (39, 0, 0) 0 from (by omega)) (show Γ_77 (39, 0, 0) 4 = Γ (39, 0, 0) 4 from (by omega)) (show Γ_77 (39, 0, 0) 6 = Γ (39, 0, 0) 6 from (by omega)) (show Γ_77 (39, 0, 0) 7 = Γ (39, 0, 0) 7 from (by omega)) (show Γ_77 (39, 0, 0) 8 = Γ (39, 0, 0) 8 from (by omega)) (show Γ (39, 0, 0) 1 ≤ Γ_77 (39, 0, 0) 1 ∧ Γ_77 (39, 0, 0) 1 ≤ T0 from (by omega)) (show 0 ≤ (3 : Int) ∧ (3 : Int) ≤ 4 from (by decide)) hP hI hfr hgr hS (lv_sub hl [0, 3, 4] rfl)
          · have c_137 : u1.toInt = (61 : Int) := tl_eq c_137
            refine lv_iconst (v := 2) hx hb dX12_compare_139 (by decide) ?_
            refine lv_goto (tgt := 152) hx hb dX12_compare_140 (by decide) ?_
            refine lv_istore (lv' := [(4, .int 2), (1, .int u1), (3, .int u3), (2, .int (v_45 1)), (0, .ref o)]) hx hb dX12_compare_152 hl (by decide) rfl (fun ls hl => ?_)
            exact hjn154 f_75 Γ_77 2 H locs ls (show ps (Γ_77 (43, 8800, 0)) t0 (Γ_77 (44, 22, 0) t0.toNat) (Γ_77 (39, 0, 0) 1) T0 (Γ_77 (39, 0, 0) 5) a (d + 1) from hp) (show fz (Γ (43, 8800, 0)) (Γ_77 (43, 8800, 0)) (Γ (44, 22, 0)) (Γ_77 (44, 22, 0)) t0 from hz) (show fw (Γ (43, 8800, 0)) (Γ_77 (43, 8800, 0)) (Γ (44, 22, 0)) (Γ_77 (44, 22, 0)) t0 from hfw) (show Γ (39, 0, 0) 1 - Γ (44, 22, 0) t0.toNat + 1 ≤ Γ_77 (39, 0, 0) 1 - Γ_77 (44, 22, 0) t0.toNat from (by omega)) (show Γ_77 (39, 0, 0) 0 = Γ (39, 0, 0) 0 from (by omega)) (show Γ_77 (39, 0, 0) 4 = Γ (39, 0, 0) 4 from (by omega)) (show Γ_77 (39, 0, 0) 6 = Γ (39, 0, 0) 6 from (by omega)) (show Γ_77 (39, 0, 0) 7 = Γ (39, 0, 0) 7 from (by omega)) (show Γ_77 (39, 0, 0) 8 = Γ (39, 0, 0) 8 from (by omega)) (show Γ (39, 0, 0) 1 ≤ Γ_77 (39, 0, 0) 1 ∧ Γ_77 (39, 0, 0) 1 ≤ T0 from (by omega)) (show 0 ≤ (2 : Int) ∧ (2 : Int) ≤ 4 from (by decide)) hP hI hfr hgr hS (lv_sub hl [0, 3, 4] rfl)
        · have c_136 : u1.toInt = (60 : Int) := tl_eq c_136
          refine lv_iload_n hx hb dX12_compare_121 rfl (lv_at hl 1 rfl) ?_
          refine lv_if_eq (tgt := 129) hx hb dX12_compare_122 (by decide) (fun c_139 => ?_) (fun c_139 => ?_)
          · have c_139 : u3.toInt = (0 : Int) := tl_eq c_139
            refine lv_iconst (v := 0) hx hb dX12_compare_129 (by decide) ?_
            refine lv_goto (tgt := 152) hx hb dX12_compare_130 (by decide) ?_
            refine lv_istore (lv' := [(4, .int 0), (1, .int u1), (3, .int u3), (2, .int (v_45 1)), (0, .ref o)]) hx hb dX12_compare_152 hl (by decide) rfl (fun ls hl => ?_)
            exact hjn154 f_75 Γ_77 0 H locs ls (show ps (Γ_77 (43, 8800, 0)) t0 (Γ_77 (44, 22, 0) t0.toNat) (Γ_77 (39, 0, 0) 1) T0 (Γ_77 (39, 0, 0) 5) a (d + 1) from hp) (show fz (Γ (43, 8800, 0)) (Γ_77 (43, 8800, 0)) (Γ (44, 22, 0)) (Γ_77 (44, 22, 0)) t0 from hz) (show fw (Γ (43, 8800, 0)) (Γ_77 (43, 8800, 0)) (Γ (44, 22, 0)) (Γ_77 (44, 22, 0)) t0 from hfw) (show Γ (39, 0, 0) 1 - Γ (44, 22, 0) t0.toNat + 1 ≤ Γ_77 (39, 0, 0) 1 - Γ_77 (44, 22, 0) t0.toNat from (by omega)) (show Γ_77 (39, 0, 0) 0 = Γ (39, 0, 0) 0 from (by omega)) (show Γ_77 (39, 0, 0) 4 = Γ (39, 0, 0) 4 from (by omega)) (show Γ_77 (39, 0, 0) 6 = Γ (39, 0, 0) 6 from (by omega)) (show Γ_77 (39, 0, 0) 7 = Γ (39, 0, 0) 7 from (by omega)) (show Γ_77 (39, 0, 0) 8 = Γ (39, 0, 0) 8 from (by omega)) (show Γ (39, 0, 0) 1 ≤ Γ_77 (39, 0, 0) 1 ∧ Γ_77 (39, 0, 0) 1 ≤ T0 from (by omega)) (show 0 ≤ (0 : Int) ∧ (0 : Int) ≤ 4 from (by decide)) hP hI hfr hgr hS (lv_sub hl [0, 3, 4] rfl)
          · have c_139 : ¬ u3.toInt = (0 : Int) := tl_neq c_139
            refine lv_iconst (v := 1) hx hb dX12_compare_125 (by decide) ?_
            refine lv_goto (tgt := 152) hx hb dX12_compare_126 (by decide) ?_
            refine lv_istore (lv' := [(4, .int 1), (1, .int u1), (3, .int u3), (2, .int (v_45 1)), (0, .ref o)]) hx hb dX12_compare_152 hl (by decide) rfl (fun ls hl => ?_)
            exact hjn154 f_75 Γ_77 1 H locs ls (show ps (Γ_77 (43, 8800, 0)) t0 (Γ_77 (44, 22, 0) t0.toNat) (Γ_77 (39, 0, 0) 1) T0 (Γ_77 (39, 0, 0) 5) a (d + 1) from hp) (show fz (Γ (43, 8800, 0)) (Γ_77 (43, 8800, 0)) (Γ (44, 22, 0)) (Γ_77 (44, 22, 0)) t0 from hz) (show fw (Γ (43, 8800, 0)) (Γ_77 (43, 8800, 0)) (Γ (44, 22, 0)) (Γ_77 (44, 22, 0)) t0 from hfw) (show Γ (39, 0, 0) 1 - Γ (44, 22, 0) t0.toNat + 1 ≤ Γ_77 (39, 0, 0) 1 - Γ_77 (44, 22, 0) t0.toNat from (by omega)) (show Γ_77 (39, 0, 0) 0 = Γ (39, 0, 0) 0 from (by omega)) (show Γ_77 (39, 0, 0) 4 = Γ (39, 0, 0) 4 from (by omega)) (show Γ_77 (39, 0, 0) 6 = Γ (39, 0, 0) 6 from (by omega)) (show Γ_77 (39, 0, 0) 7 = Γ (39, 0, 0) 7 from (by omega)) (show Γ_77 (39, 0, 0) 8 = Γ (39, 0, 0) 8 from (by omega)) (show Γ (39, 0, 0) 1 ≤ Γ_77 (39, 0, 0) 1 ∧ Γ_77 (39, 0, 0) 1 ≤ T0 from (by omega)) (show 0 ≤ (1 : Int) ∧ (1 : Int) ≤ 4 from (by decide)) hP hI hfr hgr hS (lv_sub hl [0, 3, 4] rfl)
      · have c_80 := c_80
        refine lv_iconst (v := 0) hx hb dX12_compare_113 (by decide) ?_
        have hpo9 : tl_J (0 : Int32) (ps (Γ_77 (43, 8800, 0)) t0 (Γ_77 (44, 22, 0) t0.toNat) (Γ_77 (39, 0, 0) 1) T0 (Γ_77 (39, 0, 0) 5) a (d + 1) ∧ Γ (39, 0, 0) 1 - Γ (44, 22, 0) t0.toNat ≤ Γ_77 (39, 0, 0) 1 - Γ_77 (44, 22, 0) t0.toNat ∧ fz (Γ (43, 8800, 0)) (Γ_77 (43, 8800, 0)) (Γ (44, 22, 0)) (Γ_77 (44, 22, 0)) t0) ∧ Γ_77 (39, 0, 0) 0 = Γ (39, 0, 0) 0 ∧ Γ_77 (39, 0, 0) 4 = Γ (39, 0, 0) 4 ∧ Γ_77 (39, 0, 0) 6 = Γ (39, 0, 0) 6 ∧ Γ_77 (39, 0, 0) 7 = Γ (39, 0, 0) 7 ∧ Γ_77 (39, 0, 0) 8 = Γ (39, 0, 0) 8 ∧ Γ (39, 0, 0) 1 ≤ Γ_77 (39, 0, 0) 1 ∧ Γ_77 (39, 0, 0) 1 ≤ T0 ∧ fw (Γ (43, 8800, 0)) (Γ_77 (43, 8800, 0)) (Γ (44, 22, 0)) (Γ_77 (44, 22, 0)) t0 := ⟨(Or.inr rfl), ⟨(by omega), (by omega), (by omega), (by omega), (by omega), (by omega), (by omega), hfw⟩⟩
        exact W.zret (ty := .boolean) (v := 0) hx hb hr rfl (fun t ht hW => ⟨⟨_, (f_75, Γ_77), rfl, hpo9, by rw [ht]; exact hP, hI, hfr, hgr⟩, hS.F ht⟩) hS.2.2 dX12_compare_114
    refine lv_iload_n hx hb dX12_compare_19 rfl (lv_at hl 1 rfl) ?_
    refine lv_bipush (v := 60) hx hb dX12_compare_20 (by decide) ?_
    refine lv_icmp_eq (tgt := 44) hx hb dX12_compare_22 (by decide) (fun c_140 => ?_) (fun c_140 => ?_)
    · have c_140 : r_38.toInt = (60 : Int) := tl_eq c_140
      refine lv_aload_n hx hb dX12_compare_44 rfl (lv_at hl 2 rfl) ?_
      refine lv_dup hx hb dX12_compare_45 rfl ?_
      refine tp_get (cy := cy) (ci := 12) (v := .int (v_45 1)) (C := RX12) (T := TX12) (N := 49) hx hb hta inlX12 hown hK hP ho.1 hf_43 rfl 17 (by decide) (hta _ wk_539) (fun _ h9 => h9) rfl dX12_compare_46 ?_
      refine lv_iconst (v := 1) hx hb dX12_compare_49 (by decide) ?_
      refine lv_iadd hx hb dX12_compare_50 ?_
      refine lv_topi (fun z_141 ez_141 => ?_)
      try have iz_141 : z_141.toInt = (v_45 1).toInt + (1 : Int) := by rw [ez_141]; exact tl_addN (v_45 1) 1 rfl rfl (by omega) (by omega)
      obtain ⟨Γ_142, eΓ_142⟩ : ∃ y : tk_G, y = tg Γ_41 (39, 0, 0) 1 z_141.toInt := ⟨_, rfl⟩
      have hv_143 : ∀ i : Nat, i < 16 → ((upd v_45 1 z_141) i).toInt = Γ_142 (39, 0, 0) i := by rw [eΓ_142, tg_f]; exact tp_gi_upd hv_48
      have hI9 : tp_I cy L K Γ_142 (va_up f_39 o (.inr (12, [.ref (r_44 0), .ref (r_44 1), .int (v_45 0), .ref (r_44 2), .ref (r_44 3), .ref (r_44 4), .ref (r_44 5), .ref (r_44 6), .ref (r_44 7), .ref (r_44 8), .ref (r_44 9), .ref (r_44 10), .ref (r_44 11), .ref (r_44 12), .ref (r_44 13), .ref (r_44 14), .ref (r_44 15), .int z_141, .int (v_45 2), .int (v_45 3), .int (v_45 4), .int (v_45 5), .int (v_45 6), .int (v_45 7), .ref (r_44 16), .int (v_45 8), .ref (r_44 17), .int (v_45 9), .ref (r_44 18), .long q_46, .ref (r_44 19), .ref (r_44 20), .int (v_45 10), .int (v_45 11), .int (v_45 12), .ref (r_44 21), .ref (r_44 22), .int (v_45 13), .ref (r_44 23), .int (v_45 14), .int (v_45 15), .ref (r_44 24), .ref (r_44 25), .ref (r_44 26), .ref (r_44 27), .ref (r_44 28), .ref (r_44 29), .ref (r_44 30), .ref (r_44 31)]))) := by have q9 := hv_143; rw [eΓ_142, tg_f] at q9; rw [eΓ_142]; exact hI.setg hU rfl ho (show tp_o_M L K 0 0 (tgu (Γ_41 (39, 0, 0)) 1 z_141.toInt) _ from ⟨r_44, (upd v_45 1 z_141), q_46, rfl, hr_47, q9⟩)
      have hfr9 : ∀ b, (K b).1 ∉ ([39, 43, 44] : List Nat) → va_up f_39 o (.inr (12, [.ref (r_44 0), .ref (r_44 1), .int (v_45 0), .ref (r_44 2), .ref (r_44 3), .ref (r_44 4), .ref (r_44 5), .ref (r_44 6), .ref (r_44 7), .ref (r_44 8), .ref (r_44 9), .ref (r_44 10), .ref (r_44 11), .ref (r_44 12), .ref (r_44 13), .ref (r_44 14), .ref (r_44 15), .int z_141, .int (v_45 2), .int (v_45 3), .int (v_45 4), .int (v_45 5), .int (v_45 6), .int (v_45 7), .ref (r_44 16), .int (v_45 8), .ref (r_44 17), .int (v_45 9), .ref (r_44 18), .long q_46, .ref (r_44 19), .ref (r_44 20), .int (v_45 10), .int (v_45 11), .int (v_45 12), .ref (r_44 21), .ref (r_44 22), .int (v_45 13), .ref (r_44 23), .int (v_45 14), .int (v_45 15), .ref (r_44 24), .ref (r_44 25), .ref (r_44 26), .ref (r_44 27), .ref (r_44 28), .ref (r_44 29), .ref (r_44 30), .ref (r_44 31)])) b = f b := tp_fr hfr ho (by decide)
      refine tp_put (cy := cy) (ci := 12) (v := .int z_141) (ty := tyX12 17) (C := RX12) (T := TX12) (N := 49) hx hb hta inlX12 tyX12 tyX12_ok nmX12 hown hK hP hD hS ho.1 hf_43 rfl 17 (by decide) (hta _ wk_539) (fun _ h9 => h9) rfl (tyX12_ok 17 (by decide)) rfl rfl (Nat.le_of_ble_eq_true rfl) dX12_compare_51 (fun H locs hP hD hS => ?_)
      have hP : va_P D vwCl (va_pl L (va_up f_39 o (.inr (12, [.ref (r_44 0), .ref (r_44 1), .int (v_45 0), .ref (r_44 2), .ref (r_44 3), .ref (r_44 4), .ref (r_44 5), .ref (r_44 6), .ref (r_44 7), .ref (r_44 8), .ref (r_44 9), .ref (r_44 10), .ref (r_44 11), .ref (r_44 12), .ref (r_44 13), .ref (r_44 14), .ref (r_44 15), .int z_141, .int (v_45 2), .int (v_45 3), .int (v_45 4), .int (v_45 5), .int (v_45 6), .int (v_45 7), .ref (r_44 16), .int (v_45 8), .ref (r_44 17), .int (v_45 9), .ref (r_44 18), .long q_46, .ref (r_44 19), .ref (r_44 20), .int (v_45 10), .int (v_45 11), .int (v_45 12), .ref (r_44 21), .ref (r_44 22), .int (v_45 13), .ref (r_44 23), .int (v_45 14), .int (v_45 15), .ref (r_44 24), .ref (r_44 25), .ref (r_44 26), .ref (r_44 27), .ref (r_44 28), .ref (r_44 29), .ref (r_44 30), .ref (r_44 31)])))) H := hP
      generalize hfe : va_up f_39 o (.inr (12, [.ref (r_44 0), .ref (r_44 1), .int (v_45 0), .ref (r_44 2), .ref (r_44 3), .ref (r_44 4), .ref (r_44 5), .ref (r_44 6), .ref (r_44 7), .ref (r_44 8), .ref (r_44 9), .ref (r_44 10), .ref (r_44 11), .ref (r_44 12), .ref (r_44 13), .ref (r_44 14), .ref (r_44 15), .int z_141, .int (v_45 2), .int (v_45 3), .int (v_45 4), .int (v_45 5), .int (v_45 6), .int (v_45 7), .ref (r_44 16), .int (v_45 8), .ref (r_44 17), .int (v_45 9), .ref (r_44 18), .long q_46, .ref (r_44 19), .ref (r_44 20), .int (v_45 10), .int (v_45 11), .int (v_45 12), .ref (r_44 21), .ref (r_44 22), .int (v_45 13), .ref (r_44 23), .int (v_45 14), .int (v_45 15), .ref (r_44 24), .ref (r_44 25), .ref (r_44 26), .ref (r_44 27), .ref (r_44 28), .ref (r_44 29), .ref (r_44 30), .ref (r_44 31)])) = f_144 at hP hI9 hfr9
      have hD : va_D A (va_pl L f_144) := tp_D hL hAL
      have hf_145 : f_144 o = .inr (12, [.ref (r_44 0), .ref (r_44 1), .int (v_45 0), .ref (r_44 2), .ref (r_44 3), .ref (r_44 4), .ref (r_44 5), .ref (r_44 6), .ref (r_44 7), .ref (r_44 8), .ref (r_44 9), .ref (r_44 10), .ref (r_44 11), .ref (r_44 12), .ref (r_44 13), .ref (r_44 14), .ref (r_44 15), .int z_141, .int (v_45 2), .int (v_45 3), .int (v_45 4), .int (v_45 5), .int (v_45 6), .int (v_45 7), .ref (r_44 16), .int (v_45 8), .ref (r_44 17), .int (v_45 9), .ref (r_44 18), .long q_46, .ref (r_44 19), .ref (r_44 20), .int (v_45 10), .int (v_45 11), .int (v_45 12), .ref (r_44 21), .ref (r_44 22), .int (v_45 13), .ref (r_44 23), .int (v_45 14), .int (v_45 15), .ref (r_44 24), .ref (r_44 25), .ref (r_44 26), .ref (r_44 27), .ref (r_44 28), .ref (r_44 29), .ref (r_44 30), .ref (r_44 31)]) := by rw [← hfe]; exact va_up_self _ _ _
      clear hfe
      have hI := hI9
      have hfr := hfr9
      clear hI9 hfr9
      have hgr : ∀ κ : tk_K, κ.1 ∉ ([39, 43, 44] : List Nat) → Γ_142 κ = Γ κ := tg_fr hgr eΓ_142 (by decide)
      have hx_146 : (v_45 0).toInt = Γ_142 (39, 0, 0) 0 := hv_143 0 (by decide)
      have hx_147 : z_141.toInt = Γ_142 (39, 0, 0) 1 := hv_143 1 (by decide)
      have hx_148 : (v_45 3).toInt = Γ_142 (39, 0, 0) 3 := hv_143 3 (by decide)
      have hx_149 : (v_45 4).toInt = Γ_142 (39, 0, 0) 4 := hv_143 4 (by decide)
      have hx_150 : (v_45 5).toInt = Γ_142 (39, 0, 0) 5 := hv_143 5 (by decide)
      have hx_151 : (v_45 6).toInt = Γ_142 (39, 0, 0) 6 := hv_143 6 (by decide)
      have hx_152 : (v_45 7).toInt = Γ_142 (39, 0, 0) 7 := hv_143 7 (by decide)
      have hx_153 : (v_45 8).toInt = Γ_142 (39, 0, 0) 8 := hv_143 8 (by decide)
      obtain ⟨hpa, hpb, hpc, hpd, _⟩ := id hp
      have hle := congrFun (show Γ_142 (44, 22, 0) = _ from by rw [eΓ_142, tg_rf (by decide)]) t0.toNat
      have hp : ps (Γ_142 (43, 8800, 0)) t0 (Γ_142 (44, 22, 0) t0.toNat) (Γ_142 (39, 0, 0) 1) T0 (Γ_142 (39, 0, 0) 5) a (d + 1) := hp.eq (show Γ_142 (43, 8800, 0) = _ from by rw [eΓ_142, tg_rf (by decide)]) rfl (congrFun (show Γ_142 (44, 22, 0) = _ from by rw [eΓ_142, tg_rf (by decide)]) _) (by omega) rfl (by omega)
      have hz : fz (Γ (43, 8800, 0)) (Γ_142 (43, 8800, 0)) (Γ (44, 22, 0)) (Γ_142 (44, 22, 0)) t0 := by rw [(show Γ_142 (43, 8800, 0) = _ from by rw [eΓ_142, tg_rf (by decide)]), (show Γ_142 (44, 22, 0) = _ from by rw [eΓ_142, tg_rf (by decide)])]; exact hz
      have hfw : fw (Γ (43, 8800, 0)) (Γ_142 (43, 8800, 0)) (Γ (44, 22, 0)) (Γ_142 (44, 22, 0)) t0 := by rw [(show Γ_142 (43, 8800, 0) = _ from by rw [eΓ_142, tg_rf (by decide)]), (show Γ_142 (44, 22, 0) = _ from by rw [eΓ_142, tg_rf (by decide)])]; exact hfw
      refine lv_iload_n hx hb dX12_compare_54 rfl (lv_at hl 1 rfl) ?_
      refine lv_bipush (v := 61) hx hb dX12_compare_55 (by decide) ?_
      refine lv_icmp_eq (tgt := 89) hx hb dX12_compare_57 (by decide) (fun c_154 => ?_) (fun c_154 => ?_)
      · have c_154 : r_38.toInt = (61 : Int) := tl_eq c_154
        exfalso; omega
      · have c_154 : ¬ r_38.toInt = (61 : Int) := tl_neq c_154
        refine lv_aload_n hx hb dX12_compare_60 rfl (lv_at hl 2 rfl) ?_
        refine tp_get (cy := cy) (ci := 12) (v := .int z_141) (C := RX12) (T := TX12) (N := 49) hx hb hta inlX12 hown hK hP ho.1 hf_145 rfl 17 (by decide) (hta _ wk_539) (fun _ h9 => h9) rfl dX12_compare_61 ?_
        refine lv_aload_n hx hb dX12_compare_64 rfl (lv_at hl 2 rfl) ?_
        refine tp_get (cy := cy) (ci := 12) (v := .int (v_45 0)) (C := RX12) (T := TX12) (N := 49) hx hb hta inlX12 hown hK hP ho.1 hf_145 rfl 2 (by decide) (hta _ wk_347) (fun _ h9 => h9) rfl dX12_compare_65 ?_
        refine lv_icmp_ge (tgt := 89) hx hb dX12_compare_68 (by decide) (fun c_155 => ?_) (fun c_155 => ?_)
        · have c_155 : (v_45 0).toInt ≤ z_141.toInt := tl_le c_155
          refine lv_iconst (v := 0) hx hb dX12_compare_89 (by decide) ?_
          refine lv_istore_n (lv' := [(3, .int 0), (2, .int (v_45 1)), (1, .int r_38), (0, .ref o)]) hx hb dX12_compare_90 rfl hl (by decide) rfl (fun ls hl => ?_)
          refine lv_iload_n hx hb dX12_compare_91 rfl (lv_at hl 0 rfl) ?_
          refine lv_if_eq (tgt := 105) hx hb dX12_compare_92 (by decide) (fun _ => ?_) (fun c => absurd c (by decide))
          exact hjn105 f_144 Γ_142 r_38 0 H locs ls (show ps (Γ_142 (43, 8800, 0)) t0 (Γ_142 (44, 22, 0) t0.toNat) (Γ_142 (39, 0, 0) 1) T0 (Γ_142 (39, 0, 0) 5) a (d + 1) from hp) (show fz (Γ (43, 8800, 0)) (Γ_142 (43, 8800, 0)) (Γ (44, 22, 0)) (Γ_142 (44, 22, 0)) t0 from hz) (show fw (Γ (43, 8800, 0)) (Γ_142 (43, 8800, 0)) (Γ (44, 22, 0)) (Γ_142 (44, 22, 0)) t0 from hfw) (show Γ (39, 0, 0) 1 - Γ (44, 22, 0) t0.toNat + 1 ≤ Γ_142 (39, 0, 0) 1 - Γ_142 (44, 22, 0) t0.toNat from (by omega)) (show Γ_142 (39, 0, 0) 0 = Γ (39, 0, 0) 0 from (by omega)) (show Γ_142 (39, 0, 0) 4 = Γ (39, 0, 0) 4 from (by omega)) (show Γ_142 (39, 0, 0) 6 = Γ (39, 0, 0) 6 from (by omega)) (show Γ_142 (39, 0, 0) 7 = Γ (39, 0, 0) 7 from (by omega)) (show Γ_142 (39, 0, 0) 8 = Γ (39, 0, 0) 8 from (by omega)) (show Γ (39, 0, 0) 1 ≤ Γ_142 (39, 0, 0) 1 ∧ Γ_142 (39, 0, 0) 1 ≤ T0 from (by omega)) (show (0 : Int) = 0 ∨ (0 : Int) = 1 from (by decide)) hP hI hfr hgr hS (lv_sub hl [2, 0, 1, 3] rfl)
        · have c_155 : z_141.toInt < (v_45 0).toInt := tl_nle c_155
          refine lv_aload_n hx hb dX12_compare_71 rfl (lv_at hl 2 rfl) ?_
          refine tp_get (cy := cy) (ci := 12) (v := .ref (r_44 1)) (C := RX12) (T := TX12) (N := 49) hx hb hta inlX12 hown hK hP ho.1 hf_145 rfl 1 (by decide) (hta _ wk_151) (fun _ h9 => h9) rfl dX12_compare_72 ?_
          refine lv_aload_n hx hb dX12_compare_75 rfl (lv_at hl 2 rfl) ?_
          refine tp_get (cy := cy) (ci := 12) (v := .int z_141) (C := RX12) (T := TX12) (N := 49) hx hb hta inlX12 hown hK hP ho.1 hf_145 rfl 17 (by decide) (hta _ wk_539) (fun _ h9 => h9) rfl dX12_compare_76 ?_
          obtain ⟨g_157, hf_156, hg_158⟩ := (show tp_g8 cy (400) (Γ (41, 400, 0)) (f (r_44 1)) from hI0.at (show tp_r L K 41 400 0 (r_44 1) from hr_47 1 (by decide)))
          have hn_159 : vp_in z_141 (400) := tl_in (by omega) (by omega)
          refine tp_bald (cy := cy) hx hb hK hP (show tp_r L K 41 400 0 (r_44 1) from hr_47 1 (by decide)).1 ((tp_un hfr (show tp_r L K 41 400 0 (r_44 1) from hr_47 1 (by decide)) (by decide)).trans hf_156) hn_159 dX12_compare_79 ?_
          refine lv_topi (fun z_160 ez_160 => ?_)
          have iz_160 : z_160.toInt = τ z_141.toInt.toNat := by rw [ez_160, ← ht]; exact hg_158 _ (tp_pin hn_159)
          have jz_160 : z_160.toInt = τ  (Γ_142 (39, 0, 0) 1).toNat := by rw [← hx_147]; exact iz_160
          refine lv_bipush (v := 61) hx hb dX12_compare_80 (by decide) ?_
          refine lv_icmp_ne (tgt := 89) hx hb dX12_compare_82 (by decide) (fun c_161 => ?_) (fun c_161 => ?_)
          · have c_161 : ¬ z_160.toInt = (61 : Int) := tl_neq c_161
            refine lv_iconst (v := 0) hx hb dX12_compare_89 (by decide) ?_
            refine lv_istore_n (lv' := [(3, .int 0), (2, .int (v_45 1)), (1, .int r_38), (0, .ref o)]) hx hb dX12_compare_90 rfl hl (by decide) rfl (fun ls hl => ?_)
            refine lv_iload_n hx hb dX12_compare_91 rfl (lv_at hl 0 rfl) ?_
            refine lv_if_eq (tgt := 105) hx hb dX12_compare_92 (by decide) (fun _ => ?_) (fun c => absurd c (by decide))
            exact hjn105 f_144 Γ_142 r_38 0 H locs ls (show ps (Γ_142 (43, 8800, 0)) t0 (Γ_142 (44, 22, 0) t0.toNat) (Γ_142 (39, 0, 0) 1) T0 (Γ_142 (39, 0, 0) 5) a (d + 1) from hp) (show fz (Γ (43, 8800, 0)) (Γ_142 (43, 8800, 0)) (Γ (44, 22, 0)) (Γ_142 (44, 22, 0)) t0 from hz) (show fw (Γ (43, 8800, 0)) (Γ_142 (43, 8800, 0)) (Γ (44, 22, 0)) (Γ_142 (44, 22, 0)) t0 from hfw) (show Γ (39, 0, 0) 1 - Γ (44, 22, 0) t0.toNat + 1 ≤ Γ_142 (39, 0, 0) 1 - Γ_142 (44, 22, 0) t0.toNat from (by omega)) (show Γ_142 (39, 0, 0) 0 = Γ (39, 0, 0) 0 from (by omega)) (show Γ_142 (39, 0, 0) 4 = Γ (39, 0, 0) 4 from (by omega)) (show Γ_142 (39, 0, 0) 6 = Γ (39, 0, 0) 6 from (by omega)) (show Γ_142 (39, 0, 0) 7 = Γ (39, 0, 0) 7 from (by omega)) (show Γ_142 (39, 0, 0) 8 = Γ (39, 0, 0) 8 from (by omega)) (show Γ (39, 0, 0) 1 ≤ Γ_142 (39, 0, 0) 1 ∧ Γ_142 (39, 0, 0) 1 ≤ T0 from (by omega)) (show (0 : Int) = 0 ∨ (0 : Int) = 1 from (by decide)) hP hI hfr hgr hS (lv_sub hl [2, 0, 1, 3] rfl)
          · have c_161 : z_160.toInt = (61 : Int) := tl_eq c_161
            refine lv_iconst (v := 1) hx hb dX12_compare_85 (by decide) ?_
            refine lv_goto (tgt := 90) hx hb dX12_compare_86 (by decide) ?_
            refine lv_istore_n (lv' := [(3, .int 1), (2, .int (v_45 1)), (1, .int r_38), (0, .ref o)]) hx hb dX12_compare_90 rfl hl (by decide) rfl (fun ls hl => ?_)
            refine lv_iload_n hx hb dX12_compare_91 rfl (lv_at hl 0 rfl) ?_
            refine lv_if_eq (tgt := 105) hx hb dX12_compare_92 (by decide) (fun c => absurd c (by decide)) (fun _ => ?_)
            refine lv_aload_n hx hb dX12_compare_95 rfl (lv_at hl 3 rfl) ?_
            refine lv_dup hx hb dX12_compare_96 rfl ?_
            refine tp_get (cy := cy) (ci := 12) (v := .int z_141) (C := RX12) (T := TX12) (N := 49) hx hb hta inlX12 hown hK hP ho.1 hf_145 rfl 17 (by decide) (hta _ wk_539) (fun _ h9 => h9) rfl dX12_compare_97 ?_
            refine lv_iconst (v := 1) hx hb dX12_compare_100 (by decide) ?_
            refine lv_iadd hx hb dX12_compare_101 ?_
            refine lv_topi (fun z_162 ez_162 => ?_)
            try have iz_162 : z_162.toInt = z_141.toInt + (1 : Int) := by rw [ez_162]; exact tl_addN z_141 1 rfl rfl (by omega) (by omega)
            obtain ⟨Γ_163, eΓ_163⟩ : ∃ y : tk_G, y = tg Γ_142 (39, 0, 0) 1 z_162.toInt := ⟨_, rfl⟩
            have hv_164 : ∀ i : Nat, i < 16 → ((upd (upd v_45 1 z_141) 1 z_162) i).toInt = Γ_163 (39, 0, 0) i := by rw [eΓ_163, tg_f]; exact tp_gi_upd hv_143
            have hI9 : tp_I cy L K Γ_163 (va_up f_144 o (.inr (12, [.ref (r_44 0), .ref (r_44 1), .int (v_45 0), .ref (r_44 2), .ref (r_44 3), .ref (r_44 4), .ref (r_44 5), .ref (r_44 6), .ref (r_44 7), .ref (r_44 8), .ref (r_44 9), .ref (r_44 10), .ref (r_44 11), .ref (r_44 12), .ref (r_44 13), .ref (r_44 14), .ref (r_44 15), .int z_162, .int (v_45 2), .int (v_45 3), .int (v_45 4), .int (v_45 5), .int (v_45 6), .int (v_45 7), .ref (r_44 16), .int (v_45 8), .ref (r_44 17), .int (v_45 9), .ref (r_44 18), .long q_46, .ref (r_44 19), .ref (r_44 20), .int (v_45 10), .int (v_45 11), .int (v_45 12), .ref (r_44 21), .ref (r_44 22), .int (v_45 13), .ref (r_44 23), .int (v_45 14), .int (v_45 15), .ref (r_44 24), .ref (r_44 25), .ref (r_44 26), .ref (r_44 27), .ref (r_44 28), .ref (r_44 29), .ref (r_44 30), .ref (r_44 31)]))) := by have q9 := hv_164; rw [eΓ_163, tg_f] at q9; rw [eΓ_163]; exact hI.setg hU rfl ho (show tp_o_M L K 0 0 (tgu (Γ_142 (39, 0, 0)) 1 z_162.toInt) _ from ⟨r_44, (upd (upd v_45 1 z_141) 1 z_162), q_46, rfl, hr_47, q9⟩)
            have hfr9 : ∀ b, (K b).1 ∉ ([39, 43, 44] : List Nat) → va_up f_144 o (.inr (12, [.ref (r_44 0), .ref (r_44 1), .int (v_45 0), .ref (r_44 2), .ref (r_44 3), .ref (r_44 4), .ref (r_44 5), .ref (r_44 6), .ref (r_44 7), .ref (r_44 8), .ref (r_44 9), .ref (r_44 10), .ref (r_44 11), .ref (r_44 12), .ref (r_44 13), .ref (r_44 14), .ref (r_44 15), .int z_162, .int (v_45 2), .int (v_45 3), .int (v_45 4), .int (v_45 5), .int (v_45 6), .int (v_45 7), .ref (r_44 16), .int (v_45 8), .ref (r_44 17), .int (v_45 9), .ref (r_44 18), .long q_46, .ref (r_44 19), .ref (r_44 20), .int (v_45 10), .int (v_45 11), .int (v_45 12), .ref (r_44 21), .ref (r_44 22), .int (v_45 13), .ref (r_44 23), .int (v_45 14), .int (v_45 15), .ref (r_44 24), .ref (r_44 25), .ref (r_44 26), .ref (r_44 27), .ref (r_44 28), .ref (r_44 29), .ref (r_44 30), .ref (r_44 31)])) b = f b := tp_fr hfr ho (by decide)
            refine tp_put (cy := cy) (ci := 12) (v := .int z_162) (ty := tyX12 17) (C := RX12) (T := TX12) (N := 49) hx hb hta inlX12 tyX12 tyX12_ok nmX12 hown hK hP hD hS ho.1 hf_145 rfl 17 (by decide) (hta _ wk_539) (fun _ h9 => h9) rfl (tyX12_ok 17 (by decide)) rfl rfl (Nat.le_of_ble_eq_true rfl) dX12_compare_102 (fun H locs hP hD hS => ?_)
            have hP : va_P D vwCl (va_pl L (va_up f_144 o (.inr (12, [.ref (r_44 0), .ref (r_44 1), .int (v_45 0), .ref (r_44 2), .ref (r_44 3), .ref (r_44 4), .ref (r_44 5), .ref (r_44 6), .ref (r_44 7), .ref (r_44 8), .ref (r_44 9), .ref (r_44 10), .ref (r_44 11), .ref (r_44 12), .ref (r_44 13), .ref (r_44 14), .ref (r_44 15), .int z_162, .int (v_45 2), .int (v_45 3), .int (v_45 4), .int (v_45 5), .int (v_45 6), .int (v_45 7), .ref (r_44 16), .int (v_45 8), .ref (r_44 17), .int (v_45 9), .ref (r_44 18), .long q_46, .ref (r_44 19), .ref (r_44 20), .int (v_45 10), .int (v_45 11), .int (v_45 12), .ref (r_44 21), .ref (r_44 22), .int (v_45 13), .ref (r_44 23), .int (v_45 14), .int (v_45 15), .ref (r_44 24), .ref (r_44 25), .ref (r_44 26), .ref (r_44 27), .ref (r_44 28), .ref (r_44 29), .ref (r_44 30), .ref (r_44 31)])))) H := hP
            generalize hfe : va_up f_144 o (.inr (12, [.ref (r_44 0), .ref (r_44 1), .int (v_45 0), .ref (r_44 2), .ref (r_44 3), .ref (r_44 4), .ref (r_44 5), .ref (r_44 6), .ref (r_44 7), .ref (r_44 8), .ref (r_44 9), .ref (r_44 10), .ref (r_44 11), .ref (r_44 12), .ref (r_44 13), .ref (r_44 14), .ref (r_44 15), .int z_162, .int (v_45 2), .int (v_45 3), .int (v_45 4), .int (v_45 5), .int (v_45 6), .int (v_45 7), .ref (r_44 16), .int (v_45 8), .ref (r_44 17), .int (v_45 9), .ref (r_44 18), .long q_46, .ref (r_44 19), .ref (r_44 20), .int (v_45 10), .int (v_45 11), .int (v_45 12), .ref (r_44 21), .ref (r_44 22), .int (v_45 13), .ref (r_44 23), .int (v_45 14), .int (v_45 15), .ref (r_44 24), .ref (r_44 25), .ref (r_44 26), .ref (r_44 27), .ref (r_44 28), .ref (r_44 29), .ref (r_44 30), .ref (r_44 31)])) = f_165 at hP hI9 hfr9
            have hD : va_D A (va_pl L f_165) := tp_D hL hAL
            have hf_166 : f_165 o = .inr (12, [.ref (r_44 0), .ref (r_44 1), .int (v_45 0), .ref (r_44 2), .ref (r_44 3), .ref (r_44 4), .ref (r_44 5), .ref (r_44 6), .ref (r_44 7), .ref (r_44 8), .ref (r_44 9), .ref (r_44 10), .ref (r_44 11), .ref (r_44 12), .ref (r_44 13), .ref (r_44 14), .ref (r_44 15), .int z_162, .int (v_45 2), .int (v_45 3), .int (v_45 4), .int (v_45 5), .int (v_45 6), .int (v_45 7), .ref (r_44 16), .int (v_45 8), .ref (r_44 17), .int (v_45 9), .ref (r_44 18), .long q_46, .ref (r_44 19), .ref (r_44 20), .int (v_45 10), .int (v_45 11), .int (v_45 12), .ref (r_44 21), .ref (r_44 22), .int (v_45 13), .ref (r_44 23), .int (v_45 14), .int (v_45 15), .ref (r_44 24), .ref (r_44 25), .ref (r_44 26), .ref (r_44 27), .ref (r_44 28), .ref (r_44 29), .ref (r_44 30), .ref (r_44 31)]) := by rw [← hfe]; exact va_up_self _ _ _
            clear hfe
            have hI := hI9
            have hfr := hfr9
            clear hI9 hfr9
            have hgr : ∀ κ : tk_K, κ.1 ∉ ([39, 43, 44] : List Nat) → Γ_163 κ = Γ κ := tg_fr hgr eΓ_163 (by decide)
            have hx_167 : (v_45 0).toInt = Γ_163 (39, 0, 0) 0 := hv_164 0 (by decide)
            have hx_168 : z_162.toInt = Γ_163 (39, 0, 0) 1 := hv_164 1 (by decide)
            have hx_169 : (v_45 3).toInt = Γ_163 (39, 0, 0) 3 := hv_164 3 (by decide)
            have hx_170 : (v_45 4).toInt = Γ_163 (39, 0, 0) 4 := hv_164 4 (by decide)
            have hx_171 : (v_45 5).toInt = Γ_163 (39, 0, 0) 5 := hv_164 5 (by decide)
            have hx_172 : (v_45 6).toInt = Γ_163 (39, 0, 0) 6 := hv_164 6 (by decide)
            have hx_173 : (v_45 7).toInt = Γ_163 (39, 0, 0) 7 := hv_164 7 (by decide)
            have hx_174 : (v_45 8).toInt = Γ_163 (39, 0, 0) 8 := hv_164 8 (by decide)
            obtain ⟨hpa, hpb, hpc, hpd, _⟩ := id hp
            have hle := congrFun (show Γ_163 (44, 22, 0) = _ from by rw [eΓ_163, tg_rf (by decide)]) t0.toNat
            have hp : ps (Γ_163 (43, 8800, 0)) t0 (Γ_163 (44, 22, 0) t0.toNat) (Γ_163 (39, 0, 0) 1) T0 (Γ_163 (39, 0, 0) 5) a (d + 1) := hp.eq (show Γ_163 (43, 8800, 0) = _ from by rw [eΓ_163, tg_rf (by decide)]) rfl (congrFun (show Γ_163 (44, 22, 0) = _ from by rw [eΓ_163, tg_rf (by decide)]) _) (by omega) rfl (by omega)
            have hz : fz (Γ (43, 8800, 0)) (Γ_163 (43, 8800, 0)) (Γ (44, 22, 0)) (Γ_163 (44, 22, 0)) t0 := by rw [(show Γ_163 (43, 8800, 0) = _ from by rw [eΓ_163, tg_rf (by decide)]), (show Γ_163 (44, 22, 0) = _ from by rw [eΓ_163, tg_rf (by decide)])]; exact hz
            have hfw : fw (Γ (43, 8800, 0)) (Γ_163 (43, 8800, 0)) (Γ (44, 22, 0)) (Γ_163 (44, 22, 0)) t0 := by rw [(show Γ_163 (43, 8800, 0) = _ from by rw [eΓ_163, tg_rf (by decide)]), (show Γ_163 (44, 22, 0) = _ from by rw [eΓ_163, tg_rf (by decide)])]; exact hfw
            exact hjn105 f_165 Γ_163 r_38 1 H locs ls (show ps (Γ_163 (43, 8800, 0)) t0 (Γ_163 (44, 22, 0) t0.toNat) (Γ_163 (39, 0, 0) 1) T0 (Γ_163 (39, 0, 0) 5) a (d + 1) from hp) (show fz (Γ (43, 8800, 0)) (Γ_163 (43, 8800, 0)) (Γ (44, 22, 0)) (Γ_163 (44, 22, 0)) t0 from hz) (show fw (Γ (43, 8800, 0)) (Γ_163 (43, 8800, 0)) (Γ (44, 22, 0)) (Γ_163 (44, 22, 0)) t0 from hfw) (show Γ (39, 0, 0) 1 - Γ (44, 22, 0) t0.toNat + 1 ≤ Γ_163 (39, 0, 0) 1 - Γ_163 (44, 22, 0) t0.toNat from (by omega)) (show Γ_163 (39, 0, 0) 0 = Γ (39, 0, 0) 0 from (by omega)) (show Γ_163 (39, 0, 0) 4 = Γ (39, 0, 0) 4 from (by omega)) (show Γ_163 (39, 0, 0) 6 = Γ (39, 0, 0) 6 from (by omega)) (show Γ_163 (39, 0, 0) 7 = Γ (39, 0, 0) 7 from (by omega)) (show Γ_163 (39, 0, 0) 8 = Γ (39, 0, 0) 8 from (by omega)) (show Γ (39, 0, 0) 1 ≤ Γ_163 (39, 0, 0) 1 ∧ Γ_163 (39, 0, 0) 1 ≤ T0 from (by omega)) (show (1 : Int) = 0 ∨ (1 : Int) = 1 from (by decide)) hP hI hfr hgr hS (lv_sub hl [2, 0, 1, 3] rfl)
    · have c_140 : ¬ r_38.toInt = (60 : Int) := tl_neq c_140
      refine lv_iload_n hx hb dX12_compare_25 rfl (lv_at hl 1 rfl) ?_
      refine lv_bipush (v := 61) hx hb dX12_compare_26 (by decide) ?_
      refine lv_icmp_eq (tgt := 44) hx hb dX12_compare_28 (by decide) (fun c_175 => ?_) (fun c_175 => ?_)
      · have c_175 : r_38.toInt = (61 : Int) := tl_eq c_175
        refine lv_aload_n hx hb dX12_compare_44 rfl (lv_at hl 2 rfl) ?_
        refine lv_dup hx hb dX12_compare_45 rfl ?_
        refine tp_get (cy := cy) (ci := 12) (v := .int (v_45 1)) (C := RX12) (T := TX12) (N := 49) hx hb hta inlX12 hown hK hP ho.1 hf_43 rfl 17 (by decide) (hta _ wk_539) (fun _ h9 => h9) rfl dX12_compare_46 ?_
        refine lv_iconst (v := 1) hx hb dX12_compare_49 (by decide) ?_
        refine lv_iadd hx hb dX12_compare_50 ?_
        refine lv_topi (fun z_176 ez_176 => ?_)
        try have iz_176 : z_176.toInt = (v_45 1).toInt + (1 : Int) := by rw [ez_176]; exact tl_addN (v_45 1) 1 rfl rfl (by omega) (by omega)
        obtain ⟨Γ_177, eΓ_177⟩ : ∃ y : tk_G, y = tg Γ_41 (39, 0, 0) 1 z_176.toInt := ⟨_, rfl⟩
        have hv_178 : ∀ i : Nat, i < 16 → ((upd v_45 1 z_176) i).toInt = Γ_177 (39, 0, 0) i := by rw [eΓ_177, tg_f]; exact tp_gi_upd hv_48
        have hI9 : tp_I cy L K Γ_177 (va_up f_39 o (.inr (12, [.ref (r_44 0), .ref (r_44 1), .int (v_45 0), .ref (r_44 2), .ref (r_44 3), .ref (r_44 4), .ref (r_44 5), .ref (r_44 6), .ref (r_44 7), .ref (r_44 8), .ref (r_44 9), .ref (r_44 10), .ref (r_44 11), .ref (r_44 12), .ref (r_44 13), .ref (r_44 14), .ref (r_44 15), .int z_176, .int (v_45 2), .int (v_45 3), .int (v_45 4), .int (v_45 5), .int (v_45 6), .int (v_45 7), .ref (r_44 16), .int (v_45 8), .ref (r_44 17), .int (v_45 9), .ref (r_44 18), .long q_46, .ref (r_44 19), .ref (r_44 20), .int (v_45 10), .int (v_45 11), .int (v_45 12), .ref (r_44 21), .ref (r_44 22), .int (v_45 13), .ref (r_44 23), .int (v_45 14), .int (v_45 15), .ref (r_44 24), .ref (r_44 25), .ref (r_44 26), .ref (r_44 27), .ref (r_44 28), .ref (r_44 29), .ref (r_44 30), .ref (r_44 31)]))) := by have q9 := hv_178; rw [eΓ_177, tg_f] at q9; rw [eΓ_177]; exact hI.setg hU rfl ho (show tp_o_M L K 0 0 (tgu (Γ_41 (39, 0, 0)) 1 z_176.toInt) _ from ⟨r_44, (upd v_45 1 z_176), q_46, rfl, hr_47, q9⟩)
        have hfr9 : ∀ b, (K b).1 ∉ ([39, 43, 44] : List Nat) → va_up f_39 o (.inr (12, [.ref (r_44 0), .ref (r_44 1), .int (v_45 0), .ref (r_44 2), .ref (r_44 3), .ref (r_44 4), .ref (r_44 5), .ref (r_44 6), .ref (r_44 7), .ref (r_44 8), .ref (r_44 9), .ref (r_44 10), .ref (r_44 11), .ref (r_44 12), .ref (r_44 13), .ref (r_44 14), .ref (r_44 15), .int z_176, .int (v_45 2), .int (v_45 3), .int (v_45 4), .int (v_45 5), .int (v_45 6), .int (v_45 7), .ref (r_44 16), .int (v_45 8), .ref (r_44 17), .int (v_45 9), .ref (r_44 18), .long q_46, .ref (r_44 19), .ref (r_44 20), .int (v_45 10), .int (v_45 11), .int (v_45 12), .ref (r_44 21), .ref (r_44 22), .int (v_45 13), .ref (r_44 23), .int (v_45 14), .int (v_45 15), .ref (r_44 24), .ref (r_44 25), .ref (r_44 26), .ref (r_44 27), .ref (r_44 28), .ref (r_44 29), .ref (r_44 30), .ref (r_44 31)])) b = f b := tp_fr hfr ho (by decide)
        refine tp_put (cy := cy) (ci := 12) (v := .int z_176) (ty := tyX12 17) (C := RX12) (T := TX12) (N := 49) hx hb hta inlX12 tyX12 tyX12_ok nmX12 hown hK hP hD hS ho.1 hf_43 rfl 17 (by decide) (hta _ wk_539) (fun _ h9 => h9) rfl (tyX12_ok 17 (by decide)) rfl rfl (Nat.le_of_ble_eq_true rfl) dX12_compare_51 (fun H locs hP hD hS => ?_)
        have hP : va_P D vwCl (va_pl L (va_up f_39 o (.inr (12, [.ref (r_44 0), .ref (r_44 1), .int (v_45 0), .ref (r_44 2), .ref (r_44 3), .ref (r_44 4), .ref (r_44 5), .ref (r_44 6), .ref (r_44 7), .ref (r_44 8), .ref (r_44 9), .ref (r_44 10), .ref (r_44 11), .ref (r_44 12), .ref (r_44 13), .ref (r_44 14), .ref (r_44 15), .int z_176, .int (v_45 2), .int (v_45 3), .int (v_45 4), .int (v_45 5), .int (v_45 6), .int (v_45 7), .ref (r_44 16), .int (v_45 8), .ref (r_44 17), .int (v_45 9), .ref (r_44 18), .long q_46, .ref (r_44 19), .ref (r_44 20), .int (v_45 10), .int (v_45 11), .int (v_45 12), .ref (r_44 21), .ref (r_44 22), .int (v_45 13), .ref (r_44 23), .int (v_45 14), .int (v_45 15), .ref (r_44 24), .ref (r_44 25), .ref (r_44 26), .ref (r_44 27), .ref (r_44 28), .ref (r_44 29), .ref (r_44 30), .ref (r_44 31)])))) H := hP
        generalize hfe : va_up f_39 o (.inr (12, [.ref (r_44 0), .ref (r_44 1), .int (v_45 0), .ref (r_44 2), .ref (r_44 3), .ref (r_44 4), .ref (r_44 5), .ref (r_44 6), .ref (r_44 7), .ref (r_44 8), .ref (r_44 9), .ref (r_44 10), .ref (r_44 11), .ref (r_44 12), .ref (r_44 13), .ref (r_44 14), .ref (r_44 15), .int z_176, .int (v_45 2), .int (v_45 3), .int (v_45 4), .int (v_45 5), .int (v_45 6), .int (v_45 7), .ref (r_44 16), .int (v_45 8), .ref (r_44 17), .int (v_45 9), .ref (r_44 18), .long q_46, .ref (r_44 19), .ref (r_44 20), .int (v_45 10), .int (v_45 11), .int (v_45 12), .ref (r_44 21), .ref (r_44 22), .int (v_45 13), .ref (r_44 23), .int (v_45 14), .int (v_45 15), .ref (r_44 24), .ref (r_44 25), .ref (r_44 26), .ref (r_44 27), .ref (r_44 28), .ref (r_44 29), .ref (r_44 30), .ref (r_44 31)])) = f_179 at hP hI9 hfr9
        have hD : va_D A (va_pl L f_179) := tp_D hL hAL
        have hf_180 : f_179 o = .inr (12, [.ref (r_44 0), .ref (r_44 1), .int (v_45 0), .ref (r_44 2), .ref (r_44 3), .ref (r_44 4), .ref (r_44 5), .ref (r_44 6), .ref (r_44 7), .ref (r_44 8), .ref (r_44 9), .ref (r_44 10), .ref (r_44 11), .ref (r_44 12), .ref (r_44 13), .ref (r_44 14), .ref (r_44 15), .int z_176, .int (v_45 2), .int (v_45 3), .int (v_45 4), .int (v_45 5), .int (v_45 6), .int (v_45 7), .ref (r_44 16), .int (v_45 8), .ref (r_44 17), .int (v_45 9), .ref (r_44 18), .long q_46, .ref (r_44 19), .ref (r_44 20), .int (v_45 10), .int (v_45 11), .int (v_45 12), .ref (r_44 21), .ref (r_44 22), .int (v_45 13), .ref (r_44 23), .int (v_45 14), .int (v_45 15), .ref (r_44 24), .ref (r_44 25), .ref (r_44 26), .ref (r_44 27), .ref (r_44 28), .ref (r_44 29), .ref (r_44 30), .ref (r_44 31)]) := by rw [← hfe]; exact va_up_self _ _ _
        clear hfe
        have hI := hI9
        have hfr := hfr9
        clear hI9 hfr9
        have hgr : ∀ κ : tk_K, κ.1 ∉ ([39, 43, 44] : List Nat) → Γ_177 κ = Γ κ := tg_fr hgr eΓ_177 (by decide)
        have hx_181 : (v_45 0).toInt = Γ_177 (39, 0, 0) 0 := hv_178 0 (by decide)
        have hx_182 : z_176.toInt = Γ_177 (39, 0, 0) 1 := hv_178 1 (by decide)
        have hx_183 : (v_45 3).toInt = Γ_177 (39, 0, 0) 3 := hv_178 3 (by decide)
        have hx_184 : (v_45 4).toInt = Γ_177 (39, 0, 0) 4 := hv_178 4 (by decide)
        have hx_185 : (v_45 5).toInt = Γ_177 (39, 0, 0) 5 := hv_178 5 (by decide)
        have hx_186 : (v_45 6).toInt = Γ_177 (39, 0, 0) 6 := hv_178 6 (by decide)
        have hx_187 : (v_45 7).toInt = Γ_177 (39, 0, 0) 7 := hv_178 7 (by decide)
        have hx_188 : (v_45 8).toInt = Γ_177 (39, 0, 0) 8 := hv_178 8 (by decide)
        obtain ⟨hpa, hpb, hpc, hpd, _⟩ := id hp
        have hle := congrFun (show Γ_177 (44, 22, 0) = _ from by rw [eΓ_177, tg_rf (by decide)]) t0.toNat
        have hp : ps (Γ_177 (43, 8800, 0)) t0 (Γ_177 (44, 22, 0) t0.toNat) (Γ_177 (39, 0, 0) 1) T0 (Γ_177 (39, 0, 0) 5) a (d + 1) := hp.eq (show Γ_177 (43, 8800, 0) = _ from by rw [eΓ_177, tg_rf (by decide)]) rfl (congrFun (show Γ_177 (44, 22, 0) = _ from by rw [eΓ_177, tg_rf (by decide)]) _) (by omega) rfl (by omega)
        have hz : fz (Γ (43, 8800, 0)) (Γ_177 (43, 8800, 0)) (Γ (44, 22, 0)) (Γ_177 (44, 22, 0)) t0 := by rw [(show Γ_177 (43, 8800, 0) = _ from by rw [eΓ_177, tg_rf (by decide)]), (show Γ_177 (44, 22, 0) = _ from by rw [eΓ_177, tg_rf (by decide)])]; exact hz
        have hfw : fw (Γ (43, 8800, 0)) (Γ_177 (43, 8800, 0)) (Γ (44, 22, 0)) (Γ_177 (44, 22, 0)) t0 := by rw [(show Γ_177 (43, 8800, 0) = _ from by rw [eΓ_177, tg_rf (by decide)]), (show Γ_177 (44, 22, 0) = _ from by rw [eΓ_177, tg_rf (by decide)])]; exact hfw
        refine lv_iload_n hx hb dX12_compare_54 rfl (lv_at hl 1 rfl) ?_
        refine lv_bipush (v := 61) hx hb dX12_compare_55 (by decide) ?_
        refine lv_icmp_eq (tgt := 89) hx hb dX12_compare_57 (by decide) (fun c_189 => ?_) (fun c_189 => ?_)
        · have c_189 : r_38.toInt = (61 : Int) := tl_eq c_189
          refine lv_iconst (v := 0) hx hb dX12_compare_89 (by decide) ?_
          refine lv_istore_n (lv' := [(3, .int 0), (2, .int (v_45 1)), (1, .int r_38), (0, .ref o)]) hx hb dX12_compare_90 rfl hl (by decide) rfl (fun ls hl => ?_)
          refine lv_iload_n hx hb dX12_compare_91 rfl (lv_at hl 0 rfl) ?_
          refine lv_if_eq (tgt := 105) hx hb dX12_compare_92 (by decide) (fun _ => ?_) (fun c => absurd c (by decide))
          exact hjn105 f_179 Γ_177 r_38 0 H locs ls (show ps (Γ_177 (43, 8800, 0)) t0 (Γ_177 (44, 22, 0) t0.toNat) (Γ_177 (39, 0, 0) 1) T0 (Γ_177 (39, 0, 0) 5) a (d + 1) from hp) (show fz (Γ (43, 8800, 0)) (Γ_177 (43, 8800, 0)) (Γ (44, 22, 0)) (Γ_177 (44, 22, 0)) t0 from hz) (show fw (Γ (43, 8800, 0)) (Γ_177 (43, 8800, 0)) (Γ (44, 22, 0)) (Γ_177 (44, 22, 0)) t0 from hfw) (show Γ (39, 0, 0) 1 - Γ (44, 22, 0) t0.toNat + 1 ≤ Γ_177 (39, 0, 0) 1 - Γ_177 (44, 22, 0) t0.toNat from (by omega)) (show Γ_177 (39, 0, 0) 0 = Γ (39, 0, 0) 0 from (by omega)) (show Γ_177 (39, 0, 0) 4 = Γ (39, 0, 0) 4 from (by omega)) (show Γ_177 (39, 0, 0) 6 = Γ (39, 0, 0) 6 from (by omega)) (show Γ_177 (39, 0, 0) 7 = Γ (39, 0, 0) 7 from (by omega)) (show Γ_177 (39, 0, 0) 8 = Γ (39, 0, 0) 8 from (by omega)) (show Γ (39, 0, 0) 1 ≤ Γ_177 (39, 0, 0) 1 ∧ Γ_177 (39, 0, 0) 1 ≤ T0 from (by omega)) (show (0 : Int) = 0 ∨ (0 : Int) = 1 from (by decide)) hP hI hfr hgr hS (lv_sub hl [2, 0, 1, 3] rfl)
        · have c_189 : ¬ r_38.toInt = (61 : Int) := tl_neq c_189
          exfalso; omega
      · have c_175 : ¬ r_38.toInt = (61 : Int) := tl_neq c_175
        refine lv_iload_n hx hb dX12_compare_31 rfl (lv_at hl 1 rfl) ?_
        refine lv_bipush (v := 62) hx hb dX12_compare_32 (by decide) ?_
        refine lv_icmp_eq (tgt := 44) hx hb dX12_compare_34 (by decide) (fun c_190 => ?_) (fun c_190 => ?_)
        · have c_190 : r_38.toInt = (62 : Int) := tl_eq c_190
          refine lv_aload_n hx hb dX12_compare_44 rfl (lv_at hl 2 rfl) ?_
          refine lv_dup hx hb dX12_compare_45 rfl ?_
          refine tp_get (cy := cy) (ci := 12) (v := .int (v_45 1)) (C := RX12) (T := TX12) (N := 49) hx hb hta inlX12 hown hK hP ho.1 hf_43 rfl 17 (by decide) (hta _ wk_539) (fun _ h9 => h9) rfl dX12_compare_46 ?_
          refine lv_iconst (v := 1) hx hb dX12_compare_49 (by decide) ?_
          refine lv_iadd hx hb dX12_compare_50 ?_
          refine lv_topi (fun z_191 ez_191 => ?_)
          try have iz_191 : z_191.toInt = (v_45 1).toInt + (1 : Int) := by rw [ez_191]; exact tl_addN (v_45 1) 1 rfl rfl (by omega) (by omega)
          obtain ⟨Γ_192, eΓ_192⟩ : ∃ y : tk_G, y = tg Γ_41 (39, 0, 0) 1 z_191.toInt := ⟨_, rfl⟩
          have hv_193 : ∀ i : Nat, i < 16 → ((upd v_45 1 z_191) i).toInt = Γ_192 (39, 0, 0) i := by rw [eΓ_192, tg_f]; exact tp_gi_upd hv_48
          have hI9 : tp_I cy L K Γ_192 (va_up f_39 o (.inr (12, [.ref (r_44 0), .ref (r_44 1), .int (v_45 0), .ref (r_44 2), .ref (r_44 3), .ref (r_44 4), .ref (r_44 5), .ref (r_44 6), .ref (r_44 7), .ref (r_44 8), .ref (r_44 9), .ref (r_44 10), .ref (r_44 11), .ref (r_44 12), .ref (r_44 13), .ref (r_44 14), .ref (r_44 15), .int z_191, .int (v_45 2), .int (v_45 3), .int (v_45 4), .int (v_45 5), .int (v_45 6), .int (v_45 7), .ref (r_44 16), .int (v_45 8), .ref (r_44 17), .int (v_45 9), .ref (r_44 18), .long q_46, .ref (r_44 19), .ref (r_44 20), .int (v_45 10), .int (v_45 11), .int (v_45 12), .ref (r_44 21), .ref (r_44 22), .int (v_45 13), .ref (r_44 23), .int (v_45 14), .int (v_45 15), .ref (r_44 24), .ref (r_44 25), .ref (r_44 26), .ref (r_44 27), .ref (r_44 28), .ref (r_44 29), .ref (r_44 30), .ref (r_44 31)]))) := by have q9 := hv_193; rw [eΓ_192, tg_f] at q9; rw [eΓ_192]; exact hI.setg hU rfl ho (show tp_o_M L K 0 0 (tgu (Γ_41 (39, 0, 0)) 1 z_191.toInt) _ from ⟨r_44, (upd v_45 1 z_191), q_46, rfl, hr_47, q9⟩)
          have hfr9 : ∀ b, (K b).1 ∉ ([39, 43, 44] : List Nat) → va_up f_39 o (.inr (12, [.ref (r_44 0), .ref (r_44 1), .int (v_45 0), .ref (r_44 2), .ref (r_44 3), .ref (r_44 4), .ref (r_44 5), .ref (r_44 6), .ref (r_44 7), .ref (r_44 8), .ref (r_44 9), .ref (r_44 10), .ref (r_44 11), .ref (r_44 12), .ref (r_44 13), .ref (r_44 14), .ref (r_44 15), .int z_191, .int (v_45 2), .int (v_45 3), .int (v_45 4), .int (v_45 5), .int (v_45 6), .int (v_45 7), .ref (r_44 16), .int (v_45 8), .ref (r_44 17), .int (v_45 9), .ref (r_44 18), .long q_46, .ref (r_44 19), .ref (r_44 20), .int (v_45 10), .int (v_45 11), .int (v_45 12), .ref (r_44 21), .ref (r_44 22), .int (v_45 13), .ref (r_44 23), .int (v_45 14), .int (v_45 15), .ref (r_44 24), .ref (r_44 25), .ref (r_44 26), .ref (r_44 27), .ref (r_44 28), .ref (r_44 29), .ref (r_44 30), .ref (r_44 31)])) b = f b := tp_fr hfr ho (by decide)
          refine tp_put (cy := cy) (ci := 12) (v := .int z_191) (ty := tyX12 17) (C := RX12) (T := TX12) (N := 49) hx hb hta inlX12 tyX12 tyX12_ok nmX12 hown hK hP hD hS ho.1 hf_43 rfl 17 (by decide) (hta _ wk_539) (fun _ h9 => h9) rfl (tyX12_ok 17 (by decide)) rfl rfl (Nat.le_of_ble_eq_true rfl) dX12_compare_51 (fun H locs hP hD hS => ?_)
          have hP : va_P D vwCl (va_pl L (va_up f_39 o (.inr (12, [.ref (r_44 0), .ref (r_44 1), .int (v_45 0), .ref (r_44 2), .ref (r_44 3), .ref (r_44 4), .ref (r_44 5), .ref (r_44 6), .ref (r_44 7), .ref (r_44 8), .ref (r_44 9), .ref (r_44 10), .ref (r_44 11), .ref (r_44 12), .ref (r_44 13), .ref (r_44 14), .ref (r_44 15), .int z_191, .int (v_45 2), .int (v_45 3), .int (v_45 4), .int (v_45 5), .int (v_45 6), .int (v_45 7), .ref (r_44 16), .int (v_45 8), .ref (r_44 17), .int (v_45 9), .ref (r_44 18), .long q_46, .ref (r_44 19), .ref (r_44 20), .int (v_45 10), .int (v_45 11), .int (v_45 12), .ref (r_44 21), .ref (r_44 22), .int (v_45 13), .ref (r_44 23), .int (v_45 14), .int (v_45 15), .ref (r_44 24), .ref (r_44 25), .ref (r_44 26), .ref (r_44 27), .ref (r_44 28), .ref (r_44 29), .ref (r_44 30), .ref (r_44 31)])))) H := hP
          generalize hfe : va_up f_39 o (.inr (12, [.ref (r_44 0), .ref (r_44 1), .int (v_45 0), .ref (r_44 2), .ref (r_44 3), .ref (r_44 4), .ref (r_44 5), .ref (r_44 6), .ref (r_44 7), .ref (r_44 8), .ref (r_44 9), .ref (r_44 10), .ref (r_44 11), .ref (r_44 12), .ref (r_44 13), .ref (r_44 14), .ref (r_44 15), .int z_191, .int (v_45 2), .int (v_45 3), .int (v_45 4), .int (v_45 5), .int (v_45 6), .int (v_45 7), .ref (r_44 16), .int (v_45 8), .ref (r_44 17), .int (v_45 9), .ref (r_44 18), .long q_46, .ref (r_44 19), .ref (r_44 20), .int (v_45 10), .int (v_45 11), .int (v_45 12), .ref (r_44 21), .ref (r_44 22), .int (v_45 13), .ref (r_44 23), .int (v_45 14), .int (v_45 15), .ref (r_44 24), .ref (r_44 25), .ref (r_44 26), .ref (r_44 27), .ref (r_44 28), .ref (r_44 29), .ref (r_44 30), .ref (r_44 31)])) = f_194 at hP hI9 hfr9
          have hD : va_D A (va_pl L f_194) := tp_D hL hAL
          have hf_195 : f_194 o = .inr (12, [.ref (r_44 0), .ref (r_44 1), .int (v_45 0), .ref (r_44 2), .ref (r_44 3), .ref (r_44 4), .ref (r_44 5), .ref (r_44 6), .ref (r_44 7), .ref (r_44 8), .ref (r_44 9), .ref (r_44 10), .ref (r_44 11), .ref (r_44 12), .ref (r_44 13), .ref (r_44 14), .ref (r_44 15), .int z_191, .int (v_45 2), .int (v_45 3), .int (v_45 4), .int (v_45 5), .int (v_45 6), .int (v_45 7), .ref (r_44 16), .int (v_45 8), .ref (r_44 17), .int (v_45 9), .ref (r_44 18), .long q_46, .ref (r_44 19), .ref (r_44 20), .int (v_45 10), .int (v_45 11), .int (v_45 12), .ref (r_44 21), .ref (r_44 22), .int (v_45 13), .ref (r_44 23), .int (v_45 14), .int (v_45 15), .ref (r_44 24), .ref (r_44 25), .ref (r_44 26), .ref (r_44 27), .ref (r_44 28), .ref (r_44 29), .ref (r_44 30), .ref (r_44 31)]) := by rw [← hfe]; exact va_up_self _ _ _
          clear hfe
          have hI := hI9
          have hfr := hfr9
          clear hI9 hfr9
          have hgr : ∀ κ : tk_K, κ.1 ∉ ([39, 43, 44] : List Nat) → Γ_192 κ = Γ κ := tg_fr hgr eΓ_192 (by decide)
          have hx_196 : (v_45 0).toInt = Γ_192 (39, 0, 0) 0 := hv_193 0 (by decide)
          have hx_197 : z_191.toInt = Γ_192 (39, 0, 0) 1 := hv_193 1 (by decide)
          have hx_198 : (v_45 3).toInt = Γ_192 (39, 0, 0) 3 := hv_193 3 (by decide)
          have hx_199 : (v_45 4).toInt = Γ_192 (39, 0, 0) 4 := hv_193 4 (by decide)
          have hx_200 : (v_45 5).toInt = Γ_192 (39, 0, 0) 5 := hv_193 5 (by decide)
          have hx_201 : (v_45 6).toInt = Γ_192 (39, 0, 0) 6 := hv_193 6 (by decide)
          have hx_202 : (v_45 7).toInt = Γ_192 (39, 0, 0) 7 := hv_193 7 (by decide)
          have hx_203 : (v_45 8).toInt = Γ_192 (39, 0, 0) 8 := hv_193 8 (by decide)
          obtain ⟨hpa, hpb, hpc, hpd, _⟩ := id hp
          have hle := congrFun (show Γ_192 (44, 22, 0) = _ from by rw [eΓ_192, tg_rf (by decide)]) t0.toNat
          have hp : ps (Γ_192 (43, 8800, 0)) t0 (Γ_192 (44, 22, 0) t0.toNat) (Γ_192 (39, 0, 0) 1) T0 (Γ_192 (39, 0, 0) 5) a (d + 1) := hp.eq (show Γ_192 (43, 8800, 0) = _ from by rw [eΓ_192, tg_rf (by decide)]) rfl (congrFun (show Γ_192 (44, 22, 0) = _ from by rw [eΓ_192, tg_rf (by decide)]) _) (by omega) rfl (by omega)
          have hz : fz (Γ (43, 8800, 0)) (Γ_192 (43, 8800, 0)) (Γ (44, 22, 0)) (Γ_192 (44, 22, 0)) t0 := by rw [(show Γ_192 (43, 8800, 0) = _ from by rw [eΓ_192, tg_rf (by decide)]), (show Γ_192 (44, 22, 0) = _ from by rw [eΓ_192, tg_rf (by decide)])]; exact hz
          have hfw : fw (Γ (43, 8800, 0)) (Γ_192 (43, 8800, 0)) (Γ (44, 22, 0)) (Γ_192 (44, 22, 0)) t0 := by rw [(show Γ_192 (43, 8800, 0) = _ from by rw [eΓ_192, tg_rf (by decide)]), (show Γ_192 (44, 22, 0) = _ from by rw [eΓ_192, tg_rf (by decide)])]; exact hfw
          refine lv_iload_n hx hb dX12_compare_54 rfl (lv_at hl 1 rfl) ?_
          refine lv_bipush (v := 61) hx hb dX12_compare_55 (by decide) ?_
          refine lv_icmp_eq (tgt := 89) hx hb dX12_compare_57 (by decide) (fun c_204 => ?_) (fun c_204 => ?_)
          · have c_204 : r_38.toInt = (61 : Int) := tl_eq c_204
            exfalso; omega
          · have c_204 : ¬ r_38.toInt = (61 : Int) := tl_neq c_204
            refine lv_aload_n hx hb dX12_compare_60 rfl (lv_at hl 2 rfl) ?_
            refine tp_get (cy := cy) (ci := 12) (v := .int z_191) (C := RX12) (T := TX12) (N := 49) hx hb hta inlX12 hown hK hP ho.1 hf_195 rfl 17 (by decide) (hta _ wk_539) (fun _ h9 => h9) rfl dX12_compare_61 ?_
            refine lv_aload_n hx hb dX12_compare_64 rfl (lv_at hl 2 rfl) ?_
            refine tp_get (cy := cy) (ci := 12) (v := .int (v_45 0)) (C := RX12) (T := TX12) (N := 49) hx hb hta inlX12 hown hK hP ho.1 hf_195 rfl 2 (by decide) (hta _ wk_347) (fun _ h9 => h9) rfl dX12_compare_65 ?_
            refine lv_icmp_ge (tgt := 89) hx hb dX12_compare_68 (by decide) (fun c_205 => ?_) (fun c_205 => ?_)
            · have c_205 : (v_45 0).toInt ≤ z_191.toInt := tl_le c_205
              refine lv_iconst (v := 0) hx hb dX12_compare_89 (by decide) ?_
              refine lv_istore_n (lv' := [(3, .int 0), (2, .int (v_45 1)), (1, .int r_38), (0, .ref o)]) hx hb dX12_compare_90 rfl hl (by decide) rfl (fun ls hl => ?_)
              refine lv_iload_n hx hb dX12_compare_91 rfl (lv_at hl 0 rfl) ?_
              refine lv_if_eq (tgt := 105) hx hb dX12_compare_92 (by decide) (fun _ => ?_) (fun c => absurd c (by decide))
              exact hjn105 f_194 Γ_192 r_38 0 H locs ls (show ps (Γ_192 (43, 8800, 0)) t0 (Γ_192 (44, 22, 0) t0.toNat) (Γ_192 (39, 0, 0) 1) T0 (Γ_192 (39, 0, 0) 5) a (d + 1) from hp) (show fz (Γ (43, 8800, 0)) (Γ_192 (43, 8800, 0)) (Γ (44, 22, 0)) (Γ_192 (44, 22, 0)) t0 from hz) (show fw (Γ (43, 8800, 0)) (Γ_192 (43, 8800, 0)) (Γ (44, 22, 0)) (Γ_192 (44, 22, 0)) t0 from hfw) (show Γ (39, 0, 0) 1 - Γ (44, 22, 0) t0.toNat + 1 ≤ Γ_192 (39, 0, 0) 1 - Γ_192 (44, 22, 0) t0.toNat from (by omega)) (show Γ_192 (39, 0, 0) 0 = Γ (39, 0, 0) 0 from (by omega)) (show Γ_192 (39, 0, 0) 4 = Γ (39, 0, 0) 4 from (by omega)) (show Γ_192 (39, 0, 0) 6 = Γ (39, 0, 0) 6 from (by omega)) (show Γ_192 (39, 0, 0) 7 = Γ (39, 0, 0) 7 from (by omega)) (show Γ_192 (39, 0, 0) 8 = Γ (39, 0, 0) 8 from (by omega)) (show Γ (39, 0, 0) 1 ≤ Γ_192 (39, 0, 0) 1 ∧ Γ_192 (39, 0, 0) 1 ≤ T0 from (by omega)) (show (0 : Int) = 0 ∨ (0 : Int) = 1 from (by decide)) hP hI hfr hgr hS (lv_sub hl [2, 0, 1, 3] rfl)
            · have c_205 : z_191.toInt < (v_45 0).toInt := tl_nle c_205
              refine lv_aload_n hx hb dX12_compare_71 rfl (lv_at hl 2 rfl) ?_
              refine tp_get (cy := cy) (ci := 12) (v := .ref (r_44 1)) (C := RX12) (T := TX12) (N := 49) hx hb hta inlX12 hown hK hP ho.1 hf_195 rfl 1 (by decide) (hta _ wk_151) (fun _ h9 => h9) rfl dX12_compare_72 ?_
              refine lv_aload_n hx hb dX12_compare_75 rfl (lv_at hl 2 rfl) ?_
              refine tp_get (cy := cy) (ci := 12) (v := .int z_191) (C := RX12) (T := TX12) (N := 49) hx hb hta inlX12 hown hK hP ho.1 hf_195 rfl 17 (by decide) (hta _ wk_539) (fun _ h9 => h9) rfl dX12_compare_76 ?_
              obtain ⟨g_207, hf_206, hg_208⟩ := (show tp_g8 cy (400) (Γ (41, 400, 0)) (f (r_44 1)) from hI0.at (show tp_r L K 41 400 0 (r_44 1) from hr_47 1 (by decide)))
              have hn_209 : vp_in z_191 (400) := tl_in (by omega) (by omega)
              refine tp_bald (cy := cy) hx hb hK hP (show tp_r L K 41 400 0 (r_44 1) from hr_47 1 (by decide)).1 ((tp_un hfr (show tp_r L K 41 400 0 (r_44 1) from hr_47 1 (by decide)) (by decide)).trans hf_206) hn_209 dX12_compare_79 ?_
              refine lv_topi (fun z_210 ez_210 => ?_)
              have iz_210 : z_210.toInt = τ z_191.toInt.toNat := by rw [ez_210, ← ht]; exact hg_208 _ (tp_pin hn_209)
              have jz_210 : z_210.toInt = τ  (Γ_192 (39, 0, 0) 1).toNat := by rw [← hx_197]; exact iz_210
              refine lv_bipush (v := 61) hx hb dX12_compare_80 (by decide) ?_
              refine lv_icmp_ne (tgt := 89) hx hb dX12_compare_82 (by decide) (fun c_211 => ?_) (fun c_211 => ?_)
              · have c_211 : ¬ z_210.toInt = (61 : Int) := tl_neq c_211
                refine lv_iconst (v := 0) hx hb dX12_compare_89 (by decide) ?_
                refine lv_istore_n (lv' := [(3, .int 0), (2, .int (v_45 1)), (1, .int r_38), (0, .ref o)]) hx hb dX12_compare_90 rfl hl (by decide) rfl (fun ls hl => ?_)
                refine lv_iload_n hx hb dX12_compare_91 rfl (lv_at hl 0 rfl) ?_
                refine lv_if_eq (tgt := 105) hx hb dX12_compare_92 (by decide) (fun _ => ?_) (fun c => absurd c (by decide))
                exact hjn105 f_194 Γ_192 r_38 0 H locs ls (show ps (Γ_192 (43, 8800, 0)) t0 (Γ_192 (44, 22, 0) t0.toNat) (Γ_192 (39, 0, 0) 1) T0 (Γ_192 (39, 0, 0) 5) a (d + 1) from hp) (show fz (Γ (43, 8800, 0)) (Γ_192 (43, 8800, 0)) (Γ (44, 22, 0)) (Γ_192 (44, 22, 0)) t0 from hz) (show fw (Γ (43, 8800, 0)) (Γ_192 (43, 8800, 0)) (Γ (44, 22, 0)) (Γ_192 (44, 22, 0)) t0 from hfw) (show Γ (39, 0, 0) 1 - Γ (44, 22, 0) t0.toNat + 1 ≤ Γ_192 (39, 0, 0) 1 - Γ_192 (44, 22, 0) t0.toNat from (by omega)) (show Γ_192 (39, 0, 0) 0 = Γ (39, 0, 0) 0 from (by omega)) (show Γ_192 (39, 0, 0) 4 = Γ (39, 0, 0) 4 from (by omega)) (show Γ_192 (39, 0, 0) 6 = Γ (39, 0, 0) 6 from (by omega)) (show Γ_192 (39, 0, 0) 7 = Γ (39, 0, 0) 7 from (by omega)) (show Γ_192 (39, 0, 0) 8 = Γ (39, 0, 0) 8 from (by omega)) (show Γ (39, 0, 0) 1 ≤ Γ_192 (39, 0, 0) 1 ∧ Γ_192 (39, 0, 0) 1 ≤ T0 from (by omega)) (show (0 : Int) = 0 ∨ (0 : Int) = 1 from (by decide)) hP hI hfr hgr hS (lv_sub hl [2, 0, 1, 3] rfl)
              · have c_211 : z_210.toInt = (61 : Int) := tl_eq c_211
                refine lv_iconst (v := 1) hx hb dX12_compare_85 (by decide) ?_
                refine lv_goto (tgt := 90) hx hb dX12_compare_86 (by decide) ?_
                refine lv_istore_n (lv' := [(3, .int 1), (2, .int (v_45 1)), (1, .int r_38), (0, .ref o)]) hx hb dX12_compare_90 rfl hl (by decide) rfl (fun ls hl => ?_)
                refine lv_iload_n hx hb dX12_compare_91 rfl (lv_at hl 0 rfl) ?_
                refine lv_if_eq (tgt := 105) hx hb dX12_compare_92 (by decide) (fun c => absurd c (by decide)) (fun _ => ?_)
                refine lv_aload_n hx hb dX12_compare_95 rfl (lv_at hl 3 rfl) ?_
                refine lv_dup hx hb dX12_compare_96 rfl ?_
                refine tp_get (cy := cy) (ci := 12) (v := .int z_191) (C := RX12) (T := TX12) (N := 49) hx hb hta inlX12 hown hK hP ho.1 hf_195 rfl 17 (by decide) (hta _ wk_539) (fun _ h9 => h9) rfl dX12_compare_97 ?_
                refine lv_iconst (v := 1) hx hb dX12_compare_100 (by decide) ?_
                refine lv_iadd hx hb dX12_compare_101 ?_
                refine lv_topi (fun z_212 ez_212 => ?_)
                try have iz_212 : z_212.toInt = z_191.toInt + (1 : Int) := by rw [ez_212]; exact tl_addN z_191 1 rfl rfl (by omega) (by omega)
                obtain ⟨Γ_213, eΓ_213⟩ : ∃ y : tk_G, y = tg Γ_192 (39, 0, 0) 1 z_212.toInt := ⟨_, rfl⟩
                have hv_214 : ∀ i : Nat, i < 16 → ((upd (upd v_45 1 z_191) 1 z_212) i).toInt = Γ_213 (39, 0, 0) i := by rw [eΓ_213, tg_f]; exact tp_gi_upd hv_193
                have hI9 : tp_I cy L K Γ_213 (va_up f_194 o (.inr (12, [.ref (r_44 0), .ref (r_44 1), .int (v_45 0), .ref (r_44 2), .ref (r_44 3), .ref (r_44 4), .ref (r_44 5), .ref (r_44 6), .ref (r_44 7), .ref (r_44 8), .ref (r_44 9), .ref (r_44 10), .ref (r_44 11), .ref (r_44 12), .ref (r_44 13), .ref (r_44 14), .ref (r_44 15), .int z_212, .int (v_45 2), .int (v_45 3), .int (v_45 4), .int (v_45 5), .int (v_45 6), .int (v_45 7), .ref (r_44 16), .int (v_45 8), .ref (r_44 17), .int (v_45 9), .ref (r_44 18), .long q_46, .ref (r_44 19), .ref (r_44 20), .int (v_45 10), .int (v_45 11), .int (v_45 12), .ref (r_44 21), .ref (r_44 22), .int (v_45 13), .ref (r_44 23), .int (v_45 14), .int (v_45 15), .ref (r_44 24), .ref (r_44 25), .ref (r_44 26), .ref (r_44 27), .ref (r_44 28), .ref (r_44 29), .ref (r_44 30), .ref (r_44 31)]))) := by have q9 := hv_214; rw [eΓ_213, tg_f] at q9; rw [eΓ_213]; exact hI.setg hU rfl ho (show tp_o_M L K 0 0 (tgu (Γ_192 (39, 0, 0)) 1 z_212.toInt) _ from ⟨r_44, (upd (upd v_45 1 z_191) 1 z_212), q_46, rfl, hr_47, q9⟩)
                have hfr9 : ∀ b, (K b).1 ∉ ([39, 43, 44] : List Nat) → va_up f_194 o (.inr (12, [.ref (r_44 0), .ref (r_44 1), .int (v_45 0), .ref (r_44 2), .ref (r_44 3), .ref (r_44 4), .ref (r_44 5), .ref (r_44 6), .ref (r_44 7), .ref (r_44 8), .ref (r_44 9), .ref (r_44 10), .ref (r_44 11), .ref (r_44 12), .ref (r_44 13), .ref (r_44 14), .ref (r_44 15), .int z_212, .int (v_45 2), .int (v_45 3), .int (v_45 4), .int (v_45 5), .int (v_45 6), .int (v_45 7), .ref (r_44 16), .int (v_45 8), .ref (r_44 17), .int (v_45 9), .ref (r_44 18), .long q_46, .ref (r_44 19), .ref (r_44 20), .int (v_45 10), .int (v_45 11), .int (v_45 12), .ref (r_44 21), .ref (r_44 22), .int (v_45 13), .ref (r_44 23), .int (v_45 14), .int (v_45 15), .ref (r_44 24), .ref (r_44 25), .ref (r_44 26), .ref (r_44 27), .ref (r_44 28), .ref (r_44 29), .ref (r_44 30), .ref (r_44 31)])) b = f b := tp_fr hfr ho (by decide)
                refine tp_put (cy := cy) (ci := 12) (v := .int z_212) (ty := tyX12 17) (C := RX12) (T := TX12) (N := 49) hx hb hta inlX12 tyX12 tyX12_ok nmX12 hown hK hP hD hS ho.1 hf_195 rfl 17 (by decide) (hta _ wk_539) (fun _ h9 => h9) rfl (tyX12_ok 17 (by decide)) rfl rfl (Nat.le_of_ble_eq_true rfl) dX12_compare_102 (fun H locs hP hD hS => ?_)
                have hP : va_P D vwCl (va_pl L (va_up f_194 o (.inr (12, [.ref (r_44 0), .ref (r_44 1), .int (v_45 0), .ref (r_44 2), .ref (r_44 3), .ref (r_44 4), .ref (r_44 5), .ref (r_44 6), .ref (r_44 7), .ref (r_44 8), .ref (r_44 9), .ref (r_44 10), .ref (r_44 11), .ref (r_44 12), .ref (r_44 13), .ref (r_44 14), .ref (r_44 15), .int z_212, .int (v_45 2), .int (v_45 3), .int (v_45 4), .int (v_45 5), .int (v_45 6), .int (v_45 7), .ref (r_44 16), .int (v_45 8), .ref (r_44 17), .int (v_45 9), .ref (r_44 18), .long q_46, .ref (r_44 19), .ref (r_44 20), .int (v_45 10), .int (v_45 11), .int (v_45 12), .ref (r_44 21), .ref (r_44 22), .int (v_45 13), .ref (r_44 23), .int (v_45 14), .int (v_45 15), .ref (r_44 24), .ref (r_44 25), .ref (r_44 26), .ref (r_44 27), .ref (r_44 28), .ref (r_44 29), .ref (r_44 30), .ref (r_44 31)])))) H := hP
                generalize hfe : va_up f_194 o (.inr (12, [.ref (r_44 0), .ref (r_44 1), .int (v_45 0), .ref (r_44 2), .ref (r_44 3), .ref (r_44 4), .ref (r_44 5), .ref (r_44 6), .ref (r_44 7), .ref (r_44 8), .ref (r_44 9), .ref (r_44 10), .ref (r_44 11), .ref (r_44 12), .ref (r_44 13), .ref (r_44 14), .ref (r_44 15), .int z_212, .int (v_45 2), .int (v_45 3), .int (v_45 4), .int (v_45 5), .int (v_45 6), .int (v_45 7), .ref (r_44 16), .int (v_45 8), .ref (r_44 17), .int (v_45 9), .ref (r_44 18), .long q_46, .ref (r_44 19), .ref (r_44 20), .int (v_45 10), .int (v_45 11), .int (v_45 12), .ref (r_44 21), .ref (r_44 22), .int (v_45 13), .ref (r_44 23), .int (v_45 14), .int (v_45 15), .ref (r_44 24), .ref (r_44 25), .ref (r_44 26), .ref (r_44 27), .ref (r_44 28), .ref (r_44 29), .ref (r_44 30), .ref (r_44 31)])) = f_215 at hP hI9 hfr9
                have hD : va_D A (va_pl L f_215) := tp_D hL hAL
                have hf_216 : f_215 o = .inr (12, [.ref (r_44 0), .ref (r_44 1), .int (v_45 0), .ref (r_44 2), .ref (r_44 3), .ref (r_44 4), .ref (r_44 5), .ref (r_44 6), .ref (r_44 7), .ref (r_44 8), .ref (r_44 9), .ref (r_44 10), .ref (r_44 11), .ref (r_44 12), .ref (r_44 13), .ref (r_44 14), .ref (r_44 15), .int z_212, .int (v_45 2), .int (v_45 3), .int (v_45 4), .int (v_45 5), .int (v_45 6), .int (v_45 7), .ref (r_44 16), .int (v_45 8), .ref (r_44 17), .int (v_45 9), .ref (r_44 18), .long q_46, .ref (r_44 19), .ref (r_44 20), .int (v_45 10), .int (v_45 11), .int (v_45 12), .ref (r_44 21), .ref (r_44 22), .int (v_45 13), .ref (r_44 23), .int (v_45 14), .int (v_45 15), .ref (r_44 24), .ref (r_44 25), .ref (r_44 26), .ref (r_44 27), .ref (r_44 28), .ref (r_44 29), .ref (r_44 30), .ref (r_44 31)]) := by rw [← hfe]; exact va_up_self _ _ _
                clear hfe
                have hI := hI9
                have hfr := hfr9
                clear hI9 hfr9
                have hgr : ∀ κ : tk_K, κ.1 ∉ ([39, 43, 44] : List Nat) → Γ_213 κ = Γ κ := tg_fr hgr eΓ_213 (by decide)
                have hx_217 : (v_45 0).toInt = Γ_213 (39, 0, 0) 0 := hv_214 0 (by decide)
                have hx_218 : z_212.toInt = Γ_213 (39, 0, 0) 1 := hv_214 1 (by decide)
                have hx_219 : (v_45 3).toInt = Γ_213 (39, 0, 0) 3 := hv_214 3 (by decide)
                have hx_220 : (v_45 4).toInt = Γ_213 (39, 0, 0) 4 := hv_214 4 (by decide)
                have hx_221 : (v_45 5).toInt = Γ_213 (39, 0, 0) 5 := hv_214 5 (by decide)
                have hx_222 : (v_45 6).toInt = Γ_213 (39, 0, 0) 6 := hv_214 6 (by decide)
                have hx_223 : (v_45 7).toInt = Γ_213 (39, 0, 0) 7 := hv_214 7 (by decide)
                have hx_224 : (v_45 8).toInt = Γ_213 (39, 0, 0) 8 := hv_214 8 (by decide)
                obtain ⟨hpa, hpb, hpc, hpd, _⟩ := id hp
                have hle := congrFun (show Γ_213 (44, 22, 0) = _ from by rw [eΓ_213, tg_rf (by decide)]) t0.toNat
                have hp : ps (Γ_213 (43, 8800, 0)) t0 (Γ_213 (44, 22, 0) t0.toNat) (Γ_213 (39, 0, 0) 1) T0 (Γ_213 (39, 0, 0) 5) a (d + 1) := hp.eq (show Γ_213 (43, 8800, 0) = _ from by rw [eΓ_213, tg_rf (by decide)]) rfl (congrFun (show Γ_213 (44, 22, 0) = _ from by rw [eΓ_213, tg_rf (by decide)]) _) (by omega) rfl (by omega)
                have hz : fz (Γ (43, 8800, 0)) (Γ_213 (43, 8800, 0)) (Γ (44, 22, 0)) (Γ_213 (44, 22, 0)) t0 := by rw [(show Γ_213 (43, 8800, 0) = _ from by rw [eΓ_213, tg_rf (by decide)]), (show Γ_213 (44, 22, 0) = _ from by rw [eΓ_213, tg_rf (by decide)])]; exact hz
                have hfw : fw (Γ (43, 8800, 0)) (Γ_213 (43, 8800, 0)) (Γ (44, 22, 0)) (Γ_213 (44, 22, 0)) t0 := by rw [(show Γ_213 (43, 8800, 0) = _ from by rw [eΓ_213, tg_rf (by decide)]), (show Γ_213 (44, 22, 0) = _ from by rw [eΓ_213, tg_rf (by decide)])]; exact hfw
                exact hjn105 f_215 Γ_213 r_38 1 H locs ls (show ps (Γ_213 (43, 8800, 0)) t0 (Γ_213 (44, 22, 0) t0.toNat) (Γ_213 (39, 0, 0) 1) T0 (Γ_213 (39, 0, 0) 5) a (d + 1) from hp) (show fz (Γ (43, 8800, 0)) (Γ_213 (43, 8800, 0)) (Γ (44, 22, 0)) (Γ_213 (44, 22, 0)) t0 from hz) (show fw (Γ (43, 8800, 0)) (Γ_213 (43, 8800, 0)) (Γ (44, 22, 0)) (Γ_213 (44, 22, 0)) t0 from hfw) (show Γ (39, 0, 0) 1 - Γ (44, 22, 0) t0.toNat + 1 ≤ Γ_213 (39, 0, 0) 1 - Γ_213 (44, 22, 0) t0.toNat from (by omega)) (show Γ_213 (39, 0, 0) 0 = Γ (39, 0, 0) 0 from (by omega)) (show Γ_213 (39, 0, 0) 4 = Γ (39, 0, 0) 4 from (by omega)) (show Γ_213 (39, 0, 0) 6 = Γ (39, 0, 0) 6 from (by omega)) (show Γ_213 (39, 0, 0) 7 = Γ (39, 0, 0) 7 from (by omega)) (show Γ_213 (39, 0, 0) 8 = Γ (39, 0, 0) 8 from (by omega)) (show Γ (39, 0, 0) 1 ≤ Γ_213 (39, 0, 0) 1 ∧ Γ_213 (39, 0, 0) 1 ≤ T0 from (by omega)) (show (1 : Int) = 0 ∨ (1 : Int) = 1 from (by decide)) hP hI hfr hgr hS (lv_sub hl [2, 0, 1, 3] rfl)
        · have c_190 : ¬ r_38.toInt = (62 : Int) := tl_neq c_190
          refine lv_aload_n hx hb dX12_compare_37 rfl (lv_at hl 2 rfl) ?_
          refine lv_iconst (v := 0) hx hb dX12_compare_38 (by decide) ?_
          refine lv_iload_n hx hb dX12_compare_39 rfl (lv_at hl 0 rfl) ?_
          refine tq_ciR hS (hAf _ hS.1) (tq_rV (As := [.int 0, .int (v_45 1)]) (rest := []) ⟨hx, hb, hml, hown, hta⟩ (tp_P.pre hK hN hL hU hI hP) (tp_recv hK hP ho.1 hf_43 rfl) lk_X12_184 (r_X12_fails l D cy H.size L K Γ_41 f_39 o 0 (v_45 1) ho) rfl rfl ⟨Nat.le_of_ble_eq_true rfl, Nat.le_of_ble_eq_true rfl⟩ rfl hl.1 rfl (Nat.le_of_ble_eq_true rfl) dX12_compare_40 ⟨Nat.le_of_ble_eq_true rfl, Nat.le_of_ble_eq_true rfl⟩) (fun r_226 f_227 Γ_229 H locs hw_225 hP hI hc_228 hcg_230 hS => ?_)
          have hD : va_D A (va_pl L f_227) := tp_D hL hAL
          have hfr := tp_fr2 hfr hc_228 (by decide)
          have hgr : ∀ κ : tk_K, κ.1 ∉ ([39, 43, 44] : List Nat) → Γ_229 κ = Γ κ := tg_fr2 hgr hcg_230 (by decide)
          obtain ⟨rfl, hw_225⟩ := hw_225
          have hw_225 : Γ_229 (39, 0, 0) 0 = Γ_41 (39, 0, 0) 0 ∧ Γ_229 (39, 0, 0) 1 = Γ_41 (39, 0, 0) 1 ∧ Γ_229 (39, 0, 0) 3 = Γ_41 (39, 0, 0) 3 ∧ Γ_229 (39, 0, 0) 4 = Γ_41 (39, 0, 0) 4 ∧ Γ_229 (39, 0, 0) 5 = Γ_41 (39, 0, 0) 5 ∧ Γ_229 (39, 0, 0) 6 = Γ_41 (39, 0, 0) 6 ∧ Γ_229 (39, 0, 0) 7 = Γ_41 (39, 0, 0) 7 ∧ Γ_229 (39, 0, 0) 8 = Γ_41 (39, 0, 0) 8 := hw_225
          obtain ⟨hpa, hpb, hpc, hpd, _⟩ := id hp
          have hle := congrFun (hcg_230 (44, 22, 0) (by decide)) t0.toNat
          have hp : ps (Γ_229 (43, 8800, 0)) t0 (Γ_229 (44, 22, 0) t0.toNat) (Γ_229 (39, 0, 0) 1) T0 (Γ_229 (39, 0, 0) 5) a (d + 1) := hp.eq (hcg_230 (43, 8800, 0) (by decide)) rfl (congrFun (hcg_230 (44, 22, 0) (by decide)) _) (by omega) rfl (by omega)
          have hz : fz (Γ (43, 8800, 0)) (Γ_229 (43, 8800, 0)) (Γ (44, 22, 0)) (Γ_229 (44, 22, 0)) t0 := by rw [(hcg_230 (43, 8800, 0) (by decide)), (hcg_230 (44, 22, 0) (by decide))]; exact hz
          have hfw : fw (Γ (43, 8800, 0)) (Γ_229 (43, 8800, 0)) (Γ (44, 22, 0)) (Γ_229 (44, 22, 0)) t0 := by rw [(hcg_230 (43, 8800, 0) (by decide)), (hcg_230 (44, 22, 0) (by decide))]; exact hfw
          have hpo9 : tl_J (0 : Int32) (ps (Γ_229 (43, 8800, 0)) t0 (Γ_229 (44, 22, 0) t0.toNat) (Γ_229 (39, 0, 0) 1) T0 (Γ_229 (39, 0, 0) 5) a (d + 1) ∧ Γ (39, 0, 0) 1 - Γ (44, 22, 0) t0.toNat ≤ Γ_229 (39, 0, 0) 1 - Γ_229 (44, 22, 0) t0.toNat ∧ fz (Γ (43, 8800, 0)) (Γ_229 (43, 8800, 0)) (Γ (44, 22, 0)) (Γ_229 (44, 22, 0)) t0) ∧ Γ_229 (39, 0, 0) 0 = Γ (39, 0, 0) 0 ∧ Γ_229 (39, 0, 0) 4 = Γ (39, 0, 0) 4 ∧ Γ_229 (39, 0, 0) 6 = Γ (39, 0, 0) 6 ∧ Γ_229 (39, 0, 0) 7 = Γ (39, 0, 0) 7 ∧ Γ_229 (39, 0, 0) 8 = Γ (39, 0, 0) 8 ∧ Γ (39, 0, 0) 1 ≤ Γ_229 (39, 0, 0) 1 ∧ Γ_229 (39, 0, 0) 1 ≤ T0 ∧ fw (Γ (43, 8800, 0)) (Γ_229 (43, 8800, 0)) (Γ (44, 22, 0)) (Γ_229 (44, 22, 0)) t0 := ⟨(Or.inr rfl), ⟨(by omega), (by omega), (by omega), (by omega), (by omega), (by omega), (by omega), hfw⟩⟩
          exact W.zret (ty := .boolean) (v := 0) hx hb hr rfl (fun t ht hW => ⟨⟨_, (f_227, Γ_229), rfl, hpo9, by rw [ht]; exact hP, hI, hfr, hgr⟩, hS.F ht⟩) hS.2.2 dX12_compare_43
  · have c_22 := c_22
    refine lv_iconst (v := 0) hx hb dX12_compare_7 (by decide) ?_
    have hpo9 : tl_J (0 : Int32) (ps (Γ_19 (43, 8800, 0)) t0 (Γ_19 (44, 22, 0) t0.toNat) (Γ_19 (39, 0, 0) 1) T0 (Γ_19 (39, 0, 0) 5) a (d + 1) ∧ Γ (39, 0, 0) 1 - Γ (44, 22, 0) t0.toNat ≤ Γ_19 (39, 0, 0) 1 - Γ_19 (44, 22, 0) t0.toNat ∧ fz (Γ (43, 8800, 0)) (Γ_19 (43, 8800, 0)) (Γ (44, 22, 0)) (Γ_19 (44, 22, 0)) t0) ∧ Γ_19 (39, 0, 0) 0 = Γ (39, 0, 0) 0 ∧ Γ_19 (39, 0, 0) 4 = Γ (39, 0, 0) 4 ∧ Γ_19 (39, 0, 0) 6 = Γ (39, 0, 0) 6 ∧ Γ_19 (39, 0, 0) 7 = Γ (39, 0, 0) 7 ∧ Γ_19 (39, 0, 0) 8 = Γ (39, 0, 0) 8 ∧ Γ (39, 0, 0) 1 ≤ Γ_19 (39, 0, 0) 1 ∧ Γ_19 (39, 0, 0) 1 ≤ T0 ∧ fw (Γ (43, 8800, 0)) (Γ_19 (43, 8800, 0)) (Γ (44, 22, 0)) (Γ_19 (44, 22, 0)) t0 := ⟨(Or.inr rfl), ⟨(by omega), (by omega), (by omega), (by omega), (by omega), (by omega), (by omega), hfw⟩⟩
    exact W.zret (ty := .boolean) (v := 0) hx hb hr rfl (fun t ht hW => ⟨⟨_, (f_17, Γ_19), rfl, hpo9, by rw [ht]; exact hP, hI, hfr, hgr⟩, hS.F ht⟩) hS.2.2 dX12_compare_8
