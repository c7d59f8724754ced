theorem dX12_bows_0 : decode cX12_bows 0 = .ok (.bipush 6, 2) := by decide +kernel
theorem dX12_bows_2 : decode cX12_bows 2 = .ok (.iload_n 1, 1) := by decide +kernel
theorem dX12_bows_3 : decode cX12_bows 3 = .ok (.iadd, 1) := by decide +kernel
theorem dX12_bows_4 : decode cX12_bows 4 = .ok (.istore_n 3, 1) := by decide +kernel
theorem dX12_bows_5 : decode cX12_bows 5 = .ok (.aload_n 0, 1) := by decide +kernel
theorem dX12_bows_6 : decode cX12_bows 6 = .ok (.iconst 0, 1) := by decide +kernel
theorem dX12_bows_7 : decode cX12_bows 7 = .ok (.putfield 398, 3) := by decide +kernel
theorem dX12_bows_10 : decode cX12_bows 10 = .ok (.iconst 0, 1) := by decide +kernel
theorem dX12_bows_11 : decode cX12_bows 11 = .ok (.istore 4, 2) := by decide +kernel
theorem dX12_bows_13 : decode cX12_bows 13 = .ok (.iload 4, 2) := by decide +kernel
theorem dX12_bows_15 : decode cX12_bows 15 = .ok (.iload_n 2, 1) := by decide +kernel
theorem dX12_bows_16 : decode cX12_bows 16 = .ok (.iconst 1, 1) := by decide +kernel
theorem dX12_bows_17 : decode cX12_bows 17 = .ok (.iadd, 1) := by decide +kernel
theorem dX12_bows_18 : decode cX12_bows 18 = .ok (.if_icmp .gt 157, 3) := by decide +kernel
theorem dX12_bows_21 : decode cX12_bows 21 = .ok (.sipush 299, 3) := by decide +kernel
theorem dX12_bows_24 : decode cX12_bows 24 = .ok (.iload 4, 2) := by decide +kernel
theorem dX12_bows_26 : decode cX12_bows 26 = .ok (.imul, 1) := by decide +kernel
theorem dX12_bows_27 : decode cX12_bows 27 = .ok (.iload_n 2, 1) := by decide +kernel
theorem dX12_bows_28 : decode cX12_bows 28 = .ok (.iconst 1, 1) := by decide +kernel
theorem dX12_bows_29 : decode cX12_bows 29 = .ok (.iadd, 1) := by decide +kernel
theorem dX12_bows_30 : decode cX12_bows 30 = .ok (.idiv, 1) := by decide +kernel
theorem dX12_bows_31 : decode cX12_bows 31 = .ok (.istore 5, 2) := by decide +kernel
theorem dX12_bows_33 : decode cX12_bows 33 = .ok (.lconst 0, 1) := by decide +kernel
theorem dX12_bows_34 : decode cX12_bows 34 = .ok (.lstore 6, 2) := by decide +kernel
theorem dX12_bows_36 : decode cX12_bows 36 = .ok (.iconst 0, 1) := by decide +kernel
theorem dX12_bows_37 : decode cX12_bows 37 = .ok (.istore 8, 2) := by decide +kernel
theorem dX12_bows_39 : decode cX12_bows 39 = .ok (.iload 5, 2) := by decide +kernel
theorem dX12_bows_41 : decode cX12_bows 41 = .ok (.aload_n 0, 1) := by decide +kernel
theorem dX12_bows_42 : decode cX12_bows 42 = .ok (.getfield 56, 3) := by decide +kernel
theorem dX12_bows_45 : decode cX12_bows 45 = .ok (.iload_n 3, 1) := by decide +kernel
theorem dX12_bows_46 : decode cX12_bows 46 = .ok (.iaload, 1) := by decide +kernel
theorem dX12_bows_47 : decode cX12_bows 47 = .ok (.isub, 1) := by decide +kernel
theorem dX12_bows_48 : decode cX12_bows 48 = .ok (.ifCond .ge 7, 3) := by decide +kernel
theorem dX12_bows_51 : decode cX12_bows 51 = .ok (.iconst 0, 1) := by decide +kernel
theorem dX12_bows_52 : decode cX12_bows 52 = .ok (.goto 12, 3) := by decide +kernel
theorem dX12_bows_55 : decode cX12_bows 55 = .ok (.iload 5, 2) := by decide +kernel
theorem dX12_bows_57 : decode cX12_bows 57 = .ok (.aload_n 0, 1) := by decide +kernel
theorem dX12_bows_58 : decode cX12_bows 58 = .ok (.getfield 56, 3) := by decide +kernel
theorem dX12_bows_61 : decode cX12_bows 61 = .ok (.iload_n 3, 1) := by decide +kernel
theorem dX12_bows_62 : decode cX12_bows 62 = .ok (.iaload, 1) := by decide +kernel
theorem dX12_bows_63 : decode cX12_bows 63 = .ok (.isub, 1) := by decide +kernel
theorem dX12_bows_64 : decode cX12_bows 64 = .ok (.istore 9, 2) := by decide +kernel
theorem dX12_bows_66 : decode cX12_bows 66 = .ok (.iload 9, 2) := by decide +kernel
theorem dX12_bows_68 : decode cX12_bows 68 = .ok (.iload 5, 2) := by decide +kernel
theorem dX12_bows_70 : decode cX12_bows 70 = .ok (.aload_n 0, 1) := by decide +kernel
theorem dX12_bows_71 : decode cX12_bows 71 = .ok (.getfield 56, 3) := by decide +kernel
theorem dX12_bows_74 : decode cX12_bows 74 = .ok (.iload_n 3, 1) := by decide +kernel
theorem dX12_bows_75 : decode cX12_bows 75 = .ok (.iaload, 1) := by decide +kernel
theorem dX12_bows_76 : decode cX12_bows 76 = .ok (.iadd, 1) := by decide +kernel
theorem dX12_bows_77 : decode cX12_bows 77 = .ok (.if_icmp .gt 46, 3) := by decide +kernel
theorem dX12_bows_80 : decode cX12_bows 80 = .ok (.iload 9, 2) := by decide +kernel
theorem dX12_bows_82 : decode cX12_bows 82 = .ok (.sipush 300, 3) := by decide +kernel
theorem dX12_bows_85 : decode cX12_bows 85 = .ok (.if_icmp .ge 38, 3) := by decide +kernel
theorem dX12_bows_88 : decode cX12_bows 88 = .ok (.aload_n 0, 1) := by decide +kernel
theorem dX12_bows_89 : decode cX12_bows 89 = .ok (.getfield 72, 3) := by decide +kernel
theorem dX12_bows_92 : decode cX12_bows 92 = .ok (.iload 9, 2) := by decide +kernel
theorem dX12_bows_94 : decode cX12_bows 94 = .ok (.baload, 1) := by decide +kernel
theorem dX12_bows_95 : decode cX12_bows 95 = .ok (.ifCond .ne 6, 3) := by decide +kernel
theorem dX12_bows_98 : decode cX12_bows 98 = .ok (.goto 19, 3) := by decide +kernel
theorem dX12_bows_101 : decode cX12_bows 101 = .ok (.lload 6, 2) := by decide +kernel
theorem dX12_bows_103 : decode cX12_bows 103 = .ok (.aload_n 0, 1) := by decide +kernel
theorem dX12_bows_104 : decode cX12_bows 104 = .ok (.getfield 69, 3) := by decide +kernel
theorem dX12_bows_107 : decode cX12_bows 107 = .ok (.iload 9, 2) := by decide +kernel
theorem dX12_bows_109 : decode cX12_bows 109 = .ok (.iaload, 1) := by decide +kernel
theorem dX12_bows_110 : decode cX12_bows 110 = .ok (.i2l, 1) := by decide +kernel
theorem dX12_bows_111 : decode cX12_bows 111 = .ok (.ladd, 1) := by decide +kernel
theorem dX12_bows_112 : decode cX12_bows 112 = .ok (.lstore 6, 2) := by decide +kernel
theorem dX12_bows_114 : decode cX12_bows 114 = .ok (.iinc 8 1, 3) := by decide +kernel
theorem dX12_bows_117 : decode cX12_bows 117 = .ok (.iinc 9 1, 3) := by decide +kernel
theorem dX12_bows_120 : decode cX12_bows 120 = .ok (.goto (-54), 3) := by decide +kernel
theorem dX12_bows_123 : decode cX12_bows 123 = .ok (.iload 8, 2) := by decide +kernel
theorem dX12_bows_125 : decode cX12_bows 125 = .ok (.ifCond .ne 6, 3) := by decide +kernel
theorem dX12_bows_128 : decode cX12_bows 128 = .ok (.goto 41, 3) := by decide +kernel
theorem dX12_bows_131 : decode cX12_bows 131 = .ok (.aload_n 0, 1) := by decide +kernel
theorem dX12_bows_132 : decode cX12_bows 132 = .ok (.getfield 76, 3) := by decide +kernel
theorem dX12_bows_135 : decode cX12_bows 135 = .ok (.aload_n 0, 1) := by decide +kernel
theorem dX12_bows_136 : decode cX12_bows 136 = .ok (.getfield 398, 3) := by decide +kernel
theorem dX12_bows_139 : decode cX12_bows 139 = .ok (.iload 5, 2) := by decide +kernel
theorem dX12_bows_141 : decode cX12_bows 141 = .ok (.iastore, 1) := by decide +kernel
theorem dX12_bows_142 : decode cX12_bows 142 = .ok (.aload_n 0, 1) := by decide +kernel
theorem dX12_bows_143 : decode cX12_bows 143 = .ok (.getfield 79, 3) := by decide +kernel
theorem dX12_bows_146 : decode cX12_bows 146 = .ok (.aload_n 0, 1) := by decide +kernel
theorem dX12_bows_147 : decode cX12_bows 147 = .ok (.getfield 398, 3) := by decide +kernel
theorem dX12_bows_150 : decode cX12_bows 150 = .ok (.lload 6, 2) := by decide +kernel
theorem dX12_bows_152 : decode cX12_bows 152 = .ok (.iload 8, 2) := by decide +kernel
theorem dX12_bows_154 : decode cX12_bows 154 = .ok (.i2l, 1) := by decide +kernel
theorem dX12_bows_155 : decode cX12_bows 155 = .ok (.invokestatic 401, 3) := by decide +kernel
theorem dX12_bows_158 : decode cX12_bows 158 = .ok (.lastore, 1) := by decide +kernel
theorem dX12_bows_159 : decode cX12_bows 159 = .ok (.aload_n 0, 1) := by decide +kernel
theorem dX12_bows_160 : decode cX12_bows 160 = .ok (.dup, 1) := by decide +kernel
theorem dX12_bows_161 : decode cX12_bows 161 = .ok (.getfield 398, 3) := by decide +kernel
theorem dX12_bows_164 : decode cX12_bows 164 = .ok (.iconst 1, 1) := by decide +kernel
theorem dX12_bows_165 : decode cX12_bows 165 = .ok (.iadd, 1) := by decide +kernel
theorem dX12_bows_166 : decode cX12_bows 166 = .ok (.putfield 398, 3) := by decide +kernel
theorem dX12_bows_169 : decode cX12_bows 169 = .ok (.iinc 4 1, 3) := by decide +kernel
theorem dX12_bows_172 : decode cX12_bows 172 = .ok (.goto (-159), 3) := by decide +kernel
theorem dX12_bows_175 : decode cX12_bows 175 = .ok (.iconst 0, 1) := by decide +kernel
theorem dX12_bows_176 : decode cX12_bows 176 = .ok (.istore 4, 2) := by decide +kernel
theorem dX12_bows_178 : decode cX12_bows 178 = .ok (.iload 4, 2) := by decide +kernel
theorem dX12_bows_180 : decode cX12_bows 180 = .ok (.sipush 300, 3) := by decide +kernel
theorem dX12_bows_183 : decode cX12_bows 183 = .ok (.if_icmp .ge 56, 3) := by decide +kernel
theorem dX12_bows_186 : decode cX12_bows 186 = .ok (.aload_n 0, 1) := by decide +kernel
theorem dX12_bows_187 : decode cX12_bows 187 = .ok (.getfield 398, 3) := by decide +kernel
theorem dX12_bows_190 : decode cX12_bows 190 = .ok (.ifCond .le 49, 3) := by decide +kernel
theorem dX12_bows_193 : decode cX12_bows 193 = .ok (.aload_n 0, 1) := by decide +kernel
theorem dX12_bows_194 : decode cX12_bows 194 = .ok (.getfield 82, 3) := by decide +kernel
theorem dX12_bows_197 : decode cX12_bows 197 = .ok (.iload 4, 2) := by decide +kernel
theorem dX12_bows_199 : decode cX12_bows 199 = .ok (.aload_n 0, 1) := by decide +kernel
theorem dX12_bows_200 : decode cX12_bows 200 = .ok (.getfield 69, 3) := by decide +kernel
theorem dX12_bows_203 : decode cX12_bows 203 = .ok (.iload 4, 2) := by decide +kernel
theorem dX12_bows_205 : decode cX12_bows 205 = .ok (.iaload, 1) := by decide +kernel
theorem dX12_bows_206 : decode cX12_bows 206 = .ok (.ldc 109, 2) := by decide +kernel
theorem dX12_bows_208 : decode cX12_bows 208 = .ok (.if_icmp .ne 9, 3) := by decide +kernel
theorem dX12_bows_211 : decode cX12_bows 211 = .ok (.ldc2_w 405, 3) := by decide +kernel
theorem dX12_bows_214 : decode cX12_bows 214 = .ok (.goto 18, 3) := by decide +kernel
theorem dX12_bows_217 : decode cX12_bows 217 = .ok (.aload_n 0, 1) := by decide +kernel
theorem dX12_bows_218 : decode cX12_bows 218 = .ok (.getfield 69, 3) := by decide +kernel
theorem dX12_bows_221 : decode cX12_bows 221 = .ok (.iload 4, 2) := by decide +kernel
theorem dX12_bows_223 : decode cX12_bows 223 = .ok (.iaload, 1) := by decide +kernel
theorem dX12_bows_224 : decode cX12_bows 224 = .ok (.i2l, 1) := by decide +kernel
theorem dX12_bows_225 : decode cX12_bows 225 = .ok (.aload_n 0, 1) := by decide +kernel
theorem dX12_bows_226 : decode cX12_bows 226 = .ok (.iload 4, 2) := by decide +kernel
theorem dX12_bows_228 : decode cX12_bows 228 = .ok (.invokevirtual 407, 3) := by decide +kernel
theorem dX12_bows_231 : decode cX12_bows 231 = .ok (.lsub, 1) := by decide +kernel
theorem dX12_bows_232 : decode cX12_bows 232 = .ok (.lastore, 1) := by decide +kernel
theorem dX12_bows_233 : decode cX12_bows 233 = .ok (.iinc 4 1, 3) := by decide +kernel
theorem dX12_bows_236 : decode cX12_bows 236 = .ok (.goto (-58), 3) := by decide +kernel
theorem dX12_bows_239 : decode cX12_bows 239 = .ok (.aload_n 0, 1) := by decide +kernel
theorem dX12_bows_240 : decode cX12_bows 240 = .ok (.getfield 398, 3) := by decide +kernel
theorem dX12_bows_243 : decode cX12_bows 243 = .ok (.ifCond .le 7, 3) := by decide +kernel
theorem dX12_bows_246 : decode cX12_bows 246 = .ok (.iconst 1, 1) := by decide +kernel
theorem dX12_bows_247 : decode cX12_bows 247 = .ok (.goto 4, 3) := by decide +kernel
theorem dX12_bows_250 : decode cX12_bows 250 = .ok (.iconst 0, 1) := by decide +kernel
theorem dX12_bows_251 : decode cX12_bows 251 = .ok (.ireturn, 1) := by decide +kernel
theorem wk_165 : Cond.fieldLink RX12 56 "ThinLineModel" "wide" "[I" ∈ tl_L := List.mem_filter.mpr ⟨lw_m6 (i := 81) rfl, rfl⟩
theorem wk_942 : Cond.methodLink RX12 407 yX12_heightAt ∈ tl_L := List.mem_filter.mpr ⟨lw_m8 (i := 42) rfl, rfl⟩
theorem wk_943 : Cond.instanceMethod yX12_heightAt ∈ tl_L := List.mem_filter.mpr ⟨lw_m8 (i := 44) rfl, rfl⟩
theorem wk_944 : Cond.selects RX12 yX12_heightAt yX12_heightAt ∈ tl_L := List.mem_filter.mpr ⟨lw_s10 (i := 9) (q := (yX12_heightAt, 49)) rfl, rfl⟩
theorem wk_945 : Cond.code yX12_heightAt cX12_heightAt 3 (some .long) ∈ tl_L := List.mem_filter.mpr ⟨lw_m8 (i := 45) rfl, rfl⟩
theorem lk_X12_407 : tl_kV RX12 407 RX12 yX12_heightAt cX12_heightAt 3 (some .long) 1 := ⟨wk_945, wk_942, wk_943, wk_944, wk_5, ⟨by decide +kernel, by decide +kernel, by decide +kernel⟩⟩
set_option maxHeartbeats 4000000 in
set_option maxRecDepth 100000 in
theorem r_X12_bows (l : Launch) (D : va_G) (cy : Nat → ClassId) (sz : Nat) (L : List Nat) (K : Nat → tk_K) (Γ : tk_G) (f : Nat → va_E) (o : Nat) (p0 : Int32) (p1 : Int32) (t1 : Int) (ho : tp_r L K 39 (0) 0 o) (ht1 : t1 = 6 + p0.toInt ∧ 6 ≤ t1 ∧ t1 ≤ 13) (hwi : 0 ≤ Γ (51, 22, 0) t1.toNat ∧ Γ (51, 22, 0) t1.toNat ≤ 50) (hu : ∀ j : Nat, j < 300 → ¬ Γ (60, 300, 0) j = 0 → 0 < Γ (39, 0, 0) 10) (hb1 : 0 ≤ p1.toInt ∧ p1.toInt ≤ 40) : Met l yX12_bows (tl_w yX12_bows cX12_bows 10 (some .boolean)) ({ frames := 2, cells := 0, slots := 0, locals := 47 }) (va_Pc [.ref o, .int p0, .int p1] (tp_P D cy L K Γ f sz)) (va_Qi (fun (r : Int32) (u : (Nat → va_E) × tk_G) => tl_E r (0 < u.2 (39, 0, 0) 13) 1 0 ∧ (0 ≤ u.2 (39, 0, 0) 13 ∧ u.2 (39, 0, 0) 13 ≤ 42) ∧ (0 < u.2 (39, 0, 0) 13 → 0 < Γ (39, 0, 0) 10) ∧ u.2 (39, 0, 0) 0 = Γ (39, 0, 0) 0 ∧ u.2 (39, 0, 0) 10 = Γ (39, 0, 0) 10 ∧ u.2 (39, 0, 0) 11 = Γ (39, 0, 0) 11 ∧ u.2 (39, 0, 0) 12 = Γ (39, 0, 0) 12 ∧ u.2 (39, 0, 0) 14 = Γ (39, 0, 0) 14 ∧ u.2 (39, 0, 0) 15 = Γ (39, 0, 0) 15 ∧ (∀ j : Nat, (j : Int) < u.2 (39, 0, 0) 13 → 0 ≤ u.2 (61, 42, 0) j ∧ u.2 (61, 42, 0) j ≤ 299) ∧ (∀ j : Nat, (j : Int) + 1 < u.2 (39, 0, 0) 13 → u.2 (61, 42, 0) j < u.2 (61, 42, 0) (j + 1))) (tp_BG D cy L K Γ f [39, 61, 62, 63]) (tp_A L sz)) 0 0 (tp_A L sz) := by
  refine Met.ofW (cc := cX12_bows) (maxL := 10) (ret := (some .boolean)) (by decide) rfl ?_
  intro p e s m args below meth c s₁ B hml hv
  obtain ⟨rfl, hsz, hP, hK, hL, hI, hN, hU⟩ := hv
  have hx := B.exec
  have hb := B.bytes
  have hr := B.returns
  have hta := tl_hta (atoms_spec (ws := tl_w yX12_bows cX12_bows 10 (some .boolean)) B.pre)
  have hown : s.vm.findClass RX12 = some m.cls := findClass_of_methodNamed B.named
  have hlocks := B.notSynchronized
  subst hsz
  have hI0 := hI
  generalize hAe : tp_A L s.heap.size = A
  have hA : ∀ q : Nat, s.heap.size ≤ q → A q := fun q h => by rw [← hAe]; exact Or.inr h
  have hAL : ∀ q ∈ L, A q := fun q h => by rw [← hAe]; exact Or.inl h
  have hAf : ∀ (H : Heap), s.heap.size ≤ H.size → ∀ q, tp_A L H.size q → A q := fun H h q hq => hq.elim (hAL q) (fun h2 => hA q (Nat.le_trans h h2))
  have hS : va_S A s.heap s.heap [] := va_S.rf
  have hD : va_D A (va_pl L f) := tp_D hL hAL
  have hfr : ∀ b, (K b).1 ∉ ([39, 61, 62, 63] : List Nat) → f b = f b := fun _ _ => rfl
  have hgr : ∀ κ : tk_K, κ.1 ∉ ([39, 61, 62, 63] : List Nat) → Γ κ = Γ κ := fun _ _ => rfl
  have hl := lv_entry ([.ref o, .int p0, .int p1]) (n := 10) (Nat.le_of_ble_eq_true rfl)
  rw [lg_entry_eq]
  generalize (lg_sl ([.ref o, .int p0, .int p1]) ++ List.replicate (10 - (lg_sl ([.ref o, .int p0, .int p1])).length) Slot.unset).toArray = ls at hl ⊢
  have hl : lv_has ls 10 [(0, .ref o), (1, .int p0), (2, .int p1)] := hl
  refine lv_bipush (v := 6) hx hb dX12_bows_0 (by decide) ?_
  refine lv_iload_n hx hb dX12_bows_2 rfl (lv_at hl 1 rfl) ?_
  refine lv_iadd hx hb dX12_bows_3 ?_
  refine lv_topi (fun z_1 ez_1 => ?_)
  try have iz_1 : z_1.toInt = (6 : Int) + p0.toInt := by rw [ez_1]; exact tl_addN 6 p0 rfl rfl (by omega) (by omega)
  refine lv_istore_n (lv' := [(3, .int z_1), (0, .ref o), (1, .int p0), (2, .int p1)]) hx hb dX12_bows_4 rfl hl (by decide) rfl (fun ls hl => ?_)
  refine lv_aload_n hx hb dX12_bows_5 rfl (lv_at hl 1 rfl) ?_
  refine lv_iconst (v := 0) hx hb dX12_bows_6 (by decide) ?_
  obtain ⟨r_3, v_4, q_5, hf_2, hr_6, hv_7⟩ := (show tp_o_M L K 0 0 (Γ (39, 0, 0)) (f o) from hI.at ho)
  have hx_8 : (v_4 0).toInt = Γ (39, 0, 0) 0 := hv_7 0 (by decide)
  have hx_9 : (v_4 10).toInt = Γ (39, 0, 0) 10 := hv_7 10 (by decide)
  have hx_10 : (v_4 11).toInt = Γ (39, 0, 0) 11 := hv_7 11 (by decide)
  have hx_11 : (v_4 12).toInt = Γ (39, 0, 0) 12 := hv_7 12 (by decide)
  have hx_12 : (v_4 13).toInt = Γ (39, 0, 0) 13 := hv_7 13 (by decide)
  have hx_13 : (v_4 14).toInt = Γ (39, 0, 0) 14 := hv_7 14 (by decide)
  have hx_14 : (v_4 15).toInt = Γ (39, 0, 0) 15 := hv_7 15 (by decide)
  obtain ⟨Γ_15, eΓ_15⟩ : ∃ y : tk_G, y = tg Γ (39, 0, 0) 13 (0 : Int) := ⟨_, rfl⟩
  have hv_16 : ∀ i : Nat, i < 16 → ((upd v_4 13 (0 : Int32)) i).toInt = Γ_15 (39, 0, 0) i := by rw [eΓ_15, tg_f]; exact tp_gi_upd hv_7
  have hI9 : tp_I cy L K Γ_15 (va_up f o (.inr (12, [.ref (r_3 0), .ref (r_3 1), .int (v_4 0), .ref (r_3 2), .ref (r_3 3), .ref (r_3 4), .ref (r_3 5), .ref (r_3 6), .ref (r_3 7), .ref (r_3 8), .ref (r_3 9), .ref (r_3 10), .ref (r_3 11), .ref (r_3 12), .ref (r_3 13), .ref (r_3 14), .ref (r_3 15), .int (v_4 1), .int (v_4 2), .int (v_4 3), .int (v_4 4), .int (v_4 5), .int (v_4 6), .int (v_4 7), .ref (r_3 16), .int (v_4 8), .ref (r_3 17), .int (v_4 9), .ref (r_3 18), .long q_5, .ref (r_3 19), .ref (r_3 20), .int (v_4 10), .int (v_4 11), .int (v_4 12), .ref (r_3 21), .ref (r_3 22), .int 0, .ref (r_3 23), .int (v_4 14), .int (v_4 15), .ref (r_3 24), .ref (r_3 25), .ref (r_3 26), .ref (r_3 27), .ref (r_3 28), .ref (r_3 29), .ref (r_3 30), .ref (r_3 31)]))) := by have q9 := hv_16; rw [eΓ_15, tg_f] at q9; rw [eΓ_15]; exact hI.setg hU rfl ho (show tp_o_M L K 0 0 (tgu (Γ (39, 0, 0)) 13 (0 : Int)) _ from ⟨r_3, (upd v_4 13 (0 : Int32)), q_5, rfl, hr_6, q9⟩)
  have hfr9 : ∀ b, (K b).1 ∉ ([39, 61, 62, 63] : List Nat) → va_up f o (.inr (12, [.ref (r_3 0), .ref (r_3 1), .int (v_4 0), .ref (r_3 2), .ref (r_3 3), .ref (r_3 4), .ref (r_3 5), .ref (r_3 6), .ref (r_3 7), .ref (r_3 8), .ref (r_3 9), .ref (r_3 10), .ref (r_3 11), .ref (r_3 12), .ref (r_3 13), .ref (r_3 14), .ref (r_3 15), .int (v_4 1), .int (v_4 2), .int (v_4 3), .int (v_4 4), .int (v_4 5), .int (v_4 6), .int (v_4 7), .ref (r_3 16), .int (v_4 8), .ref (r_3 17), .int (v_4 9), .ref (r_3 18), .long q_5, .ref (r_3 19), .ref (r_3 20), .int (v_4 10), .int (v_4 11), .int (v_4 12), .ref (r_3 21), .ref (r_3 22), .int 0, .ref (r_3 23), .int (v_4 14), .int (v_4 15), .ref (r_3 24), .ref (r_3 25), .ref (r_3 26), .ref (r_3 27), .ref (r_3 28), .ref (r_3 29), .ref (r_3 30), .ref (r_3 31)])) b = f b := tp_fr hfr ho (by decide)
  refine tp_put (cy := cy) (ci := 12) (v := .int 0) (ty := tyX12 37) (C := RX12) (T := TX12) (N := 49) hx hb hta inlX12 tyX12 tyX12_ok nmX12 hown hK hP hD hS ho.1 hf_2 rfl 37 (by decide) (hta _ wk_903) (fun _ h9 => h9) rfl (tyX12_ok 37 (by decide)) rfl rfl (Nat.le_of_ble_eq_true rfl) dX12_bows_7 (fun H locs hP hD hS => ?_)
  have hP : va_P D vwCl (va_pl L (va_up f o (.inr (12, [.ref (r_3 0), .ref (r_3 1), .int (v_4 0), .ref (r_3 2), .ref (r_3 3), .ref (r_3 4), .ref (r_3 5), .ref (r_3 6), .ref (r_3 7), .ref (r_3 8), .ref (r_3 9), .ref (r_3 10), .ref (r_3 11), .ref (r_3 12), .ref (r_3 13), .ref (r_3 14), .ref (r_3 15), .int (v_4 1), .int (v_4 2), .int (v_4 3), .int (v_4 4), .int (v_4 5), .int (v_4 6), .int (v_4 7), .ref (r_3 16), .int (v_4 8), .ref (r_3 17), .int (v_4 9), .ref (r_3 18), .long q_5, .ref (r_3 19), .ref (r_3 20), .int (v_4 10), .int (v_4 11), .int (v_4 12), .ref (r_3 21), .ref (r_3 22), .int 0, .ref (r_3 23), .int (v_4 14), .int (v_4 15), .ref (r_3 24), .ref (r_3 25), .ref (r_3 26), .ref (r_3 27), .ref (r_3 28), .ref (r_3 29), .ref (r_3 30), .ref (r_3 31)])))) H := hP
  generalize hfe : va_up f o (.inr (12, [.ref (r_3 0), .ref (r_3 1), .int (v_4 0), .ref (r_3 2), .ref (r_3 3), .ref (r_3 4), .ref (r_3 5), .ref (r_3 6), .ref (r_3 7), .ref (r_3 8), .ref (r_3 9), .ref (r_3 10), .ref (r_3 11), .ref (r_3 12), .ref (r_3 13), .ref (r_3 14), .ref (r_3 15), .int (v_4 1), .int (v_4 2), .int (v_4 3), .int (v_4 4), .int (v_4 5), .int (v_4 6), .int (v_4 7), .ref (r_3 16), .int (v_4 8), .ref (r_3 17), .int (v_4 9), .ref (r_3 18), .long q_5, .ref (r_3 19), .ref (r_3 20), .int (v_4 10), .int (v_4 11), .int (v_4 12), .ref (r_3 21), .ref (r_3 22), .int 0, .ref (r_3 23), .int (v_4 14), .int (v_4 15), .ref (r_3 24), .ref (r_3 25), .ref (r_3 26), .ref (r_3 27), .ref (r_3 28), .ref (r_3 29), .ref (r_3 30), .ref (r_3 31)])) = f_17 at hP hI9 hfr9
  have hD : va_D A (va_pl L f_17) := tp_D hL hAL
  have hf_18 : f_17 o = .inr (12, [.ref (r_3 0), .ref (r_3 1), .int (v_4 0), .ref (r_3 2), .ref (r_3 3), .ref (r_3 4), .ref (r_3 5), .ref (r_3 6), .ref (r_3 7), .ref (r_3 8), .ref (r_3 9), .ref (r_3 10), .ref (r_3 11), .ref (r_3 12), .ref (r_3 13), .ref (r_3 14), .ref (r_3 15), .int (v_4 1), .int (v_4 2), .int (v_4 3), .int (v_4 4), .int (v_4 5), .int (v_4 6), .int (v_4 7), .ref (r_3 16), .int (v_4 8), .ref (r_3 17), .int (v_4 9), .ref (r_3 18), .long q_5, .ref (r_3 19), .ref (r_3 20), .int (v_4 10), .int (v_4 11), .int (v_4 12), .ref (r_3 21), .ref (r_3 22), .int 0, .ref (r_3 23), .int (v_4 14), .int (v_4 15), .ref (r_3 24), .ref (r_3 25), .ref (r_3 26), .ref (r_3 27), .ref (r_3 28), .ref (r_3 29), .ref (r_3 30), .ref (r_3 31)]) := by rw [← hfe]; exact va_up_self _ _ _
  clear hfe
  have hI := hI9
  have hfr := hfr9
  clear hI9 hfr9
  have hgr : ∀ κ : tk_K, κ.1 ∉ ([39, 61, 62, 63] : List Nat) → Γ_15 κ = Γ κ := tg_fr hgr eΓ_15 (by decide)
  have hx_19 : (v_4 0).toInt = Γ_15 (39, 0, 0) 0 := hv_16 0 (by decide)
  have hx_20 : (v_4 10).toInt = Γ_15 (39, 0, 0) 10 := hv_16 10 (by decide)
  have hx_21 : (v_4 11).toInt = Γ_15 (39, 0, 0) 11 := hv_16 11 (by decide)
  have hx_22 : (v_4 12).toInt = Γ_15 (39, 0, 0) 12 := hv_16 12 (by decide)
  have hx_23 : (0 : Int) = Γ_15 (39, 0, 0) 13 := hv_16 13 (by decide)
  have hx_24 : (v_4 14).toInt = Γ_15 (39, 0, 0) 14 := hv_16 14 (by decide)
  have hx_25 : (v_4 15).toInt = Γ_15 (39, 0, 0) 15 := hv_16 15 (by decide)
  refine lv_iconst (v := 0) hx hb dX12_bows_10 (by decide) ?_
  refine lv_istore (lv' := [(4, .int 0), (3, .int z_1), (0, .ref o), (1, .int p0), (2, .int p1)]) hx hb dX12_bows_11 hl (by decide) rfl (fun ls hl => ?_)
  refine tl_ind (G := fun H locs ls => W p l e ((headSpec (tl_w yX12_bows cX12_bows 10 (some .boolean)) ({ frames := 2, cells := 0, slots := 0, locals := 47 })).room) s m #[.ref o, .int p0, .int p1] below meth c H locs 0 0 (MQ below (va_Qi (fun (r : Int32) (u : (Nat → va_E) × tk_G) => tl_E r (0 < u.2 (39, 0, 0) 13) 1 0 ∧ (0 ≤ u.2 (39, 0, 0) 13 ∧ u.2 (39, 0, 0) 13 ≤ 42) ∧ (0 < u.2 (39, 0, 0) 13 → 0 < Γ (39, 0, 0) 10) ∧ u.2 (39, 0, 0) 0 = Γ (39, 0, 0) 0 ∧ u.2 (39, 0, 0) 10 = Γ (39, 0, 0) 10 ∧ u.2 (39, 0, 0) 11 = Γ (39, 0, 0) 11 ∧ u.2 (39, 0, 0) 12 = Γ (39, 0, 0) 12 ∧ u.2 (39, 0, 0) 14 = Γ (39, 0, 0) 14 ∧ u.2 (39, 0, 0) 15 = Γ (39, 0, 0) 15 ∧ (∀ j : Nat, (j : Int) < u.2 (39, 0, 0) 13 → 0 ≤ u.2 (61, 42, 0) j ∧ u.2 (61, 42, 0) j ≤ 299) ∧ (∀ j : Nat, (j : Int) + 1 < u.2 (39, 0, 0) 13 → u.2 (61, 42, 0) j < u.2 (61, 42, 0) (j + 1))) (tp_BG D cy L K Γ f [39, 61, 62, 63]) A) #[.ref o, .int p0, .int p1] s 0 0 A) (F0 m 13 ls [])) (α := (Nat → va_E) × tk_G × Int32) (fun aq => (p1.toInt + 2 - aq.2.2.toInt).toNat) (fun aq H locs ls => (0 ≤ aq.2.2.toInt ∧ aq.2.2.toInt ≤ p1.toInt + 2) ∧ (0 ≤ aq.2.1 (39, 0, 0) 13 ∧ aq.2.1 (39, 0, 0) 13 ≤ aq.2.2.toInt) ∧ (∀ j : Nat, (j : Int) < aq.2.1 (39, 0, 0) 13 → 0 ≤ aq.2.1 (61, 42, 0) j ∧ aq.2.1 (61, 42, 0) j ≤ 299 ∧ aq.2.1 (61, 42, 0) j < atk (p1.toInt + 1) (aq.2.2.toInt)) ∧ (∀ j : Nat, (j : Int) + 1 < aq.2.1 (39, 0, 0) 13 → aq.2.1 (61, 42, 0) j < aq.2.1 (61, 42, 0) (j + 1)) ∧ (0 < aq.2.1 (39, 0, 0) 13 → 0 < Γ (39, 0, 0) 10) ∧ (aq.2.1 (39, 0, 0) 0 = Γ (39, 0, 0) 0) ∧ (aq.2.1 (39, 0, 0) 10 = Γ (39, 0, 0) 10) ∧ (aq.2.1 (39, 0, 0) 11 = Γ (39, 0, 0) 11) ∧ (aq.2.1 (39, 0, 0) 12 = Γ (39, 0, 0) 12) ∧ (aq.2.1 (39, 0, 0) 14 = Γ (39, 0, 0) 14) ∧ (aq.2.1 (39, 0, 0) 15 = Γ (39, 0, 0) 15) ∧ va_P D vwCl (va_pl L aq.1) H ∧ tp_I cy L K aq.2.1 aq.1 ∧ (∀ b, (K b).1 ∉ ([39, 61, 62, 63] : List Nat) → aq.1 b = f b) ∧ (∀ κ : tk_K, κ.1 ∉ ([39, 61, 62, 63] : List Nat) → aq.2.1 κ = Γ κ) ∧ va_S A s.heap H locs ∧ lv_has ls 10 [(4, .int aq.2.2), (3, .int z_1), (0, .ref o), (1, .int p0), (2, .int p1)]) ?_ (f_17, Γ_15, (0 : Int32)) H locs ls ⟨(show 0 ≤ (0 : Int) ∧ (0 : Int) ≤ p1.toInt + 2 from (by omega)), (show 0 ≤ Γ_15 (39, 0, 0) 13 ∧ Γ_15 (39, 0, 0) 13 ≤ (0 : Int) from (by omega)), (show ∀ j : Nat, (j : Int) < Γ_15 (39, 0, 0) 13 → 0 ≤ Γ_15 (61, 42, 0) j ∧ Γ_15 (61, 42, 0) j ≤ 299 ∧ Γ_15 (61, 42, 0) j < atk (p1.toInt + 1) ((0 : Int)) from (fun j9 q9 => absurd q9 (by omega))), (show ∀ j : Nat, (j : Int) + 1 < Γ_15 (39, 0, 0) 13 → Γ_15 (61, 42, 0) j < Γ_15 (61, 42, 0) (j + 1) from (fun j9 q9 => absurd q9 (by omega))), (show 0 < Γ_15 (39, 0, 0) 13 → 0 < Γ (39, 0, 0) 10 from (fun q9 => by omega)), (show Γ_15 (39, 0, 0) 0 = Γ (39, 0, 0) 0 from (by omega)), (show Γ_15 (39, 0, 0) 10 = Γ (39, 0, 0) 10 from (by omega)), (show Γ_15 (39, 0, 0) 11 = Γ (39, 0, 0) 11 from (by omega)), (show Γ_15 (39, 0, 0) 12 = Γ (39, 0, 0) 12 from (by omega)), (show Γ_15 (39, 0, 0) 14 = Γ (39, 0, 0) 14 from (by omega)), (show Γ_15 (39, 0, 0) 15 = Γ (39, 0, 0) 15 from (by omega)), hP, hI, hfr, hgr, hS, lv_sub hl [0, 1, 2, 3, 4] rfl⟩
  rintro ⟨f_26, Γ_27, v4⟩ H locs ls ⟨h4, hkn, hkb, hris, hpos, q0, q10, q11, q12, q14, q15, hP, hI, hfr, hgr, hS, hl⟩ ih13
  have hgr : ∀ κ : tk_K, κ.1 ∉ ([39, 61, 62, 63] : List Nat) → Γ_27 κ = Γ κ := hgr
  have hP : va_P D vwCl (va_pl L f_26) H := hP
  have hI : tp_I cy L K Γ_27 f_26 := hI
  have hfr : ∀ b, (K b).1 ∉ ([39, 61, 62, 63] : List Nat) → f_26 b = f b := hfr
  have hD : va_D A (va_pl L f_26) := tp_D hL hAL
  have h4 : 0 ≤ v4.toInt ∧ v4.toInt ≤ p1.toInt + 2 := h4
  have hkn : 0 ≤ Γ_27 (39, 0, 0) 13 ∧ Γ_27 (39, 0, 0) 13 ≤ v4.toInt := hkn
  have hkb : ∀ j : Nat, (j : Int) < Γ_27 (39, 0, 0) 13 → 0 ≤ Γ_27 (61, 42, 0) j ∧ Γ_27 (61, 42, 0) j ≤ 299 ∧ Γ_27 (61, 42, 0) j < atk (p1.toInt + 1) (v4.toInt) := hkb
  have hris : ∀ j : Nat, (j : Int) + 1 < Γ_27 (39, 0, 0) 13 → Γ_27 (61, 42, 0) j < Γ_27 (61, 42, 0) (j + 1) := hris
  have hpos : 0 < Γ_27 (39, 0, 0) 13 → 0 < Γ (39, 0, 0) 10 := hpos
  have q0 : Γ_27 (39, 0, 0) 0 = Γ (39, 0, 0) 0 := q0
  have q10 : Γ_27 (39, 0, 0) 10 = Γ (39, 0, 0) 10 := q10
  have q11 : Γ_27 (39, 0, 0) 11 = Γ (39, 0, 0) 11 := q11
  have q12 : Γ_27 (39, 0, 0) 12 = Γ (39, 0, 0) 12 := q12
  have q14 : Γ_27 (39, 0, 0) 14 = Γ (39, 0, 0) 14 := q14
  have q15 : Γ_27 (39, 0, 0) 15 = Γ (39, 0, 0) 15 := q15
  have hl : lv_has ls 10 [(4, .int v4), (3, .int z_1), (0, .ref o), (1, .int p0), (2, .int p1)] := hl
  refine lv_iload hx hb dX12_bows_13 (lv_at hl 0 rfl) ?_
  refine lv_iload_n hx hb dX12_bows_15 rfl (lv_at hl 4 rfl) ?_
  refine lv_iconst (v := 1) hx hb dX12_bows_16 (by decide) ?_
  refine lv_iadd hx hb dX12_bows_17 ?_
  refine lv_topi (fun z_28 ez_28 => ?_)
  try have iz_28 : z_28.toInt = p1.toInt + (1 : Int) := by rw [ez_28]; exact tl_addN p1 1 rfl rfl (by omega) (by omega)
  refine lv_icmp_gt (tgt := 175) hx hb dX12_bows_18 (by decide) (fun c_29 => ?_) (fun c_29 => ?_)
  · have c_29 : z_28.toInt < v4.toInt := tl_lt c_29
    refine lv_iconst (v := 0) hx hb dX12_bows_175 (by decide) ?_
    refine lv_istore (lv' := [(4, .int 0), (3, .int z_1), (0, .ref o), (1, .int p0), (2, .int p1)]) hx hb dX12_bows_176 hl (by decide) rfl (fun ls hl => ?_)
    refine tl_ind (G := fun H locs ls => W p l e ((headSpec (tl_w yX12_bows cX12_bows 10 (some .boolean)) ({ frames := 2, cells := 0, slots := 0, locals := 47 })).room) s m #[.ref o, .int p0, .int p1] below meth c H locs 0 0 (MQ below (va_Qi (fun (r : Int32) (u : (Nat → va_E) × tk_G) => tl_E r (0 < u.2 (39, 0, 0) 13) 1 0 ∧ (0 ≤ u.2 (39, 0, 0) 13 ∧ u.2 (39, 0, 0) 13 ≤ 42) ∧ (0 < u.2 (39, 0, 0) 13 → 0 < Γ (39, 0, 0) 10) ∧ u.2 (39, 0, 0) 0 = Γ (39, 0, 0) 0 ∧ u.2 (39, 0, 0) 10 = Γ (39, 0, 0) 10 ∧ u.2 (39, 0, 0) 11 = Γ (39, 0, 0) 11 ∧ u.2 (39, 0, 0) 12 = Γ (39, 0, 0) 12 ∧ u.2 (39, 0, 0) 14 = Γ (39, 0, 0) 14 ∧ u.2 (39, 0, 0) 15 = Γ (39, 0, 0) 15 ∧ (∀ j : Nat, (j : Int) < u.2 (39, 0, 0) 13 → 0 ≤ u.2 (61, 42, 0) j ∧ u.2 (61, 42, 0) j ≤ 299) ∧ (∀ j : Nat, (j : Int) + 1 < u.2 (39, 0, 0) 13 → u.2 (61, 42, 0) j < u.2 (61, 42, 0) (j + 1))) (tp_BG D cy L K Γ f [39, 61, 62, 63]) A) #[.ref o, .int p0, .int p1] s 0 0 A) (F0 m 178 ls [])) (α := (Nat → va_E) × Int32) (fun aq => (300 - aq.2.toInt).toNat) (fun aq H locs ls => (0 ≤ aq.2.toInt) ∧ (aq.2.toInt ≤ 300) ∧ va_P D vwCl (va_pl L aq.1) H ∧ tp_I cy L K Γ_27 aq.1 ∧ (∀ b, (K b).1 ∉ ([39, 61, 62, 63] : List Nat) → aq.1 b = f b) ∧ va_S A s.heap H locs ∧ lv_has ls 10 [(4, .int aq.2), (3, .int z_1), (0, .ref o), (1, .int p0), (2, .int p1)]) ?_ (f_26, (0 : Int32)) H locs ls ⟨(show 0 ≤ (0 : Int) from (by omega)), (show (0 : Int) ≤ 300 from (by omega)), hP, hI, hfr, hS, lv_sub hl [0, 1, 2, 3, 4] rfl⟩
    rintro ⟨f_30, v4⟩ H locs ls ⟨h0, h1, hP, hI, hfr, hS, hl⟩ ih178
    have hP : va_P D vwCl (va_pl L f_30) H := hP
    have hI : tp_I cy L K Γ_27 f_30 := hI
    have hfr : ∀ b, (K b).1 ∉ ([39, 61, 62, 63] : List Nat) → f_30 b = f b := hfr
    have hD : va_D A (va_pl L f_30) := tp_D hL hAL
    have h0 : 0 ≤ v4.toInt := h0
    have h1 : v4.toInt ≤ 300 := h1
    have hl : lv_has ls 10 [(4, .int v4), (3, .int z_1), (0, .ref o), (1, .int p0), (2, .int p1)] := hl
    refine lv_iload hx hb dX12_bows_178 (lv_at hl 0 rfl) ?_
    refine lv_sipush (v := 300) hx hb dX12_bows_180 (by decide) ?_
    refine lv_icmp_ge (tgt := 239) hx hb dX12_bows_183 (by decide) (fun c_31 => ?_) (fun c_31 => ?_)
    · have c_31 : (300 : Int) ≤ v4.toInt := tl_le c_31
      refine lv_aload_n hx hb dX12_bows_239 rfl (lv_at hl 2 rfl) ?_
      obtain ⟨r_33, v_34, q_35, hf_32, hr_36, hv_37⟩ := (show tp_o_M L K 0 0 (Γ_27 (39, 0, 0)) (f_30 o) from hI.at ho)
      have hx_42 : (v_34 13).toInt = Γ_27 (39, 0, 0) 13 := hv_37 13 (by decide)
      refine tp_get (cy := cy) (ci := 12) (v := .int (v_34 13)) (C := RX12) (T := TX12) (N := 49) hx hb hta inlX12 hown hK hP ho.1 hf_32 rfl 37 (by decide) (hta _ wk_903) (fun _ h9 => h9) rfl dX12_bows_240 ?_
      refine lv_if_le (tgt := 250) hx hb dX12_bows_243 (by decide) (fun c_45 => ?_) (fun c_45 => ?_)
      · have c_45 : (v_34 13).toInt ≤ (0 : Int) := tl_le c_45
        refine lv_iconst (v := 0) hx hb dX12_bows_250 (by decide) ?_
        have hpo9 : tl_E (0 : Int32) (0 < Γ_27 (39, 0, 0) 13) 1 0 ∧ (0 ≤ Γ_27 (39, 0, 0) 13 ∧ Γ_27 (39, 0, 0) 13 ≤ 42) ∧ (0 < Γ_27 (39, 0, 0) 13 → 0 < Γ (39, 0, 0) 10) ∧ Γ_27 (39, 0, 0) 0 = Γ (39, 0, 0) 0 ∧ Γ_27 (39, 0, 0) 10 = Γ (39, 0, 0) 10 ∧ Γ_27 (39, 0, 0) 11 = Γ (39, 0, 0) 11 ∧ Γ_27 (39, 0, 0) 12 = Γ (39, 0, 0) 12 ∧ Γ_27 (39, 0, 0) 14 = Γ (39, 0, 0) 14 ∧ Γ_27 (39, 0, 0) 15 = Γ (39, 0, 0) 15 ∧ (∀ j : Nat, (j : Int) < Γ_27 (39, 0, 0) 13 → 0 ≤ Γ_27 (61, 42, 0) j ∧ Γ_27 (61, 42, 0) j ≤ 299) ∧ (∀ j : Nat, (j : Int) + 1 < Γ_27 (39, 0, 0) 13 → Γ_27 (61, 42, 0) j < Γ_27 (61, 42, 0) (j + 1)) := ⟨(Or.inr ⟨by omega, rfl⟩), ⟨(by omega), hpos, (by omega), (by omega), (by omega), (by omega), (by omega), (by omega), (fun j9 q9 => ⟨(hkb j9 q9).1, (hkb j9 q9).2.1⟩), hris⟩⟩
        exact W.zret (ty := .boolean) (v := 0) hx hb hr rfl (fun t ht hW => ⟨⟨_, (f_30, Γ_27), rfl, hpo9, by rw [ht]; exact hP, hI, hfr, hgr⟩, hS.F ht⟩) hS.2.2 dX12_bows_251
      · have c_45 : (0 : Int) < (v_34 13).toInt := tl_nle c_45
        refine lv_iconst (v := 1) hx hb dX12_bows_246 (by decide) ?_
        refine lv_goto (tgt := 251) hx hb dX12_bows_247 (by decide) ?_
        have hpo9 : tl_E (1 : Int32) (0 < Γ_27 (39, 0, 0) 13) 1 0 ∧ (0 ≤ Γ_27 (39, 0, 0) 13 ∧ Γ_27 (39, 0, 0) 13 ≤ 42) ∧ (0 < Γ_27 (39, 0, 0) 13 → 0 < Γ (39, 0, 0) 10) ∧ Γ_27 (39, 0, 0) 0 = Γ (39, 0, 0) 0 ∧ Γ_27 (39, 0, 0) 10 = Γ (39, 0, 0) 10 ∧ Γ_27 (39, 0, 0) 11 = Γ (39, 0, 0) 11 ∧ Γ_27 (39, 0, 0) 12 = Γ (39, 0, 0) 12 ∧ Γ_27 (39, 0, 0) 14 = Γ (39, 0, 0) 14 ∧ Γ_27 (39, 0, 0) 15 = Γ (39, 0, 0) 15 ∧ (∀ j : Nat, (j : Int) < Γ_27 (39, 0, 0) 13 → 0 ≤ Γ_27 (61, 42, 0) j ∧ Γ_27 (61, 42, 0) j ≤ 299) ∧ (∀ j : Nat, (j : Int) + 1 < Γ_27 (39, 0, 0) 13 → Γ_27 (61, 42, 0) j < Γ_27 (61, 42, 0) (j + 1)) := ⟨(Or.inl ⟨by omega, rfl⟩), ⟨(by omega), hpos, (by omega), (by omega), (by omega), (by omega), (by omega), (by omega), (fun j9 q9 => ⟨(hkb j9 q9).1, (hkb j9 q9).2.1⟩), hris⟩⟩
        exact W.zret (ty := .boolean) (v := 1) hx hb hr rfl (fun t ht hW => ⟨⟨_, (f_30, Γ_27), rfl, hpo9, by rw [ht]; exact hP, hI, hfr, hgr⟩, hS.F ht⟩) hS.2.2 dX12_bows_251
    · have c_31 : v4.toInt < (300 : Int) := tl_nle c_31
      refine lv_aload_n hx hb dX12_bows_186 rfl (lv_at hl 2 rfl) ?_
      obtain ⟨r_47, v_48, q_49, hf_46, hr_50, hv_51⟩ := (show tp_o_M L K 0 0 (Γ_27 (39, 0, 0)) (f_30 o) from hI.at ho)
      have hx_56 : (v_48 13).toInt = Γ_27 (39, 0, 0) 13 := hv_51 13 (by decide)
      refine tp_get (cy := cy) (ci := 12) (v := .int (v_48 13)) (C := RX12) (T := TX12) (N := 49) hx hb hta inlX12 hown hK hP ho.1 hf_46 rfl 37 (by decide) (hta _ wk_903) (fun _ h9 => h9) rfl dX12_bows_187 ?_
      refine lv_if_le (tgt := 239) hx hb dX12_bows_190 (by decide) (fun c_59 => ?_) (fun c_59 => ?_)
      · have c_59 : (v_48 13).toInt ≤ (0 : Int) := tl_le c_59
        refine lv_aload_n hx hb dX12_bows_239 rfl (lv_at hl 2 rfl) ?_
        refine tp_get (cy := cy) (ci := 12) (v := .int (v_48 13)) (C := RX12) (T := TX12) (N := 49) hx hb hta inlX12 hown hK hP ho.1 hf_46 rfl 37 (by decide) (hta _ wk_903) (fun _ h9 => h9) rfl dX12_bows_240 ?_
        refine lv_if_le (tgt := 250) hx hb dX12_bows_243 (by decide) (fun c_60 => ?_) (fun c_60 => ?_)
        · have c_60 : (v_48 13).toInt ≤ (0 : Int) := tl_le c_60
          refine lv_iconst (v := 0) hx hb dX12_bows_250 (by decide) ?_
          have hpo9 : tl_E (0 : Int32) (0 < Γ_27 (39, 0, 0) 13) 1 0 ∧ (0 ≤ Γ_27 (39, 0, 0) 13 ∧ Γ_27 (39, 0, 0) 13 ≤ 42) ∧ (0 < Γ_27 (39, 0, 0) 13 → 0 < Γ (39, 0, 0) 10) ∧ Γ_27 (39, 0, 0) 0 = Γ (39, 0, 0) 0 ∧ Γ_27 (39, 0, 0) 10 = Γ (39, 0, 0) 10 ∧ Γ_27 (39, 0, 0) 11 = Γ (39, 0, 0) 11 ∧ Γ_27 (39, 0, 0) 12 = Γ (39, 0, 0) 12 ∧ Γ_27 (39, 0, 0) 14 = Γ (39, 0, 0) 14 ∧ Γ_27 (39, 0, 0) 15 = Γ (39, 0, 0) 15 ∧ (∀ j : Nat, (j : Int) < Γ_27 (39, 0, 0) 13 → 0 ≤ Γ_27 (61, 42, 0) j ∧ Γ_27 (61, 42, 0) j ≤ 299) ∧ (∀ j : Nat, (j : Int) + 1 < Γ_27 (39, 0, 0) 13 → Γ_27 (61, 42, 0) j < Γ_27 (61, 42, 0) (j + 1)) := ⟨(Or.inr ⟨by omega, rfl⟩), ⟨(by omega), hpos, (by omega), (by omega), (by omega), (by omega), (by omega), (by omega), (fun j9 q9 => ⟨(hkb j9 q9).1, (hkb j9 q9).2.1⟩), hris⟩⟩
          exact W.zret (ty := .boolean) (v := 0) hx hb hr rfl (fun t ht hW => ⟨⟨_, (f_30, Γ_27), rfl, hpo9, by rw [ht]; exact hP, hI, hfr, hgr⟩, hS.F ht⟩) hS.2.2 dX12_bows_251
        · have c_60 : (0 : Int) < (v_48 13).toInt := tl_nle c_60
          refine lv_iconst (v := 1) hx hb dX12_bows_246 (by decide) ?_
          refine lv_goto (tgt := 251) hx hb dX12_bows_247 (by decide) ?_
          have hpo9 : tl_E (1 : Int32) (0 < Γ_27 (39, 0, 0) 13) 1 0 ∧ (0 ≤ Γ_27 (39, 0, 0) 13 ∧ Γ_27 (39, 0, 0) 13 ≤ 42) ∧ (0 < Γ_27 (39, 0, 0) 13 → 0 < Γ (39, 0, 0) 10) ∧ Γ_27 (39, 0, 0) 0 = Γ (39, 0, 0) 0 ∧ Γ_27 (39, 0, 0) 10 = Γ (39, 0, 0) 10 ∧ Γ_27 (39, 0, 0) 11 = Γ (39, 0, 0) 11 ∧ Γ_27 (39, 0, 0) 12 = Γ (39, 0, 0) 12 ∧ Γ_27 (39, 0, 0) 14 = Γ (39, 0, 0) 14 ∧ Γ_27 (39, 0, 0) 15 = Γ (39, 0, 0) 15 ∧ (∀ j : Nat, (j : Int) < Γ_27 (39, 0, 0) 13 → 0 ≤ Γ_27 (61, 42, 0) j ∧ Γ_27 (61, 42, 0) j ≤ 299) ∧ (∀ j : Nat, (j : Int) + 1 < Γ_27 (39, 0, 0) 13 → Γ_27 (61, 42, 0) j < Γ_27 (61, 42, 0) (j + 1)) := ⟨(Or.inl ⟨by omega, rfl⟩), ⟨(by omega), hpos, (by omega), (by omega), (by omega), (by omega), (by omega), (by omega), (fun j9 q9 => ⟨(hkb j9 q9).1, (hkb j9 q9).2.1⟩), hris⟩⟩
          exact W.zret (ty := .boolean) (v := 1) hx hb hr rfl (fun t ht hW => ⟨⟨_, (f_30, Γ_27), rfl, hpo9, by rw [ht]; exact hP, hI, hfr, hgr⟩, hS.F ht⟩) hS.2.2 dX12_bows_251
      · have c_59 : (0 : Int) < (v_48 13).toInt := tl_nle c_59
        refine lv_aload_n hx hb dX12_bows_193 rfl (lv_at hl 2 rfl) ?_
        refine tp_get (cy := cy) (ci := 12) (v := .ref (r_47 23)) (C := RX12) (T := TX12) (N := 49) hx hb hta inlX12 hown hK hP ho.1 hf_46 rfl 38 (by decide) (hta _ wk_173) (fun _ h9 => h9) rfl dX12_bows_194 ?_
        refine lv_iload hx hb dX12_bows_197 (lv_at hl 0 rfl) ?_
        refine lv_aload_n hx hb dX12_bows_199 rfl (lv_at hl 2 rfl) ?_
        refine tp_get (cy := cy) (ci := 12) (v := .ref (r_47 19)) (C := RX12) (T := TX12) (N := 49) hx hb hta inlX12 hown hK hP ho.1 hf_46 rfl 30 (by decide) (hta _ wk_169) (fun _ h9 => h9) rfl dX12_bows_200 ?_
        refine lv_iload hx hb dX12_bows_203 (lv_at hl 0 rfl) ?_
        obtain ⟨g_62, hf_61, hg_63⟩ := (show tp_gi cy (300) (Γ (59, 300, 0)) (f (r_47 19)) from hI0.at (show tp_r L K 59 300 0 (r_47 19) from hr_50 19 (by decide)))
        have hn_64 : vp_in v4 (300) := tl_in (by omega) (by omega)
        refine tp_iald (cy := cy) hx hb hK hP (show tp_r L K 59 300 0 (r_47 19) from hr_50 19 (by decide)).1 ((tp_un hfr (show tp_r L K 59 300 0 (r_47 19) from hr_50 19 (by decide)) (by decide)).trans hf_61) hn_64 dX12_bows_205 ?_
        refine lv_topi (fun z_65 ez_65 => ?_)
        have iz_65 : z_65.toInt = Γ (59, 300, 0) v4.toInt.toNat := by rw [ez_65]; exact hg_63 _ (tp_pin hn_64)
        refine lv_ldc (v := (-1000000)) hx hb hown (hta _ wk_182) dX12_bows_206 ?_
        refine lv_icmp_ne (tgt := 217) hx hb dX12_bows_208 (by decide) (fun c_66 => ?_) (fun c_66 => ?_)
        · have c_66 : ¬ z_65.toInt = (-1000000 : Int) := tl_neq c_66
          refine lv_aload_n hx hb dX12_bows_217 rfl (lv_at hl 2 rfl) ?_
          refine tp_get (cy := cy) (ci := 12) (v := .ref (r_47 19)) (C := RX12) (T := TX12) (N := 49) hx hb hta inlX12 hown hK hP ho.1 hf_46 rfl 30 (by decide) (hta _ wk_169) (fun _ h9 => h9) rfl dX12_bows_218 ?_
          refine lv_iload hx hb dX12_bows_221 (lv_at hl 0 rfl) ?_
          have hn_67 : vp_in v4 (300) := tl_in (by omega) (by omega)
          refine tp_iald (cy := cy) hx hb hK hP (show tp_r L K 59 300 0 (r_47 19) from hr_50 19 (by decide)).1 ((tp_un hfr (show tp_r L K 59 300 0 (r_47 19) from hr_50 19 (by decide)) (by decide)).trans hf_61) hn_67 dX12_bows_223 ?_
          refine lv_topi (fun z_68 ez_68 => ?_)
          obtain rfl : z_65 = z_68 := ez_65.trans ez_68.symm
          refine lv_i2l (v := z_65.toInt64) hx hb dX12_bows_224 (by first | rfl | decide) ?_
          refine lv_aload_n hx hb dX12_bows_225 rfl (lv_at hl 2 rfl) ?_
          refine lv_iload hx hb dX12_bows_226 (lv_at hl 0 rfl) ?_
          refine tl_sl (tq_rV (As := [.int v4]) (rest := [.long z_65.toInt64, .int v4, .ref (r_47 23)]) ⟨hx, hb, hml, hown, hta⟩ (tp_P.pre hK hN hL hU hI hP) (tp_recv hK hP ho.1 hf_46 rfl) lk_X12_407 (r_X12_heightAt l D cy H.size L K Γ_27 f_30 o v4 ho (by first | omega | (simp only [Int32.toInt_toInt64]; omega) | decide | assumption) (fun j9 q9 => ⟨(hkb j9 q9).1, (hkb j9 q9).2.1⟩) hris) rfl rfl ⟨Nat.le_of_ble_eq_true rfl, Nat.le_of_ble_eq_true rfl⟩ rfl hl.1 rfl (Nat.le_of_ble_eq_true rfl) dX12_bows_228 ⟨Nat.le_of_ble_eq_true rfl, Nat.le_of_ble_eq_true rfl⟩) (fun r_70 hw_69 => ?_)
          refine lv_lsub hx hb dX12_bows_231 ?_
          refine lv_topl (fun z_71 ez_71 => ?_)
          obtain ⟨g_73, hf_72⟩ := (show tp_aj cy (300) (f_30 (r_47 23)) from hI.at (show tp_r L K 63 300 0 (r_47 23) from hr_50 23 (by decide)))
          have hn_75 : vp_in v4 (300) := tl_in (by omega) (by omega)
          have hI9 : tp_I cy L K Γ_27 (va_up f_30 (r_47 23) (.inl (cy 1, 300, .inr (.inl (vp_updL g_73 v4.toNatClampNeg z_71))))) := hI.set (show tp_r L K 63 300 0 (r_47 23) from hr_50 23 (by decide)) (show tp_aj cy (300) _ from ⟨_, rfl⟩)
          have hfr9 : ∀ b, (K b).1 ∉ ([39, 61, 62, 63] : List Nat) → va_up f_30 (r_47 23) (.inl (cy 1, 300, .inr (.inl (vp_updL g_73 v4.toNatClampNeg z_71)))) b = f b := tp_fr hfr (show tp_r L K 63 300 0 (r_47 23) from hr_50 23 (by decide)) (by decide)
          refine tp_last (cy := cy) hx hb hK hP hD hS (show tp_r L K 63 300 0 (r_47 23) from hr_50 23 (by decide)).1 hf_72 hn_75 dX12_bows_232 (fun H locs hP hD hS => ?_)
          have hP : va_P D vwCl (va_pl L (va_up f_30 (r_47 23) (.inl (cy 1, 300, .inr (.inl (vp_updL g_73 v4.toNatClampNeg z_71)))))) H := hP
          generalize hfe : va_up f_30 (r_47 23) (.inl (cy 1, 300, .inr (.inl (vp_updL g_73 v4.toNatClampNeg z_71)))) = f_76 at hP hI9 hfr9
          have hD : va_D A (va_pl L f_76) := tp_D hL hAL
          have hf_77 := (show f_76 o = _ from by rw [← hfe, va_up_ne _ _ (tp_ne ho (show tp_r L K 63 300 0 (r_47 23) from hr_50 23 (by decide)) (by decide))]).trans hf_46
          have hf_78 : f_76 (r_47 23) = .inl (cy 1, 300, .inr (.inl (vp_updL g_73 v4.toNatClampNeg z_71))) := by rw [← hfe]; exact va_up_self _ _ _
          clear hfe
          have hI := hI9
          have hfr := hfr9
          clear hI9 hfr9
          obtain ⟨z_79, ez_79⟩ : ∃ y : Int32, y = v4 + 1 := ⟨_, rfl⟩
          refine lv_iinc (v := z_79) (lv' := [(4, .int z_79), (3, .int z_1), (0, .ref o), (1, .int p0), (2, .int p1)]) hx hb dX12_bows_233 hl (k := 0) rfl (by rw [ez_79]; rfl) (by decide) rfl (fun ls hl => ?_)
          try have iz_79 : z_79.toInt = v4.toInt + 1 := by rw [ez_79]; exact tl_addL v4 1 (by decide) (by omega) (by omega)
          refine lv_goto (tgt := 178) hx hb dX12_bows_236 (by decide) ?_
          exact ih178 (f_76, z_79) H locs ls (by show (300 - z_79.toInt).toNat < (300 - v4.toInt).toNat; omega) ⟨(show 0 ≤ z_79.toInt from (by omega)), (show z_79.toInt ≤ 300 from (by omega)), hP, hI, hfr, hS, lv_sub hl [0, 1, 2, 3, 4] rfl⟩
        · have c_66 : z_65.toInt = (-1000000 : Int) := tl_eq c_66
          refine lv_ldc2 (v := (-1000000)) hx hb hown (hta _ wk_938) dX12_bows_211 ?_
          refine lv_goto (tgt := 232) hx hb dX12_bows_214 (by decide) ?_
          obtain ⟨g_81, hf_80⟩ := (show tp_aj cy (300) (f_30 (r_47 23)) from hI.at (show tp_r L K 63 300 0 (r_47 23) from hr_50 23 (by decide)))
          have hn_83 : vp_in v4 (300) := tl_in (by omega) (by omega)
          have hI9 : tp_I cy L K Γ_27 (va_up f_30 (r_47 23) (.inl (cy 1, 300, .inr (.inl (vp_updL g_81 v4.toNatClampNeg (-1000000)))))) := hI.set (show tp_r L K 63 300 0 (r_47 23) from hr_50 23 (by decide)) (show tp_aj cy (300) _ from ⟨_, rfl⟩)
          have hfr9 : ∀ b, (K b).1 ∉ ([39, 61, 62, 63] : List Nat) → va_up f_30 (r_47 23) (.inl (cy 1, 300, .inr (.inl (vp_updL g_81 v4.toNatClampNeg (-1000000))))) b = f b := tp_fr hfr (show tp_r L K 63 300 0 (r_47 23) from hr_50 23 (by decide)) (by decide)
          refine tp_last (cy := cy) hx hb hK hP hD hS (show tp_r L K 63 300 0 (r_47 23) from hr_50 23 (by decide)).1 hf_80 hn_83 dX12_bows_232 (fun H locs hP hD hS => ?_)
          have hP : va_P D vwCl (va_pl L (va_up f_30 (r_47 23) (.inl (cy 1, 300, .inr (.inl (vp_updL g_81 v4.toNatClampNeg (-1000000))))))) H := hP
          generalize hfe : va_up f_30 (r_47 23) (.inl (cy 1, 300, .inr (.inl (vp_updL g_81 v4.toNatClampNeg (-1000000))))) = f_84 at hP hI9 hfr9
          have hD : va_D A (va_pl L f_84) := tp_D hL hAL
          have hf_85 := (show f_84 o = _ from by rw [← hfe, va_up_ne _ _ (tp_ne ho (show tp_r L K 63 300 0 (r_47 23) from hr_50 23 (by decide)) (by decide))]).trans hf_46
          have hf_86 : f_84 (r_47 23) = .inl (cy 1, 300, .inr (.inl (vp_updL g_81 v4.toNatClampNeg (-1000000)))) := by rw [← hfe]; exact va_up_self _ _ _
          clear hfe
          have hI := hI9
          have hfr := hfr9
          clear hI9 hfr9
          obtain ⟨z_87, ez_87⟩ : ∃ y : Int32, y = v4 + 1 := ⟨_, rfl⟩
          refine lv_iinc (v := z_87) (lv' := [(4, .int z_87), (3, .int z_1), (0, .ref o), (1, .int p0), (2, .int p1)]) hx hb dX12_bows_233 hl (k := 0) rfl (by rw [ez_87]; rfl) (by decide) rfl (fun ls hl => ?_)
          try have iz_87 : z_87.toInt = v4.toInt + 1 := by rw [ez_87]; exact tl_addL v4 1 (by decide) (by omega) (by omega)
          refine lv_goto (tgt := 178) hx hb dX12_bows_236 (by decide) ?_
          exact ih178 (f_84, z_87) H locs ls (by show (300 - z_87.toInt).toNat < (300 - v4.toInt).toNat; omega) ⟨(show 0 ≤ z_87.toInt from (by omega)), (show z_87.toInt ≤ 300 from (by omega)), hP, hI, hfr, hS, lv_sub hl [0, 1, 2, 3, 4] rfl⟩
  · have c_29 : v4.toInt ≤ z_28.toInt := tl_nlt c_29
    refine lv_sipush (v := 299) hx hb dX12_bows_21 (by decide) ?_
    refine lv_iload hx hb dX12_bows_24 (lv_at hl 0 rfl) ?_
    refine lv_imul hx hb dX12_bows_26 ?_
    refine lv_topi (fun z_88 ez_88 => ?_)
    try have iz_88 : z_88.toInt = (299 : Int) * v4.toInt := by rw [ez_88]; exact tl_mulN 299 v4 rfl rfl (by omega) (by omega)
    refine lv_iload_n hx hb dX12_bows_27 rfl (lv_at hl 4 rfl) ?_
    refine lv_iconst (v := 1) hx hb dX12_bows_28 (by decide) ?_
    refine lv_iadd hx hb dX12_bows_29 ?_
    refine lv_topi (fun z_89 ez_89 => ?_)
    try have iz_89 : z_89.toInt = p1.toInt + (1 : Int) := by rw [ez_89]; exact tl_addN p1 1 rfl rfl (by omega) (by omega)
    refine lv_idiv hx hb dX12_bows_30 (tl_ne0 (by omega)) ?_
    refine lv_topi (fun z_90 ez_90 => ?_)
    have hat : z_90.toInt = atk (p1.toInt + 1) v4.toInt := tl_idivE ez_90 (by omega) (by omega) (by omega) (by omega)
    have hain := atk_in (b := p1.toInt + 1) (k := v4.toInt) (by omega) (by omega)
    refine lv_istore (lv' := [(5, .int z_90), (4, .int v4), (3, .int z_1), (0, .ref o), (1, .int p0), (2, .int p1)]) hx hb dX12_bows_31 hl (by decide) rfl (fun ls hl => ?_)
    refine lv_lconst (v := 0) hx hb dX12_bows_33 (by decide) ?_
    refine lv_lstore (lv' := [(6, .long 0), (5, .int z_90), (4, .int v4), (3, .int z_1), (0, .ref o), (1, .int p0), (2, .int p1)]) hx hb dX12_bows_34 hl (by decide) rfl (fun ls hl => ?_)
    refine lv_iconst (v := 0) hx hb dX12_bows_36 (by decide) ?_
    refine lv_istore (lv' := [(8, .int 0), (6, .long 0), (5, .int z_90), (4, .int v4), (3, .int z_1), (0, .ref o), (1, .int p0), (2, .int p1)]) hx hb dX12_bows_37 hl (by decide) rfl (fun ls hl => ?_)
    refine lv_iload hx hb dX12_bows_39 (lv_at hl 2 rfl) ?_
    refine lv_aload_n hx hb dX12_bows_41 rfl (lv_at hl 5 rfl) ?_
    obtain ⟨r_92, v_93, q_94, hf_91, hr_95, hv_96⟩ := (show tp_o_M L K 0 0 (Γ_27 (39, 0, 0)) (f_26 o) from hI.at ho)
    refine tp_get (cy := cy) (ci := 12) (v := .ref (r_92 15)) (C := RX12) (T := TX12) (N := 49) hx hb hta inlX12 hown hK hP ho.1 hf_91 rfl 16 (by decide) (hta _ wk_165) (fun _ h9 => h9) rfl dX12_bows_42 ?_
    refine lv_iload_n hx hb dX12_bows_45 rfl (lv_at hl 4 rfl) ?_
    obtain ⟨g_105, hf_104, hg_106⟩ := (show tp_gi cy (22) (Γ (51, 22, 0)) (f (r_92 15)) from hI0.at (show tp_r L K 51 22 0 (r_92 15) from hr_95 15 (by decide)))
    have hn_107 : vp_in z_1 (22) := tl_in (by omega) (by omega)
    refine tp_iald (cy := cy) hx hb hK hP (show tp_r L K 51 22 0 (r_92 15) from hr_95 15 (by decide)).1 ((tp_un hfr (show tp_r L K 51 22 0 (r_92 15) from hr_95 15 (by decide)) (by decide)).trans hf_104) hn_107 dX12_bows_46 ?_
    refine lv_topi (fun z_108 ez_108 => ?_)
    have iz_108 : z_108.toInt = Γ (51, 22, 0) z_1.toInt.toNat := by rw [ez_108]; exact hg_106 _ (tp_pin hn_107)
    have hwlz_108 : z_108.toInt = Γ (51, 22, 0) t1.toNat := iz_108.trans (congrArg _ (by omega))
    refine lv_isub hx hb dX12_bows_47 ?_
    refine lv_topi (fun z_109 ez_109 => ?_)
    try have iz_109 : z_109.toInt = z_90.toInt - z_108.toInt := by rw [ez_109]; exact tl_subN z_90 z_108 rfl rfl (by omega) (by omega)
    refine lv_if_ge (tgt := 55) hx hb dX12_bows_48 (by decide) (fun c_110 => ?_) (fun c_110 => ?_)
    · have c_110 : (0 : Int) ≤ z_109.toInt := tl_le c_110
      refine lv_iload hx hb dX12_bows_55 (lv_at hl 2 rfl) ?_
      refine lv_aload_n hx hb dX12_bows_57 rfl (lv_at hl 5 rfl) ?_
      refine tp_get (cy := cy) (ci := 12) (v := .ref (r_92 15)) (C := RX12) (T := TX12) (N := 49) hx hb hta inlX12 hown hK hP ho.1 hf_91 rfl 16 (by decide) (hta _ wk_165) (fun _ h9 => h9) rfl dX12_bows_58 ?_
      refine lv_iload_n hx hb dX12_bows_61 rfl (lv_at hl 4 rfl) ?_
      have hn_111 : vp_in z_1 (22) := tl_in (by omega) (by omega)
      refine tp_iald (cy := cy) hx hb hK hP (show tp_r L K 51 22 0 (r_92 15) from hr_95 15 (by decide)).1 ((tp_un hfr (show tp_r L K 51 22 0 (r_92 15) from hr_95 15 (by decide)) (by decide)).trans hf_104) hn_111 dX12_bows_62 ?_
      refine lv_topi (fun z_112 ez_112 => ?_)
      obtain rfl : z_108 = z_112 := ez_108.trans ez_112.symm
      have hwlz_108 : z_108.toInt = Γ (51, 22, 0) t1.toNat := iz_108.trans (congrArg _ (by omega))
      refine lv_isub hx hb dX12_bows_63 ?_
      refine lv_topi (fun z_113 ez_113 => ?_)
      try have iz_113 : z_113.toInt = z_90.toInt - z_108.toInt := by rw [ez_113]; exact tl_subN z_90 z_108 rfl rfl (by omega) (by omega)
      refine lv_istore (lv' := [(9, .int z_113), (8, .int 0), (6, .long 0), (5, .int z_90), (4, .int v4), (3, .int z_1), (0, .ref o), (1, .int p0), (2, .int p1)]) hx hb dX12_bows_64 hl (by decide) rfl (fun ls hl => ?_)
      refine tl_ind (G := fun H locs ls => W p l e ((headSpec (tl_w yX12_bows cX12_bows 10 (some .boolean)) ({ frames := 2, cells := 0, slots := 0, locals := 47 })).room) s m #[.ref o, .int p0, .int p1] below meth c H locs 0 0 (MQ below (va_Qi (fun (r : Int32) (u : (Nat → va_E) × tk_G) => tl_E r (0 < u.2 (39, 0, 0) 13) 1 0 ∧ (0 ≤ u.2 (39, 0, 0) 13 ∧ u.2 (39, 0, 0) 13 ≤ 42) ∧ (0 < u.2 (39, 0, 0) 13 → 0 < Γ (39, 0, 0) 10) ∧ u.2 (39, 0, 0) 0 = Γ (39, 0, 0) 0 ∧ u.2 (39, 0, 0) 10 = Γ (39, 0, 0) 10 ∧ u.2 (39, 0, 0) 11 = Γ (39, 0, 0) 11 ∧ u.2 (39, 0, 0) 12 = Γ (39, 0, 0) 12 ∧ u.2 (39, 0, 0) 14 = Γ (39, 0, 0) 14 ∧ u.2 (39, 0, 0) 15 = Γ (39, 0, 0) 15 ∧ (∀ j : Nat, (j : Int) < u.2 (39, 0, 0) 13 → 0 ≤ u.2 (61, 42, 0) j ∧ u.2 (61, 42, 0) j ≤ 299) ∧ (∀ j : Nat, (j : Int) + 1 < u.2 (39, 0, 0) 13 → u.2 (61, 42, 0) j < u.2 (61, 42, 0) (j + 1))) (tp_BG D cy L K Γ f [39, 61, 62, 63]) A) #[.ref o, .int p0, .int p1] s 0 0 A) (F0 m 66 ls [])) (α := (Nat → va_E) × Int32 × Int32 × Int64) (fun aq => (300 - aq.2.1.toInt).toNat) (fun aq H locs ls => (0 ≤ aq.2.1.toInt ∧ aq.2.1.toInt ≤ 300) ∧ (0 ≤ aq.2.2.1.toInt ∧ aq.2.2.1.toInt ≤ aq.2.1.toInt ∧ (0 < aq.2.2.1.toInt → 0 < Γ (39, 0, 0) 10)) ∧ va_P D vwCl (va_pl L aq.1) H ∧ tp_I cy L K Γ_27 aq.1 ∧ (∀ b, (K b).1 ∉ ([39, 61, 62, 63] : List Nat) → aq.1 b = f b) ∧ va_S A s.heap H locs ∧ lv_has ls 10 [(9, .int aq.2.1), (8, .int aq.2.2.1), (6, .long aq.2.2.2), (5, .int z_90), (4, .int v4), (3, .int z_1), (0, .ref o), (1, .int p0), (2, .int p1)]) ?_ (f_26, z_113, (0 : Int32), (0 : Int64)) H locs ls ⟨(show 0 ≤ z_113.toInt ∧ z_113.toInt ≤ 300 from (by omega)), (show 0 ≤ (0 : Int) ∧ (0 : Int) ≤ z_113.toInt ∧ (0 < (0 : Int) → 0 < Γ (39, 0, 0) 10) from (by omega)), hP, hI, hfr, hS, lv_sub hl [0, 1, 2, 3, 4, 5, 6, 7, 8] rfl⟩
      rintro ⟨f_114, v9, v8, v6⟩ H locs ls ⟨h9, h8, hP, hI, hfr, hS, hl⟩ ih66
      have hP : va_P D vwCl (va_pl L f_114) H := hP
      have hI : tp_I cy L K Γ_27 f_114 := hI
      have hfr : ∀ b, (K b).1 ∉ ([39, 61, 62, 63] : List Nat) → f_114 b = f b := hfr
      have hD : va_D A (va_pl L f_114) := tp_D hL hAL
      have h9 : 0 ≤ v9.toInt ∧ v9.toInt ≤ 300 := h9
      have h8 : 0 ≤ v8.toInt ∧ v8.toInt ≤ v9.toInt ∧ (0 < v8.toInt → 0 < Γ (39, 0, 0) 10) := h8
      have hl : lv_has ls 10 [(9, .int v9), (8, .int v8), (6, .long v6), (5, .int z_90), (4, .int v4), (3, .int z_1), (0, .ref o), (1, .int p0), (2, .int p1)] := hl
      refine lv_iload hx hb dX12_bows_66 (lv_at hl 0 rfl) ?_
      refine lv_iload hx hb dX12_bows_68 (lv_at hl 3 rfl) ?_
      refine lv_aload_n hx hb dX12_bows_70 rfl (lv_at hl 6 rfl) ?_
      obtain ⟨r_116, v_117, q_118, hf_115, hr_119, hv_120⟩ := (show tp_o_M L K 0 0 (Γ_27 (39, 0, 0)) (f_114 o) from hI.at ho)
      have hx_121 : (v_117 0).toInt = Γ_27 (39, 0, 0) 0 := hv_120 0 (by decide)
      have hx_122 : (v_117 10).toInt = Γ_27 (39, 0, 0) 10 := hv_120 10 (by decide)
      have hx_123 : (v_117 11).toInt = Γ_27 (39, 0, 0) 11 := hv_120 11 (by decide)
      have hx_124 : (v_117 12).toInt = Γ_27 (39, 0, 0) 12 := hv_120 12 (by decide)
      have hx_125 : (v_117 13).toInt = Γ_27 (39, 0, 0) 13 := hv_120 13 (by decide)
      have hx_126 : (v_117 14).toInt = Γ_27 (39, 0, 0) 14 := hv_120 14 (by decide)
      have hx_127 : (v_117 15).toInt = Γ_27 (39, 0, 0) 15 := hv_120 15 (by decide)
      refine tp_get (cy := cy) (ci := 12) (v := .ref (r_116 15)) (C := RX12) (T := TX12) (N := 49) hx hb hta inlX12 hown hK hP ho.1 hf_115 rfl 16 (by decide) (hta _ wk_165) (fun _ h9 => h9) rfl dX12_bows_71 ?_
      refine lv_iload_n hx hb dX12_bows_74 rfl (lv_at hl 5 rfl) ?_
      obtain ⟨g_129, hf_128, hg_130⟩ := (show tp_gi cy (22) (Γ (51, 22, 0)) (f (r_116 15)) from hI0.at (show tp_r L K 51 22 0 (r_116 15) from hr_119 15 (by decide)))
      have hn_131 : vp_in z_1 (22) := tl_in (by omega) (by omega)
      refine tp_iald (cy := cy) hx hb hK hP (show tp_r L K 51 22 0 (r_116 15) from hr_119 15 (by decide)).1 ((tp_un hfr (show tp_r L K 51 22 0 (r_116 15) from hr_119 15 (by decide)) (by decide)).trans hf_128) hn_131 dX12_bows_75 ?_
      refine lv_topi (fun z_132 ez_132 => ?_)
      have iz_132 : z_132.toInt = Γ (51, 22, 0) z_1.toInt.toNat := by rw [ez_132]; exact hg_130 _ (tp_pin hn_131)
      have hwlz_132 : z_132.toInt = Γ (51, 22, 0) t1.toNat := iz_132.trans (congrArg _ (by omega))
      refine lv_iadd hx hb dX12_bows_76 ?_
      refine lv_topi (fun z_133 ez_133 => ?_)
      try have iz_133 : z_133.toInt = z_90.toInt + z_132.toInt := by rw [ez_133]; exact tl_addN z_90 z_132 rfl rfl (by omega) (by omega)
      refine lv_icmp_gt (tgt := 123) hx hb dX12_bows_77 (by decide) (fun c_134 => ?_) (fun c_134 => ?_)
      · have c_134 : z_133.toInt < v9.toInt := tl_lt c_134
        refine lv_iload hx hb dX12_bows_123 (lv_at hl 1 rfl) ?_
        refine lv_if_ne (tgt := 131) hx hb dX12_bows_125 (by decide) (fun c_135 => ?_) (fun c_135 => ?_)
        · have c_135 : ¬ v8.toInt = (0 : Int) := tl_neq c_135
          refine lv_aload_n hx hb dX12_bows_131 rfl (lv_at hl 6 rfl) ?_
          refine tp_get (cy := cy) (ci := 12) (v := .ref (r_116 21)) (C := RX12) (T := TX12) (N := 49) hx hb hta inlX12 hown hK hP ho.1 hf_115 rfl 35 (by decide) (hta _ wk_171) (fun _ h9 => h9) rfl dX12_bows_132 ?_
          refine lv_aload_n hx hb dX12_bows_135 rfl (lv_at hl 6 rfl) ?_
          refine tp_get (cy := cy) (ci := 12) (v := .int (v_117 13)) (C := RX12) (T := TX12) (N := 49) hx hb hta inlX12 hown hK hP ho.1 hf_115 rfl 37 (by decide) (hta _ wk_903) (fun _ h9 => h9) rfl dX12_bows_136 ?_
          refine lv_iload hx hb dX12_bows_139 (lv_at hl 3 rfl) ?_
          obtain ⟨g_137, hf_136, hg_138⟩ := (show tp_gi cy (42) (Γ_27 (61, 42, 0)) (f_114 (r_116 21)) from hI.at (show tp_r L K 61 42 0 (r_116 21) from hr_119 21 (by decide)))
          have hn_139 : vp_in (v_117 13) (42) := tl_in (by omega) (by omega)
          have hj_140 : (v_117 13).toNatClampNeg = (Γ_27 (39, 0, 0) 13).toNat := by show (v_117 13).toInt.toNat = _; omega
          have hv_141 : z_90.toInt = z_90.toInt := rfl
          obtain ⟨Γ_142, eΓ_142⟩ : ∃ y : tk_G, y = tg Γ_27 (61, 42, 0) ((Γ_27 (39, 0, 0) 13).toNat) z_90.toInt := ⟨_, rfl⟩
          have hI9 : tp_I cy L K Γ_142 (va_up f_114 (r_116 21) (.inl (cy 0, 42, .inl (upd g_137 (v_117 13).toNatClampNeg z_90)))) := by have q9 : tg Γ_27 (61, 42, 0) ((Γ_27 (39, 0, 0) 13).toNat) z_90.toInt = tg Γ_27 (61, 42, 0) (v_117 13).toNatClampNeg z_90.toInt := (by rw [hj_140, hv_141]); rw [eΓ_142, q9]; exact hI.setg hU rfl (show tp_r L K 61 42 0 (r_116 21) from hr_119 21 (by decide)) (show tp_gi cy (42) (tgu (Γ_27 (61, 42, 0)) _ _) _ from ⟨_, rfl, tp_gi_upd hg_138⟩)
          have hfr9 : ∀ b, (K b).1 ∉ ([39, 61, 62, 63] : List Nat) → va_up f_114 (r_116 21) (.inl (cy 0, 42, .inl (upd g_137 (v_117 13).toNatClampNeg z_90))) b = f b := tp_fr hfr (show tp_r L K 61 42 0 (r_116 21) from hr_119 21 (by decide)) (by decide)
          refine tp_iast (cy := cy) hx hb hK hP hD hS (show tp_r L K 61 42 0 (r_116 21) from hr_119 21 (by decide)).1 hf_136 hn_139 dX12_bows_141 (fun H locs hP hD hS => ?_)
          have hP : va_P D vwCl (va_pl L (va_up f_114 (r_116 21) (.inl (cy 0, 42, .inl (upd g_137 (v_117 13).toNatClampNeg z_90))))) H := hP
          generalize hfe : va_up f_114 (r_116 21) (.inl (cy 0, 42, .inl (upd g_137 (v_117 13).toNatClampNeg z_90))) = f_143 at hP hI9 hfr9
          have hD : va_D A (va_pl L f_143) := tp_D hL hAL
          have hf_144 := (show f_143 o = _ from by rw [← hfe, va_up_ne _ _ (tp_ne ho (show tp_r L K 61 42 0 (r_116 21) from hr_119 21 (by decide)) (by decide))]).trans hf_115
          have hf_145 : f_143 (r_116 21) = .inl (cy 0, 42, .inl (upd g_137 (v_117 13).toNatClampNeg z_90)) := by rw [← hfe]; exact va_up_self _ _ _
          clear hfe
          have hI := hI9
          have hfr := hfr9
          clear hI9 hfr9
          have wsΓ_142 : Γ_142 (61, 42, 0) ((Γ_27 (39, 0, 0) 13).toNat) = z_90.toInt := by rw [eΓ_142]; exact tg_s
          have hgr : ∀ κ : tk_K, κ.1 ∉ ([39, 61, 62, 63] : List Nat) → Γ_142 κ = Γ κ := tg_fr hgr eΓ_142 (by decide)
          have hv_146 : ∀ i : Nat, i < 16 → (v_117 i).toInt = Γ_142 (39, 0, 0) i := fun i hi => by rw [eΓ_142, tg_r (by decide)]; exact hv_120 i hi
          have hx_147 : (v_117 0).toInt = Γ_142 (39, 0, 0) 0 := hv_146 0 (by decide)
          have hx_148 : (v_117 10).toInt = Γ_142 (39, 0, 0) 10 := hv_146 10 (by decide)
          have hx_149 : (v_117 11).toInt = Γ_142 (39, 0, 0) 11 := hv_146 11 (by decide)
          have hx_150 : (v_117 12).toInt = Γ_142 (39, 0, 0) 12 := hv_146 12 (by decide)
          have hx_151 : (v_117 13).toInt = Γ_142 (39, 0, 0) 13 := hv_146 13 (by decide)
          have hx_152 : (v_117 14).toInt = Γ_142 (39, 0, 0) 14 := hv_146 14 (by decide)
          have hx_153 : (v_117 15).toInt = Γ_142 (39, 0, 0) 15 := hv_146 15 (by decide)
          have hk1 : Γ_142 (61, 42, 0) (Γ_27 (39, 0, 0) 13).toNat = z_90.toInt := by rw [eΓ_142]; exact tg_s
          have hk2 : ∀ j : Nat, ¬ j = (Γ_27 (39, 0, 0) 13).toNat → Γ_142 (61, 42, 0) j = Γ_27 (61, 42, 0) j := fun j q => by rw [eΓ_142, tg_i q]
          refine lv_aload_n hx hb dX12_bows_142 rfl (lv_at hl 6 rfl) ?_
          refine tp_get (cy := cy) (ci := 12) (v := .ref (r_116 22)) (C := RX12) (T := TX12) (N := 49) hx hb hta inlX12 hown hK hP ho.1 hf_144 rfl 36 (by decide) (hta _ wk_172) (fun _ h9 => h9) rfl dX12_bows_143 ?_
          refine lv_aload_n hx hb dX12_bows_146 rfl (lv_at hl 6 rfl) ?_
          refine tp_get (cy := cy) (ci := 12) (v := .int (v_117 13)) (C := RX12) (T := TX12) (N := 49) hx hb hta inlX12 hown hK hP ho.1 hf_144 rfl 37 (by decide) (hta _ wk_903) (fun _ h9 => h9) rfl dX12_bows_147 ?_
          refine lv_lload hx hb dX12_bows_150 (lv_at hl 2 rfl) ?_
          refine lv_iload hx hb dX12_bows_152 (lv_at hl 1 rfl) ?_
          refine lv_i2l (v := v8.toInt64) hx hb dX12_bows_154 (by first | rfl | decide) ?_
          refine tl_sl (tq_rS (As := [.long v6, .long v8.toInt64]) (rest := [.int (v_117 13), .ref (r_116 22)]) ⟨hx, hb, hml, hown, hta⟩ (tp_P.pre hK hN hL hU hI hP) lk_X12_401 (r_X12_down l D cy H.size L K Γ_142 f_143 v6 v8.toInt64 (by first | omega | (simp only [Int32.toInt_toInt64]; omega) | decide | assumption)) rfl rfl ⟨Nat.le_of_ble_eq_true rfl, Nat.le_of_ble_eq_true rfl⟩ rfl hl.1 rfl (Nat.le_of_ble_eq_true rfl) dX12_bows_155 ⟨Nat.le_of_ble_eq_true rfl, Nat.le_of_ble_eq_true rfl⟩) (fun r_155 hw_154 => ?_)
          obtain ⟨g_157, hf_156⟩ := (show tp_aj cy (42) (f_143 (r_116 22)) from hI.at (show tp_r L K 62 42 0 (r_116 22) from hr_119 22 (by decide)))
          have hn_159 : vp_in (v_117 13) (42) := tl_in (by omega) (by omega)
          have hI9 : tp_I cy L K Γ_142 (va_up f_143 (r_116 22) (.inl (cy 1, 42, .inr (.inl (vp_updL g_157 (v_117 13).toNatClampNeg r_155))))) := hI.set (show tp_r L K 62 42 0 (r_116 22) from hr_119 22 (by decide)) (show tp_aj cy (42) _ from ⟨_, rfl⟩)
          have hfr9 : ∀ b, (K b).1 ∉ ([39, 61, 62, 63] : List Nat) → va_up f_143 (r_116 22) (.inl (cy 1, 42, .inr (.inl (vp_updL g_157 (v_117 13).toNatClampNeg r_155)))) b = f b := tp_fr hfr (show tp_r L K 62 42 0 (r_116 22) from hr_119 22 (by decide)) (by decide)
          refine tp_last (cy := cy) hx hb hK hP hD hS (show tp_r L K 62 42 0 (r_116 22) from hr_119 22 (by decide)).1 hf_156 hn_159 dX12_bows_158 (fun H locs hP hD hS => ?_)
          have hP : va_P D vwCl (va_pl L (va_up f_143 (r_116 22) (.inl (cy 1, 42, .inr (.inl (vp_updL g_157 (v_117 13).toNatClampNeg r_155)))))) H := hP
          generalize hfe : va_up f_143 (r_116 22) (.inl (cy 1, 42, .inr (.inl (vp_updL g_157 (v_117 13).toNatClampNeg r_155)))) = f_160 at hP hI9 hfr9
          have hD : va_D A (va_pl L f_160) := tp_D hL hAL
          have hf_161 := (show f_160 o = _ from by rw [← hfe, va_up_ne _ _ (tp_ne ho (show tp_r L K 62 42 0 (r_116 22) from hr_119 22 (by decide)) (by decide))]).trans hf_144
          have hf_162 : f_160 (r_116 22) = .inl (cy 1, 42, .inr (.inl (vp_updL g_157 (v_117 13).toNatClampNeg r_155))) := by rw [← hfe]; exact va_up_self _ _ _
          clear hfe
          have hI := hI9
          have hfr := hfr9
          clear hI9 hfr9
          refine lv_aload_n hx hb dX12_bows_159 rfl (lv_at hl 6 rfl) ?_
          refine lv_dup hx hb dX12_bows_160 rfl ?_
          refine tp_get (cy := cy) (ci := 12) (v := .int (v_117 13)) (C := RX12) (T := TX12) (N := 49) hx hb hta inlX12 hown hK hP ho.1 hf_161 rfl 37 (by decide) (hta _ wk_903) (fun _ h9 => h9) rfl dX12_bows_161 ?_
          refine lv_iconst (v := 1) hx hb dX12_bows_164 (by decide) ?_
          refine lv_iadd hx hb dX12_bows_165 ?_
          refine lv_topi (fun z_163 ez_163 => ?_)
          try have iz_163 : z_163.toInt = (v_117 13).toInt + (1 : Int) := by rw [ez_163]; exact tl_addN (v_117 13) 1 rfl rfl (by omega) (by omega)
          obtain ⟨Γ_164, eΓ_164⟩ : ∃ y : tk_G, y = tg Γ_142 (39, 0, 0) 13 z_163.toInt := ⟨_, rfl⟩
          have hv_165 : ∀ i : Nat, i < 16 → ((upd v_117 13 z_163) i).toInt = Γ_164 (39, 0, 0) i := by rw [eΓ_164, tg_f]; exact tp_gi_upd hv_146
          have hI9 : tp_I cy L K Γ_164 (va_up f_160 o (.inr (12, [.ref (r_116 0), .ref (r_116 1), .int (v_117 0), .ref (r_116 2), .ref (r_116 3), .ref (r_116 4), .ref (r_116 5), .ref (r_116 6), .ref (r_116 7), .ref (r_116 8), .ref (r_116 9), .ref (r_116 10), .ref (r_116 11), .ref (r_116 12), .ref (r_116 13), .ref (r_116 14), .ref (r_116 15), .int (v_117 1), .int (v_117 2), .int (v_117 3), .int (v_117 4), .int (v_117 5), .int (v_117 6), .int (v_117 7), .ref (r_116 16), .int (v_117 8), .ref (r_116 17), .int (v_117 9), .ref (r_116 18), .long q_118, .ref (r_116 19), .ref (r_116 20), .int (v_117 10), .int (v_117 11), .int (v_117 12), .ref (r_116 21), .ref (r_116 22), .int z_163, .ref (r_116 23), .int (v_117 14), .int (v_117 15), .ref (r_116 24), .ref (r_116 25), .ref (r_116 26), .ref (r_116 27), .ref (r_116 28), .ref (r_116 29), .ref (r_116 30), .ref (r_116 31)]))) := by have q9 := hv_165; rw [eΓ_164, tg_f] at q9; rw [eΓ_164]; exact hI.setg hU rfl ho (show tp_o_M L K 0 0 (tgu (Γ_142 (39, 0, 0)) 13 z_163.toInt) _ from ⟨r_116, (upd v_117 13 z_163), q_118, rfl, hr_119, q9⟩)
          have hfr9 : ∀ b, (K b).1 ∉ ([39, 61, 62, 63] : List Nat) → va_up f_160 o (.inr (12, [.ref (r_116 0), .ref (r_116 1), .int (v_117 0), .ref (r_116 2), .ref (r_116 3), .ref (r_116 4), .ref (r_116 5), .ref (r_116 6), .ref (r_116 7), .ref (r_116 8), .ref (r_116 9), .ref (r_116 10), .ref (r_116 11), .ref (r_116 12), .ref (r_116 13), .ref (r_116 14), .ref (r_116 15), .int (v_117 1), .int (v_117 2), .int (v_117 3), .int (v_117 4), .int (v_117 5), .int (v_117 6), .int (v_117 7), .ref (r_116 16), .int (v_117 8), .ref (r_116 17), .int (v_117 9), .ref (r_116 18), .long q_118, .ref (r_116 19), .ref (r_116 20), .int (v_117 10), .int (v_117 11), .int (v_117 12), .ref (r_116 21), .ref (r_116 22), .int z_163, .ref (r_116 23), .int (v_117 14), .int (v_117 15), .ref (r_116 24), .ref (r_116 25), .ref (r_116 26), .ref (r_116 27), .ref (r_116 28), .ref (r_116 29), .ref (r_116 30), .ref (r_116 31)])) b = f b := tp_fr hfr ho (by decide)
          refine tp_put (cy := cy) (ci := 12) (v := .int z_163) (ty := tyX12 37) (C := RX12) (T := TX12) (N := 49) hx hb hta inlX12 tyX12 tyX12_ok nmX12 hown hK hP hD hS ho.1 hf_161 rfl 37 (by decide) (hta _ wk_903) (fun _ h9 => h9) rfl (tyX12_ok 37 (by decide)) rfl rfl (Nat.le_of_ble_eq_true rfl) dX12_bows_166 (fun H locs hP hD hS => ?_)
          have hP : va_P D vwCl (va_pl L (va_up f_160 o (.inr (12, [.ref (r_116 0), .ref (r_116 1), .int (v_117 0), .ref (r_116 2), .ref (r_116 3), .ref (r_116 4), .ref (r_116 5), .ref (r_116 6), .ref (r_116 7), .ref (r_116 8), .ref (r_116 9), .ref (r_116 10), .ref (r_116 11), .ref (r_116 12), .ref (r_116 13), .ref (r_116 14), .ref (r_116 15), .int (v_117 1), .int (v_117 2), .int (v_117 3), .int (v_117 4), .int (v_117 5), .int (v_117 6), .int (v_117 7), .ref (r_116 16), .int (v_117 8), .ref (r_116 17), .int (v_117 9), .ref (r_116 18), .long q_118, .ref (r_116 19), .ref (r_116 20), .int (v_117 10), .int (v_117 11), .int (v_117 12), .ref (r_116 21), .ref (r_116 22), .int z_163, .ref (r_116 23), .int (v_117 14), .int (v_117 15), .ref (r_116 24), .ref (r_116 25), .ref (r_116 26), .ref (r_116 27), .ref (r_116 28), .ref (r_116 29), .ref (r_116 30), .ref (r_116 31)])))) H := hP
          generalize hfe : va_up f_160 o (.inr (12, [.ref (r_116 0), .ref (r_116 1), .int (v_117 0), .ref (r_116 2), .ref (r_116 3), .ref (r_116 4), .ref (r_116 5), .ref (r_116 6), .ref (r_116 7), .ref (r_116 8), .ref (r_116 9), .ref (r_116 10), .ref (r_116 11), .ref (r_116 12), .ref (r_116 13), .ref (r_116 14), .ref (r_116 15), .int (v_117 1), .int (v_117 2), .int (v_117 3), .int (v_117 4), .int (v_117 5), .int (v_117 6), .int (v_117 7), .ref (r_116 16), .int (v_117 8), .ref (r_116 17), .int (v_117 9), .ref (r_116 18), .long q_118, .ref (r_116 19), .ref (r_116 20), .int (v_117 10), .int (v_117 11), .int (v_117 12), .ref (r_116 21), .ref (r_116 22), .int z_163, .ref (r_116 23), .int (v_117 14), .int (v_117 15), .ref (r_116 24), .ref (r_116 25), .ref (r_116 26), .ref (r_116 27), .ref (r_116 28), .ref (r_116 29), .ref (r_116 30), .ref (r_116 31)])) = f_166 at hP hI9 hfr9
          have hD : va_D A (va_pl L f_166) := tp_D hL hAL
          have hf_167 : f_166 o = .inr (12, [.ref (r_116 0), .ref (r_116 1), .int (v_117 0), .ref (r_116 2), .ref (r_116 3), .ref (r_116 4), .ref (r_116 5), .ref (r_116 6), .ref (r_116 7), .ref (r_116 8), .ref (r_116 9), .ref (r_116 10), .ref (r_116 11), .ref (r_116 12), .ref (r_116 13), .ref (r_116 14), .ref (r_116 15), .int (v_117 1), .int (v_117 2), .int (v_117 3), .int (v_117 4), .int (v_117 5), .int (v_117 6), .int (v_117 7), .ref (r_116 16), .int (v_117 8), .ref (r_116 17), .int (v_117 9), .ref (r_116 18), .long q_118, .ref (r_116 19), .ref (r_116 20), .int (v_117 10), .int (v_117 11), .int (v_117 12), .ref (r_116 21), .ref (r_116 22), .int z_163, .ref (r_116 23), .int (v_117 14), .int (v_117 15), .ref (r_116 24), .ref (r_116 25), .ref (r_116 26), .ref (r_116 27), .ref (r_116 28), .ref (r_116 29), .ref (r_116 30), .ref (r_116 31)]) := by rw [← hfe]; exact va_up_self _ _ _
          clear hfe
          have hI := hI9
          have hfr := hfr9
          clear hI9 hfr9
          have hgr : ∀ κ : tk_K, κ.1 ∉ ([39, 61, 62, 63] : List Nat) → Γ_164 κ = Γ κ := tg_fr hgr eΓ_164 (by decide)
          have hx_168 : (v_117 0).toInt = Γ_164 (39, 0, 0) 0 := hv_165 0 (by decide)
          have hx_169 : (v_117 10).toInt = Γ_164 (39, 0, 0) 10 := hv_165 10 (by decide)
          have hx_170 : (v_117 11).toInt = Γ_164 (39, 0, 0) 11 := hv_165 11 (by decide)
          have hx_171 : (v_117 12).toInt = Γ_164 (39, 0, 0) 12 := hv_165 12 (by decide)
          have hx_172 : z_163.toInt = Γ_164 (39, 0, 0) 13 := hv_165 13 (by decide)
          have hx_173 : (v_117 14).toInt = Γ_164 (39, 0, 0) 14 := hv_165 14 (by decide)
          have hx_174 : (v_117 15).toInt = Γ_164 (39, 0, 0) 15 := hv_165 15 (by decide)
          have hn1 : Γ_164 (61, 42, 0) (Γ_27 (39, 0, 0) 13).toNat = z_90.toInt := by rw [eΓ_164, tg_r (by decide)]; exact hk1
          have hn2 : ∀ j : Nat, ¬ j = (Γ_27 (39, 0, 0) 13).toNat → Γ_164 (61, 42, 0) j = Γ_27 (61, 42, 0) j := fun j q => by rw [eΓ_164, tg_r (by decide)]; exact hk2 j q
          obtain ⟨z_175, ez_175⟩ : ∃ y : Int32, y = v4 + 1 := ⟨_, rfl⟩
          refine lv_iinc (v := z_175) (lv' := [(4, .int z_175), (9, .int v9), (8, .int v8), (6, .long v6), (5, .int z_90), (3, .int z_1), (0, .ref o), (1, .int p0), (2, .int p1)]) hx hb dX12_bows_169 hl (k := 4) rfl (by rw [ez_175]; rfl) (by decide) rfl (fun ls hl => ?_)
          try have iz_175 : z_175.toInt = v4.toInt + 1 := by rw [ez_175]; exact tl_addL v4 1 (by decide) (by omega) (by omega)
          refine lv_goto (tgt := 13) hx hb dX12_bows_172 (by decide) ?_
          exact ih13 (f_166, Γ_164, z_175) H locs ls (by show (p1.toInt + 2 - z_175.toInt).toNat < (p1.toInt + 2 - v4.toInt).toNat; omega) ⟨(show 0 ≤ z_175.toInt ∧ z_175.toInt ≤ p1.toInt + 2 from (by omega)), (show 0 ≤ Γ_164 (39, 0, 0) 13 ∧ Γ_164 (39, 0, 0) 13 ≤ z_175.toInt from (by omega)), (show ∀ j : Nat, (j : Int) < Γ_164 (39, 0, 0) 13 → 0 ≤ Γ_164 (61, 42, 0) j ∧ Γ_164 (61, 42, 0) j ≤ 299 ∧ Γ_164 (61, 42, 0) j < atk (p1.toInt + 1) (z_175.toInt) from (fun j9 q9 => by have q7 := atk_lt (b := p1.toInt + 1) (k := v4.toInt) (k2 := z_175.toInt) (by omega) (by omega); by_cases q6 : j9 = (Γ_27 (39, 0, 0) 13).toNat; (rw [q6, hn1]; exact ⟨by omega, by omega, by omega⟩); (rw [hn2 j9 q6]; have q8 := hkb j9 (by omega); exact ⟨q8.1, q8.2.1, by omega⟩))), (show ∀ j : Nat, (j : Int) + 1 < Γ_164 (39, 0, 0) 13 → Γ_164 (61, 42, 0) j < Γ_164 (61, 42, 0) (j + 1) from (fun j9 q9 => by by_cases q6 : j9 + 1 = (Γ_27 (39, 0, 0) 13).toNat; (rw [q6, hn1, hn2 j9 (by omega)]; have q8 := hkb j9 (by omega); omega); (rw [hn2 j9 (by omega), hn2 (j9 + 1) q6]; exact hris j9 (by omega)))), (show 0 < Γ_164 (39, 0, 0) 13 → 0 < Γ (39, 0, 0) 10 from (fun q9 => by first | exact hpos (by omega) | omega)), (show Γ_164 (39, 0, 0) 0 = Γ (39, 0, 0) 0 from (by omega)), (show Γ_164 (39, 0, 0) 10 = Γ (39, 0, 0) 10 from (by omega)), (show Γ_164 (39, 0, 0) 11 = Γ (39, 0, 0) 11 from (by omega)), (show Γ_164 (39, 0, 0) 12 = Γ (39, 0, 0) 12 from (by omega)), (show Γ_164 (39, 0, 0) 14 = Γ (39, 0, 0) 14 from (by omega)), (show Γ_164 (39, 0, 0) 15 = Γ (39, 0, 0) 15 from (by omega)), hP, hI, hfr, hgr, hS, lv_sub hl [0, 5, 6, 7, 8] rfl⟩
        · have c_135 : v8.toInt = (0 : Int) := tl_eq c_135
          refine lv_goto (tgt := 169) hx hb dX12_bows_128 (by decide) ?_
          obtain ⟨z_176, ez_176⟩ : ∃ y : Int32, y = v4 + 1 := ⟨_, rfl⟩
          refine lv_iinc (v := z_176) (lv' := [(4, .int z_176), (9, .int v9), (8, .int v8), (6, .long v6), (5, .int z_90), (3, .int z_1), (0, .ref o), (1, .int p0), (2, .int p1)]) hx hb dX12_bows_169 hl (k := 4) rfl (by rw [ez_176]; rfl) (by decide) rfl (fun ls hl => ?_)
          try have iz_176 : z_176.toInt = v4.toInt + 1 := by rw [ez_176]; exact tl_addL v4 1 (by decide) (by omega) (by omega)
          refine lv_goto (tgt := 13) hx hb dX12_bows_172 (by decide) ?_
          exact ih13 (f_114, Γ_27, z_176) H locs ls (by show (p1.toInt + 2 - z_176.toInt).toNat < (p1.toInt + 2 - v4.toInt).toNat; omega) ⟨(show 0 ≤ z_176.toInt ∧ z_176.toInt ≤ p1.toInt + 2 from (by omega)), (show 0 ≤ Γ_27 (39, 0, 0) 13 ∧ Γ_27 (39, 0, 0) 13 ≤ z_176.toInt from (by omega)), (show ∀ j : Nat, (j : Int) < Γ_27 (39, 0, 0) 13 → 0 ≤ Γ_27 (61, 42, 0) j ∧ Γ_27 (61, 42, 0) j ≤ 299 ∧ Γ_27 (61, 42, 0) j < atk (p1.toInt + 1) (z_176.toInt) from (fun j9 q9 => by have q8 := hkb j9 q9; have q7 := atk_lt (b := p1.toInt + 1) (k := v4.toInt) (k2 := z_176.toInt) (by omega) (by omega); exact ⟨q8.1, q8.2.1, by omega⟩)), (show ∀ j : Nat, (j : Int) + 1 < Γ_27 (39, 0, 0) 13 → Γ_27 (61, 42, 0) j < Γ_27 (61, 42, 0) (j + 1) from hris), (show 0 < Γ_27 (39, 0, 0) 13 → 0 < Γ (39, 0, 0) 10 from (fun q9 => by first | exact hpos (by omega) | omega)), (show Γ_27 (39, 0, 0) 0 = Γ (39, 0, 0) 0 from (by omega)), (show Γ_27 (39, 0, 0) 10 = Γ (39, 0, 0) 10 from (by omega)), (show Γ_27 (39, 0, 0) 11 = Γ (39, 0, 0) 11 from (by omega)), (show Γ_27 (39, 0, 0) 12 = Γ (39, 0, 0) 12 from (by omega)), (show Γ_27 (39, 0, 0) 14 = Γ (39, 0, 0) 14 from (by omega)), (show Γ_27 (39, 0, 0) 15 = Γ (39, 0, 0) 15 from (by omega)), hP, hI, hfr, hgr, hS, lv_sub hl [0, 5, 6, 7, 8] rfl⟩
      · have c_134 : v9.toInt ≤ z_133.toInt := tl_nlt c_134
        refine lv_iload hx hb dX12_bows_80 (lv_at hl 0 rfl) ?_
        refine lv_sipush (v := 300) hx hb dX12_bows_82 (by decide) ?_
        refine lv_icmp_ge (tgt := 123) hx hb dX12_bows_85 (by decide) (fun c_177 => ?_) (fun c_177 => ?_)
        · have c_177 : (300 : Int) ≤ v9.toInt := tl_le c_177
          refine lv_iload hx hb dX12_bows_123 (lv_at hl 1 rfl) ?_
          refine lv_if_ne (tgt := 131) hx hb dX12_bows_125 (by decide) (fun c_178 => ?_) (fun c_178 => ?_)
          · have c_178 : ¬ v8.toInt = (0 : Int) := tl_neq c_178
            refine lv_aload_n hx hb dX12_bows_131 rfl (lv_at hl 6 rfl) ?_
            refine tp_get (cy := cy) (ci := 12) (v := .ref (r_116 21)) (C := RX12) (T := TX12) (N := 49) hx hb hta inlX12 hown hK hP ho.1 hf_115 rfl 35 (by decide) (hta _ wk_171) (fun _ h9 => h9) rfl dX12_bows_132 ?_
            refine lv_aload_n hx hb dX12_bows_135 rfl (lv_at hl 6 rfl) ?_
            refine tp_get (cy := cy) (ci := 12) (v := .int (v_117 13)) (C := RX12) (T := TX12) (N := 49) hx hb hta inlX12 hown hK hP ho.1 hf_115 rfl 37 (by decide) (hta _ wk_903) (fun _ h9 => h9) rfl dX12_bows_136 ?_
            refine lv_iload hx hb dX12_bows_139 (lv_at hl 3 rfl) ?_
            obtain ⟨g_180, hf_179, hg_181⟩ := (show tp_gi cy (42) (Γ_27 (61, 42, 0)) (f_114 (r_116 21)) from hI.at (show tp_r L K 61 42 0 (r_116 21) from hr_119 21 (by decide)))
            have hn_182 : vp_in (v_117 13) (42) := tl_in (by omega) (by omega)
            have hj_183 : (v_117 13).toNatClampNeg = (Γ_27 (39, 0, 0) 13).toNat := by show (v_117 13).toInt.toNat = _; omega
            have hv_184 : z_90.toInt = z_90.toInt := rfl
            obtain ⟨Γ_185, eΓ_185⟩ : ∃ y : tk_G, y = tg Γ_27 (61, 42, 0) ((Γ_27 (39, 0, 0) 13).toNat) z_90.toInt := ⟨_, rfl⟩
            have hI9 : tp_I cy L K Γ_185 (va_up f_114 (r_116 21) (.inl (cy 0, 42, .inl (upd g_180 (v_117 13).toNatClampNeg z_90)))) := by have q9 : tg Γ_27 (61, 42, 0) ((Γ_27 (39, 0, 0) 13).toNat) z_90.toInt = tg Γ_27 (61, 42, 0) (v_117 13).toNatClampNeg z_90.toInt := (by rw [hj_183, hv_184]); rw [eΓ_185, q9]; exact hI.setg hU rfl (show tp_r L K 61 42 0 (r_116 21) from hr_119 21 (by decide)) (show tp_gi cy (42) (tgu (Γ_27 (61, 42, 0)) _ _) _ from ⟨_, rfl, tp_gi_upd hg_181⟩)
            have hfr9 : ∀ b, (K b).1 ∉ ([39, 61, 62, 63] : List Nat) → va_up f_114 (r_116 21) (.inl (cy 0, 42, .inl (upd g_180 (v_117 13).toNatClampNeg z_90))) b = f b := tp_fr hfr (show tp_r L K 61 42 0 (r_116 21) from hr_119 21 (by decide)) (by decide)
            refine tp_iast (cy := cy) hx hb hK hP hD hS (show tp_r L K 61 42 0 (r_116 21) from hr_119 21 (by decide)).1 hf_179 hn_182 dX12_bows_141 (fun H locs hP hD hS => ?_)
            have hP : va_P D vwCl (va_pl L (va_up f_114 (r_116 21) (.inl (cy 0, 42, .inl (upd g_180 (v_117 13).toNatClampNeg z_90))))) H := hP
            generalize hfe : va_up f_114 (r_116 21) (.inl (cy 0, 42, .inl (upd g_180 (v_117 13).toNatClampNeg z_90))) = f_186 at hP hI9 hfr9
            have hD : va_D A (va_pl L f_186) := tp_D hL hAL
            have hf_187 := (show f_186 o = _ from by rw [← hfe, va_up_ne _ _ (tp_ne ho (show tp_r L K 61 42 0 (r_116 21) from hr_119 21 (by decide)) (by decide))]).trans hf_115
            have hf_188 : f_186 (r_116 21) = .inl (cy 0, 42, .inl (upd g_180 (v_117 13).toNatClampNeg z_90)) := by rw [← hfe]; exact va_up_self _ _ _
            clear hfe
            have hI := hI9
            have hfr := hfr9
            clear hI9 hfr9
            have wsΓ_185 : Γ_185 (61, 42, 0) ((Γ_27 (39, 0, 0) 13).toNat) = z_90.toInt := by rw [eΓ_185]; exact tg_s
            have hgr : ∀ κ : tk_K, κ.1 ∉ ([39, 61, 62, 63] : List Nat) → Γ_185 κ = Γ κ := tg_fr hgr eΓ_185 (by decide)
            have hv_189 : ∀ i : Nat, i < 16 → (v_117 i).toInt = Γ_185 (39, 0, 0) i := fun i hi => by rw [eΓ_185, tg_r (by decide)]; exact hv_120 i hi
            have hx_190 : (v_117 0).toInt = Γ_185 (39, 0, 0) 0 := hv_189 0 (by decide)
            have hx_191 : (v_117 10).toInt = Γ_185 (39, 0, 0) 10 := hv_189 10 (by decide)
            have hx_192 : (v_117 11).toInt = Γ_185 (39, 0, 0) 11 := hv_189 11 (by decide)
            have hx_193 : (v_117 12).toInt = Γ_185 (39, 0, 0) 12 := hv_189 12 (by decide)
            have hx_194 : (v_117 13).toInt = Γ_185 (39, 0, 0) 13 := hv_189 13 (by decide)
            have hx_195 : (v_117 14).toInt = Γ_185 (39, 0, 0) 14 := hv_189 14 (by decide)
            have hx_196 : (v_117 15).toInt = Γ_185 (39, 0, 0) 15 := hv_189 15 (by decide)
            have hk1 : Γ_185 (61, 42, 0) (Γ_27 (39, 0, 0) 13).toNat = z_90.toInt := by rw [eΓ_185]; exact tg_s
            have hk2 : ∀ j : Nat, ¬ j = (Γ_27 (39, 0, 0) 13).toNat → Γ_185 (61, 42, 0) j = Γ_27 (61, 42, 0) j := fun j q => by rw [eΓ_185, tg_i q]
            refine lv_aload_n hx hb dX12_bows_142 rfl (lv_at hl 6 rfl) ?_
            refine tp_get (cy := cy) (ci := 12) (v := .ref (r_116 22)) (C := RX12) (T := TX12) (N := 49) hx hb hta inlX12 hown hK hP ho.1 hf_187 rfl 36 (by decide) (hta _ wk_172) (fun _ h9 => h9) rfl dX12_bows_143 ?_
            refine lv_aload_n hx hb dX12_bows_146 rfl (lv_at hl 6 rfl) ?_
            refine tp_get (cy := cy) (ci := 12) (v := .int (v_117 13)) (C := RX12) (T := TX12) (N := 49) hx hb hta inlX12 hown hK hP ho.1 hf_187 rfl 37 (by decide) (hta _ wk_903) (fun _ h9 => h9) rfl dX12_bows_147 ?_
            refine lv_lload hx hb dX12_bows_150 (lv_at hl 2 rfl) ?_
            refine lv_iload hx hb dX12_bows_152 (lv_at hl 1 rfl) ?_
            refine lv_i2l (v := v8.toInt64) hx hb dX12_bows_154 (by first | rfl | decide) ?_
            refine tl_sl (tq_rS (As := [.long v6, .long v8.toInt64]) (rest := [.int (v_117 13), .ref (r_116 22)]) ⟨hx, hb, hml, hown, hta⟩ (tp_P.pre hK hN hL hU hI hP) lk_X12_401 (r_X12_down l D cy H.size L K Γ_185 f_186 v6 v8.toInt64 (by first | omega | (simp only [Int32.toInt_toInt64]; omega) | decide | assumption)) rfl rfl ⟨Nat.le_of_ble_eq_true rfl, Nat.le_of_ble_eq_true rfl⟩ rfl hl.1 rfl (Nat.le_of_ble_eq_true rfl) dX12_bows_155 ⟨Nat.le_of_ble_eq_true rfl, Nat.le_of_ble_eq_true rfl⟩) (fun r_198 hw_197 => ?_)
            obtain ⟨g_200, hf_199⟩ := (show tp_aj cy (42) (f_186 (r_116 22)) from hI.at (show tp_r L K 62 42 0 (r_116 22) from hr_119 22 (by decide)))
            have hn_202 : vp_in (v_117 13) (42) := tl_in (by omega) (by omega)
            have hI9 : tp_I cy L K Γ_185 (va_up f_186 (r_116 22) (.inl (cy 1, 42, .inr (.inl (vp_updL g_200 (v_117 13).toNatClampNeg r_198))))) := hI.set (show tp_r L K 62 42 0 (r_116 22) from hr_119 22 (by decide)) (show tp_aj cy (42) _ from ⟨_, rfl⟩)
            have hfr9 : ∀ b, (K b).1 ∉ ([39, 61, 62, 63] : List Nat) → va_up f_186 (r_116 22) (.inl (cy 1, 42, .inr (.inl (vp_updL g_200 (v_117 13).toNatClampNeg r_198)))) b = f b := tp_fr hfr (show tp_r L K 62 42 0 (r_116 22) from hr_119 22 (by decide)) (by decide)
            refine tp_last (cy := cy) hx hb hK hP hD hS (show tp_r L K 62 42 0 (r_116 22) from hr_119 22 (by decide)).1 hf_199 hn_202 dX12_bows_158 (fun H locs hP hD hS => ?_)
            have hP : va_P D vwCl (va_pl L (va_up f_186 (r_116 22) (.inl (cy 1, 42, .inr (.inl (vp_updL g_200 (v_117 13).toNatClampNeg r_198)))))) H := hP
            generalize hfe : va_up f_186 (r_116 22) (.inl (cy 1, 42, .inr (.inl (vp_updL g_200 (v_117 13).toNatClampNeg r_198)))) = f_203 at hP hI9 hfr9
            have hD : va_D A (va_pl L f_203) := tp_D hL hAL
            have hf_204 := (show f_203 o = _ from by rw [← hfe, va_up_ne _ _ (tp_ne ho (show tp_r L K 62 42 0 (r_116 22) from hr_119 22 (by decide)) (by decide))]).trans hf_187
            have hf_205 : f_203 (r_116 22) = .inl (cy 1, 42, .inr (.inl (vp_updL g_200 (v_117 13).toNatClampNeg r_198))) := by rw [← hfe]; exact va_up_self _ _ _
            clear hfe
            have hI := hI9
            have hfr := hfr9
            clear hI9 hfr9
            refine lv_aload_n hx hb dX12_bows_159 rfl (lv_at hl 6 rfl) ?_
            refine lv_dup hx hb dX12_bows_160 rfl ?_
            refine tp_get (cy := cy) (ci := 12) (v := .int (v_117 13)) (C := RX12) (T := TX12) (N := 49) hx hb hta inlX12 hown hK hP ho.1 hf_204 rfl 37 (by decide) (hta _ wk_903) (fun _ h9 => h9) rfl dX12_bows_161 ?_
            refine lv_iconst (v := 1) hx hb dX12_bows_164 (by decide) ?_
            refine lv_iadd hx hb dX12_bows_165 ?_
            refine lv_topi (fun z_206 ez_206 => ?_)
            try have iz_206 : z_206.toInt = (v_117 13).toInt + (1 : Int) := by rw [ez_206]; exact tl_addN (v_117 13) 1 rfl rfl (by omega) (by omega)
            obtain ⟨Γ_207, eΓ_207⟩ : ∃ y : tk_G, y = tg Γ_185 (39, 0, 0) 13 z_206.toInt := ⟨_, rfl⟩
            have hv_208 : ∀ i : Nat, i < 16 → ((upd v_117 13 z_206) i).toInt = Γ_207 (39, 0, 0) i := by rw [eΓ_207, tg_f]; exact tp_gi_upd hv_189
            have hI9 : tp_I cy L K Γ_207 (va_up f_203 o (.inr (12, [.ref (r_116 0), .ref (r_116 1), .int (v_117 0), .ref (r_116 2), .ref (r_116 3), .ref (r_116 4), .ref (r_116 5), .ref (r_116 6), .ref (r_116 7), .ref (r_116 8), .ref (r_116 9), .ref (r_116 10), .ref (r_116 11), .ref (r_116 12), .ref (r_116 13), .ref (r_116 14), .ref (r_116 15), .int (v_117 1), .int (v_117 2), .int (v_117 3), .int (v_117 4), .int (v_117 5), .int (v_117 6), .int (v_117 7), .ref (r_116 16), .int (v_117 8), .ref (r_116 17), .int (v_117 9), .ref (r_116 18), .long q_118, .ref (r_116 19), .ref (r_116 20), .int (v_117 10), .int (v_117 11), .int (v_117 12), .ref (r_116 21), .ref (r_116 22), .int z_206, .ref (r_116 23), .int (v_117 14), .int (v_117 15), .ref (r_116 24), .ref (r_116 25), .ref (r_116 26), .ref (r_116 27), .ref (r_116 28), .ref (r_116 29), .ref (r_116 30), .ref (r_116 31)]))) := by have q9 := hv_208; rw [eΓ_207, tg_f] at q9; rw [eΓ_207]; exact hI.setg hU rfl ho (show tp_o_M L K 0 0 (tgu (Γ_185 (39, 0, 0)) 13 z_206.toInt) _ from ⟨r_116, (upd v_117 13 z_206), q_118, rfl, hr_119, q9⟩)
            have hfr9 : ∀ b, (K b).1 ∉ ([39, 61, 62, 63] : List Nat) → va_up f_203 o (.inr (12, [.ref (r_116 0), .ref (r_116 1), .int (v_117 0), .ref (r_116 2), .ref (r_116 3), .ref (r_116 4), .ref (r_116 5), .ref (r_116 6), .ref (r_116 7), .ref (r_116 8), .ref (r_116 9), .ref (r_116 10), .ref (r_116 11), .ref (r_116 12), .ref (r_116 13), .ref (r_116 14), .ref (r_116 15), .int (v_117 1), .int (v_117 2), .int (v_117 3), .int (v_117 4), .int (v_117 5), .int (v_117 6), .int (v_117 7), .ref (r_116 16), .int (v_117 8), .ref (r_116 17), .int (v_117 9), .ref (r_116 18), .long q_118, .ref (r_116 19), .ref (r_116 20), .int (v_117 10), .int (v_117 11), .int (v_117 12), .ref (r_116 21), .ref (r_116 22), .int z_206, .ref (r_116 23), .int (v_117 14), .int (v_117 15), .ref (r_116 24), .ref (r_116 25), .ref (r_116 26), .ref (r_116 27), .ref (r_116 28), .ref (r_116 29), .ref (r_116 30), .ref (r_116 31)])) b = f b := tp_fr hfr ho (by decide)
            refine tp_put (cy := cy) (ci := 12) (v := .int z_206) (ty := tyX12 37) (C := RX12) (T := TX12) (N := 49) hx hb hta inlX12 tyX12 tyX12_ok nmX12 hown hK hP hD hS ho.1 hf_204 rfl 37 (by decide) (hta _ wk_903) (fun _ h9 => h9) rfl (tyX12_ok 37 (by decide)) rfl rfl (Nat.le_of_ble_eq_true rfl) dX12_bows_166 (fun H locs hP hD hS => ?_)
            have hP : va_P D vwCl (va_pl L (va_up f_203 o (.inr (12, [.ref (r_116 0), .ref (r_116 1), .int (v_117 0), .ref (r_116 2), .ref (r_116 3), .ref (r_116 4), .ref (r_116 5), .ref (r_116 6), .ref (r_116 7), .ref (r_116 8), .ref (r_116 9), .ref (r_116 10), .ref (r_116 11), .ref (r_116 12), .ref (r_116 13), .ref (r_116 14), .ref (r_116 15), .int (v_117 1), .int (v_117 2), .int (v_117 3), .int (v_117 4), .int (v_117 5), .int (v_117 6), .int (v_117 7), .ref (r_116 16), .int (v_117 8), .ref (r_116 17), .int (v_117 9), .ref (r_116 18), .long q_118, .ref (r_116 19), .ref (r_116 20), .int (v_117 10), .int (v_117 11), .int (v_117 12), .ref (r_116 21), .ref (r_116 22), .int z_206, .ref (r_116 23), .int (v_117 14), .int (v_117 15), .ref (r_116 24), .ref (r_116 25), .ref (r_116 26), .ref (r_116 27), .ref (r_116 28), .ref (r_116 29), .ref (r_116 30), .ref (r_116 31)])))) H := hP
            generalize hfe : va_up f_203 o (.inr (12, [.ref (r_116 0), .ref (r_116 1), .int (v_117 0), .ref (r_116 2), .ref (r_116 3), .ref (r_116 4), .ref (r_116 5), .ref (r_116 6), .ref (r_116 7), .ref (r_116 8), .ref (r_116 9), .ref (r_116 10), .ref (r_116 11), .ref (r_116 12), .ref (r_116 13), .ref (r_116 14), .ref (r_116 15), .int (v_117 1), .int (v_117 2), .int (v_117 3), .int (v_117 4), .int (v_117 5), .int (v_117 6), .int (v_117 7), .ref (r_116 16), .int (v_117 8), .ref (r_116 17), .int (v_117 9), .ref (r_116 18), .long q_118, .ref (r_116 19), .ref (r_116 20), .int (v_117 10), .int (v_117 11), .int (v_117 12), .ref (r_116 21), .ref (r_116 22), .int z_206, .ref (r_116 23), .int (v_117 14), .int (v_117 15), .ref (r_116 24), .ref (r_116 25), .ref (r_116 26), .ref (r_116 27), .ref (r_116 28), .ref (r_116 29), .ref (r_116 30), .ref (r_116 31)])) = f_209 at hP hI9 hfr9
            have hD : va_D A (va_pl L f_209) := tp_D hL hAL
            have hf_210 : f_209 o = .inr (12, [.ref (r_116 0), .ref (r_116 1), .int (v_117 0), .ref (r_116 2), .ref (r_116 3), .ref (r_116 4), .ref (r_116 5), .ref (r_116 6), .ref (r_116 7), .ref (r_116 8), .ref (r_116 9), .ref (r_116 10), .ref (r_116 11), .ref (r_116 12), .ref (r_116 13), .ref (r_116 14), .ref (r_116 15), .int (v_117 1), .int (v_117 2), .int (v_117 3), .int (v_117 4), .int (v_117 5), .int (v_117 6), .int (v_117 7), .ref (r_116 16), .int (v_117 8), .ref (r_116 17), .int (v_117 9), .ref (r_116 18), .long q_118, .ref (r_116 19), .ref (r_116 20), .int (v_117 10), .int (v_117 11), .int (v_117 12), .ref (r_116 21), .ref (r_116 22), .int z_206, .ref (r_116 23), .int (v_117 14), .int (v_117 15), .ref (r_116 24), .ref (r_116 25), .ref (r_116 26), .ref (r_116 27), .ref (r_116 28), .ref (r_116 29), .ref (r_116 30), .ref (r_116 31)]) := by rw [← hfe]; exact va_up_self _ _ _
            clear hfe
            have hI := hI9
            have hfr := hfr9
            clear hI9 hfr9
            have hgr : ∀ κ : tk_K, κ.1 ∉ ([39, 61, 62, 63] : List Nat) → Γ_207 κ = Γ κ := tg_fr hgr eΓ_207 (by decide)
            have hx_211 : (v_117 0).toInt = Γ_207 (39, 0, 0) 0 := hv_208 0 (by decide)
            have hx_212 : (v_117 10).toInt = Γ_207 (39, 0, 0) 10 := hv_208 10 (by decide)
            have hx_213 : (v_117 11).toInt = Γ_207 (39, 0, 0) 11 := hv_208 11 (by decide)
            have hx_214 : (v_117 12).toInt = Γ_207 (39, 0, 0) 12 := hv_208 12 (by decide)
            have hx_215 : z_206.toInt = Γ_207 (39, 0, 0) 13 := hv_208 13 (by decide)
            have hx_216 : (v_117 14).toInt = Γ_207 (39, 0, 0) 14 := hv_208 14 (by decide)
            have hx_217 : (v_117 15).toInt = Γ_207 (39, 0, 0) 15 := hv_208 15 (by decide)
            have hn1 : Γ_207 (61, 42, 0) (Γ_27 (39, 0, 0) 13).toNat = z_90.toInt := by rw [eΓ_207, tg_r (by decide)]; exact hk1
            have hn2 : ∀ j : Nat, ¬ j = (Γ_27 (39, 0, 0) 13).toNat → Γ_207 (61, 42, 0) j = Γ_27 (61, 42, 0) j := fun j q => by rw [eΓ_207, tg_r (by decide)]; exact hk2 j q
            obtain ⟨z_218, ez_218⟩ : ∃ y : Int32, y = v4 + 1 := ⟨_, rfl⟩
            refine lv_iinc (v := z_218) (lv' := [(4, .int z_218), (9, .int v9), (8, .int v8), (6, .long v6), (5, .int z_90), (3, .int z_1), (0, .ref o), (1, .int p0), (2, .int p1)]) hx hb dX12_bows_169 hl (k := 4) rfl (by rw [ez_218]; rfl) (by decide) rfl (fun ls hl => ?_)
            try have iz_218 : z_218.toInt = v4.toInt + 1 := by rw [ez_218]; exact tl_addL v4 1 (by decide) (by omega) (by omega)
            refine lv_goto (tgt := 13) hx hb dX12_bows_172 (by decide) ?_
            exact ih13 (f_209, Γ_207, z_218) H locs ls (by show (p1.toInt + 2 - z_218.toInt).toNat < (p1.toInt + 2 - v4.toInt).toNat; omega) ⟨(show 0 ≤ z_218.toInt ∧ z_218.toInt ≤ p1.toInt + 2 from (by omega)), (show 0 ≤ Γ_207 (39, 0, 0) 13 ∧ Γ_207 (39, 0, 0) 13 ≤ z_218.toInt from (by omega)), (show ∀ j : Nat, (j : Int) < Γ_207 (39, 0, 0) 13 → 0 ≤ Γ_207 (61, 42, 0) j ∧ Γ_207 (61, 42, 0) j ≤ 299 ∧ Γ_207 (61, 42, 0) j < atk (p1.toInt + 1) (z_218.toInt) from (fun j9 q9 => by have q7 := atk_lt (b := p1.toInt + 1) (k := v4.toInt) (k2 := z_218.toInt) (by omega) (by omega); by_cases q6 : j9 = (Γ_27 (39, 0, 0) 13).toNat; (rw [q6, hn1]; exact ⟨by omega, by omega, by omega⟩); (rw [hn2 j9 q6]; have q8 := hkb j9 (by omega); exact ⟨q8.1, q8.2.1, by omega⟩))), (show ∀ j : Nat, (j : Int) + 1 < Γ_207 (39, 0, 0) 13 → Γ_207 (61, 42, 0) j < Γ_207 (61, 42, 0) (j + 1) from (fun j9 q9 => by by_cases q6 : j9 + 1 = (Γ_27 (39, 0, 0) 13).toNat; (rw [q6, hn1, hn2 j9 (by omega)]; have q8 := hkb j9 (by omega); omega); (rw [hn2 j9 (by omega), hn2 (j9 + 1) q6]; exact hris j9 (by omega)))), (show 0 < Γ_207 (39, 0, 0) 13 → 0 < Γ (39, 0, 0) 10 from (fun q9 => by first | exact hpos (by omega) | omega)), (show Γ_207 (39, 0, 0) 0 = Γ (39, 0, 0) 0 from (by omega)), (show Γ_207 (39, 0, 0) 10 = Γ (39, 0, 0) 10 from (by omega)), (show Γ_207 (39, 0, 0) 11 = Γ (39, 0, 0) 11 from (by omega)), (show Γ_207 (39, 0, 0) 12 = Γ (39, 0, 0) 12 from (by omega)), (show Γ_207 (39, 0, 0) 14 = Γ (39, 0, 0) 14 from (by omega)), (show Γ_207 (39, 0, 0) 15 = Γ (39, 0, 0) 15 from (by omega)), hP, hI, hfr, hgr, hS, lv_sub hl [0, 5, 6, 7, 8] rfl⟩
          · have c_178 : v8.toInt = (0 : Int) := tl_eq c_178
            refine lv_goto (tgt := 169) hx hb dX12_bows_128 (by decide) ?_
            obtain ⟨z_219, ez_219⟩ : ∃ y : Int32, y = v4 + 1 := ⟨_, rfl⟩
            refine lv_iinc (v := z_219) (lv' := [(4, .int z_219), (9, .int v9), (8, .int v8), (6, .long v6), (5, .int z_90), (3, .int z_1), (0, .ref o), (1, .int p0), (2, .int p1)]) hx hb dX12_bows_169 hl (k := 4) rfl (by rw [ez_219]; rfl) (by decide) rfl (fun ls hl => ?_)
            try have iz_219 : z_219.toInt = v4.toInt + 1 := by rw [ez_219]; exact tl_addL v4 1 (by decide) (by omega) (by omega)
            refine lv_goto (tgt := 13) hx hb dX12_bows_172 (by decide) ?_
            exact ih13 (f_114, Γ_27, z_219) H locs ls (by show (p1.toInt + 2 - z_219.toInt).toNat < (p1.toInt + 2 - v4.toInt).toNat; omega) ⟨(show 0 ≤ z_219.toInt ∧ z_219.toInt ≤ p1.toInt + 2 from (by omega)), (show 0 ≤ Γ_27 (39, 0, 0) 13 ∧ Γ_27 (39, 0, 0) 13 ≤ z_219.toInt from (by omega)), (show ∀ j : Nat, (j : Int) < Γ_27 (39, 0, 0) 13 → 0 ≤ Γ_27 (61, 42, 0) j ∧ Γ_27 (61, 42, 0) j ≤ 299 ∧ Γ_27 (61, 42, 0) j < atk (p1.toInt + 1) (z_219.toInt) from (fun j9 q9 => by have q8 := hkb j9 q9; have q7 := atk_lt (b := p1.toInt + 1) (k := v4.toInt) (k2 := z_219.toInt) (by omega) (by omega); exact ⟨q8.1, q8.2.1, by omega⟩)), (show ∀ j : Nat, (j : Int) + 1 < Γ_27 (39, 0, 0) 13 → Γ_27 (61, 42, 0) j < Γ_27 (61, 42, 0) (j + 1) from hris), (show 0 < Γ_27 (39, 0, 0) 13 → 0 < Γ (39, 0, 0) 10 from (fun q9 => by first | exact hpos (by omega) | omega)), (show Γ_27 (39, 0, 0) 0 = Γ (39, 0, 0) 0 from (by omega)), (show Γ_27 (39, 0, 0) 10 = Γ (39, 0, 0) 10 from (by omega)), (show Γ_27 (39, 0, 0) 11 = Γ (39, 0, 0) 11 from (by omega)), (show Γ_27 (39, 0, 0) 12 = Γ (39, 0, 0) 12 from (by omega)), (show Γ_27 (39, 0, 0) 14 = Γ (39, 0, 0) 14 from (by omega)), (show Γ_27 (39, 0, 0) 15 = Γ (39, 0, 0) 15 from (by omega)), hP, hI, hfr, hgr, hS, lv_sub hl [0, 5, 6, 7, 8] rfl⟩
        · have c_177 : v9.toInt < (300 : Int) := tl_nle c_177
          refine lv_aload_n hx hb dX12_bows_88 rfl (lv_at hl 6 rfl) ?_
          refine tp_get (cy := cy) (ci := 12) (v := .ref (r_116 20)) (C := RX12) (T := TX12) (N := 49) hx hb hta inlX12 hown hK hP ho.1 hf_115 rfl 31 (by decide) (hta _ wk_170) (fun _ h9 => h9) rfl dX12_bows_89 ?_
          refine lv_iload hx hb dX12_bows_92 (lv_at hl 0 rfl) ?_
          obtain ⟨g_221, hf_220, hg_222⟩ := (show tp_gz cy (300) (Γ (60, 300, 0)) (f (r_116 20)) from hI0.at (show tp_r L K 60 300 0 (r_116 20) from hr_119 20 (by decide)))
          have hn_223 : vp_in v9 (300) := tl_in (by omega) (by omega)
          refine tp_zald (cy := cy) hx hb hK hP (show tp_r L K 60 300 0 (r_116 20) from hr_119 20 (by decide)).1 ((tp_un hfr (show tp_r L K 60 300 0 (r_116 20) from hr_119 20 (by decide)) (by decide)).trans hf_220) hn_223 dX12_bows_94 ?_
          refine lv_topi (fun z_224 ez_224 => ?_)
          have iz_224 : z_224.toInt = Γ (60, 300, 0) v9.toInt.toNat := by rw [ez_224]; exact hg_222 _ (tp_pin hn_223)
          refine lv_if_ne (tgt := 101) hx hb dX12_bows_95 (by decide) (fun c_225 => ?_) (fun c_225 => ?_)
          · have c_225 : ¬ z_224.toInt = (0 : Int) := tl_neq c_225
            have hup := hu v9.toInt.toNat (by omega) (by omega)
            refine lv_lload hx hb dX12_bows_101 (lv_at hl 2 rfl) ?_
            refine lv_aload_n hx hb dX12_bows_103 rfl (lv_at hl 6 rfl) ?_
            refine tp_get (cy := cy) (ci := 12) (v := .ref (r_116 19)) (C := RX12) (T := TX12) (N := 49) hx hb hta inlX12 hown hK hP ho.1 hf_115 rfl 30 (by decide) (hta _ wk_169) (fun _ h9 => h9) rfl dX12_bows_104 ?_
            refine lv_iload hx hb dX12_bows_107 (lv_at hl 0 rfl) ?_
            obtain ⟨g_227, hf_226, hg_228⟩ := (show tp_gi cy (300) (Γ (59, 300, 0)) (f (r_116 19)) from hI0.at (show tp_r L K 59 300 0 (r_116 19) from hr_119 19 (by decide)))
            have hn_229 : vp_in v9 (300) := tl_in (by omega) (by omega)
            refine tp_iald (cy := cy) hx hb hK hP (show tp_r L K 59 300 0 (r_116 19) from hr_119 19 (by decide)).1 ((tp_un hfr (show tp_r L K 59 300 0 (r_116 19) from hr_119 19 (by decide)) (by decide)).trans hf_226) hn_229 dX12_bows_109 ?_
            refine lv_topi (fun z_230 ez_230 => ?_)
            have iz_230 : z_230.toInt = Γ (59, 300, 0) v9.toInt.toNat := by rw [ez_230]; exact hg_228 _ (tp_pin hn_229)
            refine lv_i2l (v := z_230.toInt64) hx hb dX12_bows_110 (by first | rfl | decide) ?_
            refine lv_ladd hx hb dX12_bows_111 ?_
            refine lv_topl (fun z_231 ez_231 => ?_)
            refine lv_lstore (lv' := [(6, .long z_231), (9, .int v9), (8, .int v8), (5, .int z_90), (4, .int v4), (3, .int z_1), (0, .ref o), (1, .int p0), (2, .int p1)]) hx hb dX12_bows_112 hl (by decide) rfl (fun ls hl => ?_)
            obtain ⟨z_232, ez_232⟩ : ∃ y : Int32, y = v8 + 1 := ⟨_, rfl⟩
            refine lv_iinc (v := z_232) (lv' := [(8, .int z_232), (6, .long z_231), (9, .int v9), (5, .int z_90), (4, .int v4), (3, .int z_1), (0, .ref o), (1, .int p0), (2, .int p1)]) hx hb dX12_bows_114 hl (k := 2) rfl (by rw [ez_232]; rfl) (by decide) rfl (fun ls hl => ?_)
            try have iz_232 : z_232.toInt = v8.toInt + 1 := by rw [ez_232]; exact tl_addL v8 1 (by decide) (by omega) (by omega)
            obtain ⟨z_233, ez_233⟩ : ∃ y : Int32, y = v9 + 1 := ⟨_, rfl⟩
            refine lv_iinc (v := z_233) (lv' := [(9, .int z_233), (8, .int z_232), (6, .long z_231), (5, .int z_90), (4, .int v4), (3, .int z_1), (0, .ref o), (1, .int p0), (2, .int p1)]) hx hb dX12_bows_117 hl (k := 2) rfl (by rw [ez_233]; rfl) (by decide) rfl (fun ls hl => ?_)
            try have iz_233 : z_233.toInt = v9.toInt + 1 := by rw [ez_233]; exact tl_addL v9 1 (by decide) (by omega) (by omega)
            refine lv_goto (tgt := 66) hx hb dX12_bows_120 (by decide) ?_
            exact ih66 (f_114, z_233, z_232, z_231) H locs ls (by show (300 - z_233.toInt).toNat < (300 - v9.toInt).toNat; omega) ⟨(show 0 ≤ z_233.toInt ∧ z_233.toInt ≤ 300 from (by omega)), (show 0 ≤ z_232.toInt ∧ z_232.toInt ≤ z_233.toInt ∧ (0 < z_232.toInt → 0 < Γ (39, 0, 0) 10) from (by omega)), hP, hI, hfr, hS, lv_sub hl [0, 1, 2, 3, 4, 5, 6, 7, 8] rfl⟩
          · have c_225 : z_224.toInt = (0 : Int) := tl_eq c_225
            refine lv_goto (tgt := 117) hx hb dX12_bows_98 (by decide) ?_
            obtain ⟨z_234, ez_234⟩ : ∃ y : Int32, y = v9 + 1 := ⟨_, rfl⟩
            refine lv_iinc (v := z_234) (lv' := [(9, .int z_234), (8, .int v8), (6, .long v6), (5, .int z_90), (4, .int v4), (3, .int z_1), (0, .ref o), (1, .int p0), (2, .int p1)]) hx hb dX12_bows_117 hl (k := 0) rfl (by rw [ez_234]; rfl) (by decide) rfl (fun ls hl => ?_)
            try have iz_234 : z_234.toInt = v9.toInt + 1 := by rw [ez_234]; exact tl_addL v9 1 (by decide) (by omega) (by omega)
            refine lv_goto (tgt := 66) hx hb dX12_bows_120 (by decide) ?_
            exact ih66 (f_114, z_234, v8, v6) H locs ls (by show (300 - z_234.toInt).toNat < (300 - v9.toInt).toNat; omega) ⟨(show 0 ≤ z_234.toInt ∧ z_234.toInt ≤ 300 from (by omega)), (show 0 ≤ v8.toInt ∧ v8.toInt ≤ z_234.toInt ∧ (0 < v8.toInt → 0 < Γ (39, 0, 0) 10) from (by omega)), hP, hI, hfr, hS, lv_sub hl [0, 1, 2, 3, 4, 5, 6, 7, 8] rfl⟩
    · have c_110 : z_109.toInt < (0 : Int) := tl_nle c_110
      refine lv_iconst (v := 0) hx hb dX12_bows_51 (by decide) ?_
      refine lv_goto (tgt := 64) hx hb dX12_bows_52 (by decide) ?_
      refine lv_istore (lv' := [(9, .int 0), (8, .int 0), (6, .long 0), (5, .int z_90), (4, .int v4), (3, .int z_1), (0, .ref o), (1, .int p0), (2, .int p1)]) hx hb dX12_bows_64 hl (by decide) rfl (fun ls hl => ?_)
      refine tl_ind (G := fun H locs ls => W p l e ((headSpec (tl_w yX12_bows cX12_bows 10 (some .boolean)) ({ frames := 2, cells := 0, slots := 0, locals := 47 })).room) s m #[.ref o, .int p0, .int p1] below meth c H locs 0 0 (MQ below (va_Qi (fun (r : Int32) (u : (Nat → va_E) × tk_G) => tl_E r (0 < u.2 (39, 0, 0) 13) 1 0 ∧ (0 ≤ u.2 (39, 0, 0) 13 ∧ u.2 (39, 0, 0) 13 ≤ 42) ∧ (0 < u.2 (39, 0, 0) 13 → 0 < Γ (39, 0, 0) 10) ∧ u.2 (39, 0, 0) 0 = Γ (39, 0, 0) 0 ∧ u.2 (39, 0, 0) 10 = Γ (39, 0, 0) 10 ∧ u.2 (39, 0, 0) 11 = Γ (39, 0, 0) 11 ∧ u.2 (39, 0, 0) 12 = Γ (39, 0, 0) 12 ∧ u.2 (39, 0, 0) 14 = Γ (39, 0, 0) 14 ∧ u.2 (39, 0, 0) 15 = Γ (39, 0, 0) 15 ∧ (∀ j : Nat, (j : Int) < u.2 (39, 0, 0) 13 → 0 ≤ u.2 (61, 42, 0) j ∧ u.2 (61, 42, 0) j ≤ 299) ∧ (∀ j : Nat, (j : Int) + 1 < u.2 (39, 0, 0) 13 → u.2 (61, 42, 0) j < u.2 (61, 42, 0) (j + 1))) (tp_BG D cy L K Γ f [39, 61, 62, 63]) A) #[.ref o, .int p0, .int p1] s 0 0 A) (F0 m 66 ls [])) (α := (Nat → va_E) × Int32 × Int32 × Int64) (fun aq => (300 - aq.2.1.toInt).toNat) (fun aq H locs ls => (0 ≤ aq.2.1.toInt ∧ aq.2.1.toInt ≤ 300) ∧ (0 ≤ aq.2.2.1.toInt ∧ aq.2.2.1.toInt ≤ aq.2.1.toInt ∧ (0 < aq.2.2.1.toInt → 0 < Γ (39, 0, 0) 10)) ∧ va_P D vwCl (va_pl L aq.1) H ∧ tp_I cy L K Γ_27 aq.1 ∧ (∀ b, (K b).1 ∉ ([39, 61, 62, 63] : List Nat) → aq.1 b = f b) ∧ va_S A s.heap H locs ∧ lv_has ls 10 [(9, .int aq.2.1), (8, .int aq.2.2.1), (6, .long aq.2.2.2), (5, .int z_90), (4, .int v4), (3, .int z_1), (0, .ref o), (1, .int p0), (2, .int p1)]) ?_ (f_26, (0 : Int32), (0 : Int32), (0 : Int64)) H locs ls ⟨(show 0 ≤ (0 : Int) ∧ (0 : Int) ≤ 300 from (by omega)), (show 0 ≤ (0 : Int) ∧ (0 : Int) ≤ (0 : Int) ∧ (0 < (0 : Int) → 0 < Γ (39, 0, 0) 10) from (by omega)), hP, hI, hfr, hS, lv_sub hl [0, 1, 2, 3, 4, 5, 6, 7, 8] rfl⟩
      rintro ⟨f_235, v9, v8, v6⟩ H locs ls ⟨h9, h8, hP, hI, hfr, hS, hl⟩ ih66
      have hP : va_P D vwCl (va_pl L f_235) H := hP
      have hI : tp_I cy L K Γ_27 f_235 := hI
      have hfr : ∀ b, (K b).1 ∉ ([39, 61, 62, 63] : List Nat) → f_235 b = f b := hfr
      have hD : va_D A (va_pl L f_235) := tp_D hL hAL
      have h9 : 0 ≤ v9.toInt ∧ v9.toInt ≤ 300 := h9
      have h8 : 0 ≤ v8.toInt ∧ v8.toInt ≤ v9.toInt ∧ (0 < v8.toInt → 0 < Γ (39, 0, 0) 10) := h8
      have hl : lv_has ls 10 [(9, .int v9), (8, .int v8), (6, .long v6), (5, .int z_90), (4, .int v4), (3, .int z_1), (0, .ref o), (1, .int p0), (2, .int p1)] := hl
      refine lv_iload hx hb dX12_bows_66 (lv_at hl 0 rfl) ?_
      refine lv_iload hx hb dX12_bows_68 (lv_at hl 3 rfl) ?_
      refine lv_aload_n hx hb dX12_bows_70 rfl (lv_at hl 6 rfl) ?_
      obtain ⟨r_237, v_238, q_239, hf_236, hr_240, hv_241⟩ := (show tp_o_M L K 0 0 (Γ_27 (39, 0, 0)) (f_235 o) from hI.at ho)
      have hx_242 : (v_238 0).toInt = Γ_27 (39, 0, 0) 0 := hv_241 0 (by decide)
      have hx_243 : (v_238 10).toInt = Γ_27 (39, 0, 0) 10 := hv_241 10 (by decide)
      have hx_244 : (v_238 11).toInt = Γ_27 (39, 0, 0) 11 := hv_241 11 (by decide)
      have hx_245 : (v_238 12).toInt = Γ_27 (39, 0, 0) 12 := hv_241 12 (by decide)
      have hx_246 : (v_238 13).toInt = Γ_27 (39, 0, 0) 13 := hv_241 13 (by decide)
      have hx_247 : (v_238 14).toInt = Γ_27 (39, 0, 0) 14 := hv_241 14 (by decide)
      have hx_248 : (v_238 15).toInt = Γ_27 (39, 0, 0) 15 := hv_241 15 (by decide)
      refine tp_get (cy := cy) (ci := 12) (v := .ref (r_237 15)) (C := RX12) (T := TX12) (N := 49) hx hb hta inlX12 hown hK hP ho.1 hf_236 rfl 16 (by decide) (hta _ wk_165) (fun _ h9 => h9) rfl dX12_bows_71 ?_
      refine lv_iload_n hx hb dX12_bows_74 rfl (lv_at hl 5 rfl) ?_
      obtain ⟨g_250, hf_249, hg_251⟩ := (show tp_gi cy (22) (Γ (51, 22, 0)) (f (r_237 15)) from hI0.at (show tp_r L K 51 22 0 (r_237 15) from hr_240 15 (by decide)))
      have hn_252 : vp_in z_1 (22) := tl_in (by omega) (by omega)
      refine tp_iald (cy := cy) hx hb hK hP (show tp_r L K 51 22 0 (r_237 15) from hr_240 15 (by decide)).1 ((tp_un hfr (show tp_r L K 51 22 0 (r_237 15) from hr_240 15 (by decide)) (by decide)).trans hf_249) hn_252 dX12_bows_75 ?_
      refine lv_topi (fun z_253 ez_253 => ?_)
      have iz_253 : z_253.toInt = Γ (51, 22, 0) z_1.toInt.toNat := by rw [ez_253]; exact hg_251 _ (tp_pin hn_252)
      have hwlz_253 : z_253.toInt = Γ (51, 22, 0) t1.toNat := iz_253.trans (congrArg _ (by omega))
      refine lv_iadd hx hb dX12_bows_76 ?_
      refine lv_topi (fun z_254 ez_254 => ?_)
      try have iz_254 : z_254.toInt = z_90.toInt + z_253.toInt := by rw [ez_254]; exact tl_addN z_90 z_253 rfl rfl (by omega) (by omega)
      refine lv_icmp_gt (tgt := 123) hx hb dX12_bows_77 (by decide) (fun c_255 => ?_) (fun c_255 => ?_)
      · have c_255 : z_254.toInt < v9.toInt := tl_lt c_255
        refine lv_iload hx hb dX12_bows_123 (lv_at hl 1 rfl) ?_
        refine lv_if_ne (tgt := 131) hx hb dX12_bows_125 (by decide) (fun c_256 => ?_) (fun c_256 => ?_)
        · have c_256 : ¬ v8.toInt = (0 : Int) := tl_neq c_256
          refine lv_aload_n hx hb dX12_bows_131 rfl (lv_at hl 6 rfl) ?_
          refine tp_get (cy := cy) (ci := 12) (v := .ref (r_237 21)) (C := RX12) (T := TX12) (N := 49) hx hb hta inlX12 hown hK hP ho.1 hf_236 rfl 35 (by decide) (hta _ wk_171) (fun _ h9 => h9) rfl dX12_bows_132 ?_
          refine lv_aload_n hx hb dX12_bows_135 rfl (lv_at hl 6 rfl) ?_
          refine tp_get (cy := cy) (ci := 12) (v := .int (v_238 13)) (C := RX12) (T := TX12) (N := 49) hx hb hta inlX12 hown hK hP ho.1 hf_236 rfl 37 (by decide) (hta _ wk_903) (fun _ h9 => h9) rfl dX12_bows_136 ?_
          refine lv_iload hx hb dX12_bows_139 (lv_at hl 3 rfl) ?_
          obtain ⟨g_258, hf_257, hg_259⟩ := (show tp_gi cy (42) (Γ_27 (61, 42, 0)) (f_235 (r_237 21)) from hI.at (show tp_r L K 61 42 0 (r_237 21) from hr_240 21 (by decide)))
          have hn_260 : vp_in (v_238 13) (42) := tl_in (by omega) (by omega)
          have hj_261 : (v_238 13).toNatClampNeg = (Γ_27 (39, 0, 0) 13).toNat := by show (v_238 13).toInt.toNat = _; omega
          have hv_262 : z_90.toInt = z_90.toInt := rfl
          obtain ⟨Γ_263, eΓ_263⟩ : ∃ y : tk_G, y = tg Γ_27 (61, 42, 0) ((Γ_27 (39, 0, 0) 13).toNat) z_90.toInt := ⟨_, rfl⟩
          have hI9 : tp_I cy L K Γ_263 (va_up f_235 (r_237 21) (.inl (cy 0, 42, .inl (upd g_258 (v_238 13).toNatClampNeg z_90)))) := by have q9 : tg Γ_27 (61, 42, 0) ((Γ_27 (39, 0, 0) 13).toNat) z_90.toInt = tg Γ_27 (61, 42, 0) (v_238 13).toNatClampNeg z_90.toInt := (by rw [hj_261, hv_262]); rw [eΓ_263, q9]; exact hI.setg hU rfl (show tp_r L K 61 42 0 (r_237 21) from hr_240 21 (by decide)) (show tp_gi cy (42) (tgu (Γ_27 (61, 42, 0)) _ _) _ from ⟨_, rfl, tp_gi_upd hg_259⟩)
          have hfr9 : ∀ b, (K b).1 ∉ ([39, 61, 62, 63] : List Nat) → va_up f_235 (r_237 21) (.inl (cy 0, 42, .inl (upd g_258 (v_238 13).toNatClampNeg z_90))) b = f b := tp_fr hfr (show tp_r L K 61 42 0 (r_237 21) from hr_240 21 (by decide)) (by decide)
          refine tp_iast (cy := cy) hx hb hK hP hD hS (show tp_r L K 61 42 0 (r_237 21) from hr_240 21 (by decide)).1 hf_257 hn_260 dX12_bows_141 (fun H locs hP hD hS => ?_)
          have hP : va_P D vwCl (va_pl L (va_up f_235 (r_237 21) (.inl (cy 0, 42, .inl (upd g_258 (v_238 13).toNatClampNeg z_90))))) H := hP
          generalize hfe : va_up f_235 (r_237 21) (.inl (cy 0, 42, .inl (upd g_258 (v_238 13).toNatClampNeg z_90))) = f_264 at hP hI9 hfr9
          have hD : va_D A (va_pl L f_264) := tp_D hL hAL
          have hf_265 := (show f_264 o = _ from by rw [← hfe, va_up_ne _ _ (tp_ne ho (show tp_r L K 61 42 0 (r_237 21) from hr_240 21 (by decide)) (by decide))]).trans hf_236
          have hf_266 : f_264 (r_237 21) = .inl (cy 0, 42, .inl (upd g_258 (v_238 13).toNatClampNeg z_90)) := by rw [← hfe]; exact va_up_self _ _ _
          clear hfe
          have hI := hI9
          have hfr := hfr9
          clear hI9 hfr9
          have wsΓ_263 : Γ_263 (61, 42, 0) ((Γ_27 (39, 0, 0) 13).toNat) = z_90.toInt := by rw [eΓ_263]; exact tg_s
          have hgr : ∀ κ : tk_K, κ.1 ∉ ([39, 61, 62, 63] : List Nat) → Γ_263 κ = Γ κ := tg_fr hgr eΓ_263 (by decide)
          have hv_267 : ∀ i : Nat, i < 16 → (v_238 i).toInt = Γ_263 (39, 0, 0) i := fun i hi => by rw [eΓ_263, tg_r (by decide)]; exact hv_241 i hi
          have hx_268 : (v_238 0).toInt = Γ_263 (39, 0, 0) 0 := hv_267 0 (by decide)
          have hx_269 : (v_238 10).toInt = Γ_263 (39, 0, 0) 10 := hv_267 10 (by decide)
          have hx_270 : (v_238 11).toInt = Γ_263 (39, 0, 0) 11 := hv_267 11 (by decide)
          have hx_271 : (v_238 12).toInt = Γ_263 (39, 0, 0) 12 := hv_267 12 (by decide)
          have hx_272 : (v_238 13).toInt = Γ_263 (39, 0, 0) 13 := hv_267 13 (by decide)
          have hx_273 : (v_238 14).toInt = Γ_263 (39, 0, 0) 14 := hv_267 14 (by decide)
          have hx_274 : (v_238 15).toInt = Γ_263 (39, 0, 0) 15 := hv_267 15 (by decide)
          have hk1 : Γ_263 (61, 42, 0) (Γ_27 (39, 0, 0) 13).toNat = z_90.toInt := by rw [eΓ_263]; exact tg_s
          have hk2 : ∀ j : Nat, ¬ j = (Γ_27 (39, 0, 0) 13).toNat → Γ_263 (61, 42, 0) j = Γ_27 (61, 42, 0) j := fun j q => by rw [eΓ_263, tg_i q]
          refine lv_aload_n hx hb dX12_bows_142 rfl (lv_at hl 6 rfl) ?_
          refine tp_get (cy := cy) (ci := 12) (v := .ref (r_237 22)) (C := RX12) (T := TX12) (N := 49) hx hb hta inlX12 hown hK hP ho.1 hf_265 rfl 36 (by decide) (hta _ wk_172) (fun _ h9 => h9) rfl dX12_bows_143 ?_
          refine lv_aload_n hx hb dX12_bows_146 rfl (lv_at hl 6 rfl) ?_
          refine tp_get (cy := cy) (ci := 12) (v := .int (v_238 13)) (C := RX12) (T := TX12) (N := 49) hx hb hta inlX12 hown hK hP ho.1 hf_265 rfl 37 (by decide) (hta _ wk_903) (fun _ h9 => h9) rfl dX12_bows_147 ?_
          refine lv_lload hx hb dX12_bows_150 (lv_at hl 2 rfl) ?_
          refine lv_iload hx hb dX12_bows_152 (lv_at hl 1 rfl) ?_
          refine lv_i2l (v := v8.toInt64) hx hb dX12_bows_154 (by first | rfl | decide) ?_
          refine tl_sl (tq_rS (As := [.long v6, .long v8.toInt64]) (rest := [.int (v_238 13), .ref (r_237 22)]) ⟨hx, hb, hml, hown, hta⟩ (tp_P.pre hK hN hL hU hI hP) lk_X12_401 (r_X12_down l D cy H.size L K Γ_263 f_264 v6 v8.toInt64 (by first | omega | (simp only [Int32.toInt_toInt64]; omega) | decide | assumption)) rfl rfl ⟨Nat.le_of_ble_eq_true rfl, Nat.le_of_ble_eq_true rfl⟩ rfl hl.1 rfl (Nat.le_of_ble_eq_true rfl) dX12_bows_155 ⟨Nat.le_of_ble_eq_true rfl, Nat.le_of_ble_eq_true rfl⟩) (fun r_276 hw_275 => ?_)
          obtain ⟨g_278, hf_277⟩ := (show tp_aj cy (42) (f_264 (r_237 22)) from hI.at (show tp_r L K 62 42 0 (r_237 22) from hr_240 22 (by decide)))
          have hn_280 : vp_in (v_238 13) (42) := tl_in (by omega) (by omega)
          have hI9 : tp_I cy L K Γ_263 (va_up f_264 (r_237 22) (.inl (cy 1, 42, .inr (.inl (vp_updL g_278 (v_238 13).toNatClampNeg r_276))))) := hI.set (show tp_r L K 62 42 0 (r_237 22) from hr_240 22 (by decide)) (show tp_aj cy (42) _ from ⟨_, rfl⟩)
          have hfr9 : ∀ b, (K b).1 ∉ ([39, 61, 62, 63] : List Nat) → va_up f_264 (r_237 22) (.inl (cy 1, 42, .inr (.inl (vp_updL g_278 (v_238 13).toNatClampNeg r_276)))) b = f b := tp_fr hfr (show tp_r L K 62 42 0 (r_237 22) from hr_240 22 (by decide)) (by decide)
          refine tp_last (cy := cy) hx hb hK hP hD hS (show tp_r L K 62 42 0 (r_237 22) from hr_240 22 (by decide)).1 hf_277 hn_280 dX12_bows_158 (fun H locs hP hD hS => ?_)
          have hP : va_P D vwCl (va_pl L (va_up f_264 (r_237 22) (.inl (cy 1, 42, .inr (.inl (vp_updL g_278 (v_238 13).toNatClampNeg r_276)))))) H := hP
          generalize hfe : va_up f_264 (r_237 22) (.inl (cy 1, 42, .inr (.inl (vp_updL g_278 (v_238 13).toNatClampNeg r_276)))) = f_281 at hP hI9 hfr9
          have hD : va_D A (va_pl L f_281) := tp_D hL hAL
          have hf_282 := (show f_281 o = _ from by rw [← hfe, va_up_ne _ _ (tp_ne ho (show tp_r L K 62 42 0 (r_237 22) from hr_240 22 (by decide)) (by decide))]).trans hf_265
          have hf_283 : f_281 (r_237 22) = .inl (cy 1, 42, .inr (.inl (vp_updL g_278 (v_238 13).toNatClampNeg r_276))) := by rw [← hfe]; exact va_up_self _ _ _
          clear hfe
          have hI := hI9
          have hfr := hfr9
          clear hI9 hfr9
          refine lv_aload_n hx hb dX12_bows_159 rfl (lv_at hl 6 rfl) ?_
          refine lv_dup hx hb dX12_bows_160 rfl ?_
          refine tp_get (cy := cy) (ci := 12) (v := .int (v_238 13)) (C := RX12) (T := TX12) (N := 49) hx hb hta inlX12 hown hK hP ho.1 hf_282 rfl 37 (by decide) (hta _ wk_903) (fun _ h9 => h9) rfl dX12_bows_161 ?_
          refine lv_iconst (v := 1) hx hb dX12_bows_164 (by decide) ?_
          refine lv_iadd hx hb dX12_bows_165 ?_
          refine lv_topi (fun z_284 ez_284 => ?_)
          try have iz_284 : z_284.toInt = (v_238 13).toInt + (1 : Int) := by rw [ez_284]; exact tl_addN (v_238 13) 1 rfl rfl (by omega) (by omega)
          obtain ⟨Γ_285, eΓ_285⟩ : ∃ y : tk_G, y = tg Γ_263 (39, 0, 0) 13 z_284.toInt := ⟨_, rfl⟩
          have hv_286 : ∀ i : Nat, i < 16 → ((upd v_238 13 z_284) i).toInt = Γ_285 (39, 0, 0) i := by rw [eΓ_285, tg_f]; exact tp_gi_upd hv_267
          have hI9 : tp_I cy L K Γ_285 (va_up f_281 o (.inr (12, [.ref (r_237 0), .ref (r_237 1), .int (v_238 0), .ref (r_237 2), .ref (r_237 3), .ref (r_237 4), .ref (r_237 5), .ref (r_237 6), .ref (r_237 7), .ref (r_237 8), .ref (r_237 9), .ref (r_237 10), .ref (r_237 11), .ref (r_237 12), .ref (r_237 13), .ref (r_237 14), .ref (r_237 15), .int (v_238 1), .int (v_238 2), .int (v_238 3), .int (v_238 4), .int (v_238 5), .int (v_238 6), .int (v_238 7), .ref (r_237 16), .int (v_238 8), .ref (r_237 17), .int (v_238 9), .ref (r_237 18), .long q_239, .ref (r_237 19), .ref (r_237 20), .int (v_238 10), .int (v_238 11), .int (v_238 12), .ref (r_237 21), .ref (r_237 22), .int z_284, .ref (r_237 23), .int (v_238 14), .int (v_238 15), .ref (r_237 24), .ref (r_237 25), .ref (r_237 26), .ref (r_237 27), .ref (r_237 28), .ref (r_237 29), .ref (r_237 30), .ref (r_237 31)]))) := by have q9 := hv_286; rw [eΓ_285, tg_f] at q9; rw [eΓ_285]; exact hI.setg hU rfl ho (show tp_o_M L K 0 0 (tgu (Γ_263 (39, 0, 0)) 13 z_284.toInt) _ from ⟨r_237, (upd v_238 13 z_284), q_239, rfl, hr_240, q9⟩)
          have hfr9 : ∀ b, (K b).1 ∉ ([39, 61, 62, 63] : List Nat) → va_up f_281 o (.inr (12, [.ref (r_237 0), .ref (r_237 1), .int (v_238 0), .ref (r_237 2), .ref (r_237 3), .ref (r_237 4), .ref (r_237 5), .ref (r_237 6), .ref (r_237 7), .ref (r_237 8), .ref (r_237 9), .ref (r_237 10), .ref (r_237 11), .ref (r_237 12), .ref (r_237 13), .ref (r_237 14), .ref (r_237 15), .int (v_238 1), .int (v_238 2), .int (v_238 3), .int (v_238 4), .int (v_238 5), .int (v_238 6), .int (v_238 7), .ref (r_237 16), .int (v_238 8), .ref (r_237 17), .int (v_238 9), .ref (r_237 18), .long q_239, .ref (r_237 19), .ref (r_237 20), .int (v_238 10), .int (v_238 11), .int (v_238 12), .ref (r_237 21), .ref (r_237 22), .int z_284, .ref (r_237 23), .int (v_238 14), .int (v_238 15), .ref (r_237 24), .ref (r_237 25), .ref (r_237 26), .ref (r_237 27), .ref (r_237 28), .ref (r_237 29), .ref (r_237 30), .ref (r_237 31)])) b = f b := tp_fr hfr ho (by decide)
          refine tp_put (cy := cy) (ci := 12) (v := .int z_284) (ty := tyX12 37) (C := RX12) (T := TX12) (N := 49) hx hb hta inlX12 tyX12 tyX12_ok nmX12 hown hK hP hD hS ho.1 hf_282 rfl 37 (by decide) (hta _ wk_903) (fun _ h9 => h9) rfl (tyX12_ok 37 (by decide)) rfl rfl (Nat.le_of_ble_eq_true rfl) dX12_bows_166 (fun H locs hP hD hS => ?_)
          have hP : va_P D vwCl (va_pl L (va_up f_281 o (.inr (12, [.ref (r_237 0), .ref (r_237 1), .int (v_238 0), .ref (r_237 2), .ref (r_237 3), .ref (r_237 4), .ref (r_237 5), .ref (r_237 6), .ref (r_237 7), .ref (r_237 8), .ref (r_237 9), .ref (r_237 10), .ref (r_237 11), .ref (r_237 12), .ref (r_237 13), .ref (r_237 14), .ref (r_237 15), .int (v_238 1), .int (v_238 2), .int (v_238 3), .int (v_238 4), .int (v_238 5), .int (v_238 6), .int (v_238 7), .ref (r_237 16), .int (v_238 8), .ref (r_237 17), .int (v_238 9), .ref (r_237 18), .long q_239, .ref (r_237 19), .ref (r_237 20), .int (v_238 10), .int (v_238 11), .int (v_238 12), .ref (r_237 21), .ref (r_237 22), .int z_284, .ref (r_237 23), .int (v_238 14), .int (v_238 15), .ref (r_237 24), .ref (r_237 25), .ref (r_237 26), .ref (r_237 27), .ref (r_237 28), .ref (r_237 29), .ref (r_237 30), .ref (r_237 31)])))) H := hP
          generalize hfe : va_up f_281 o (.inr (12, [.ref (r_237 0), .ref (r_237 1), .int (v_238 0), .ref (r_237 2), .ref (r_237 3), .ref (r_237 4), .ref (r_237 5), .ref (r_237 6), .ref (r_237 7), .ref (r_237 8), .ref (r_237 9), .ref (r_237 10), .ref (r_237 11), .ref (r_237 12), .ref (r_237 13), .ref (r_237 14), .ref (r_237 15), .int (v_238 1), .int (v_238 2), .int (v_238 3), .int (v_238 4), .int (v_238 5), .int (v_238 6), .int (v_238 7), .ref (r_237 16), .int (v_238 8), .ref (r_237 17), .int (v_238 9), .ref (r_237 18), .long q_239, .ref (r_237 19), .ref (r_237 20), .int (v_238 10), .int (v_238 11), .int (v_238 12), .ref (r_237 21), .ref (r_237 22), .int z_284, .ref (r_237 23), .int (v_238 14), .int (v_238 15), .ref (r_237 24), .ref (r_237 25), .ref (r_237 26), .ref (r_237 27), .ref (r_237 28), .ref (r_237 29), .ref (r_237 30), .ref (r_237 31)])) = f_287 at hP hI9 hfr9
          have hD : va_D A (va_pl L f_287) := tp_D hL hAL
          have hf_288 : f_287 o = .inr (12, [.ref (r_237 0), .ref (r_237 1), .int (v_238 0), .ref (r_237 2), .ref (r_237 3), .ref (r_237 4), .ref (r_237 5), .ref (r_237 6), .ref (r_237 7), .ref (r_237 8), .ref (r_237 9), .ref (r_237 10), .ref (r_237 11), .ref (r_237 12), .ref (r_237 13), .ref (r_237 14), .ref (r_237 15), .int (v_238 1), .int (v_238 2), .int (v_238 3), .int (v_238 4), .int (v_238 5), .int (v_238 6), .int (v_238 7), .ref (r_237 16), .int (v_238 8), .ref (r_237 17), .int (v_238 9), .ref (r_237 18), .long q_239, .ref (r_237 19), .ref (r_237 20), .int (v_238 10), .int (v_238 11), .int (v_238 12), .ref (r_237 21), .ref (r_237 22), .int z_284, .ref (r_237 23), .int (v_238 14), .int (v_238 15), .ref (r_237 24), .ref (r_237 25), .ref (r_237 26), .ref (r_237 27), .ref (r_237 28), .ref (r_237 29), .ref (r_237 30), .ref (r_237 31)]) := by rw [← hfe]; exact va_up_self _ _ _
          clear hfe
          have hI := hI9
          have hfr := hfr9
          clear hI9 hfr9
          have hgr : ∀ κ : tk_K, κ.1 ∉ ([39, 61, 62, 63] : List Nat) → Γ_285 κ = Γ κ := tg_fr hgr eΓ_285 (by decide)
          have hx_289 : (v_238 0).toInt = Γ_285 (39, 0, 0) 0 := hv_286 0 (by decide)
          have hx_290 : (v_238 10).toInt = Γ_285 (39, 0, 0) 10 := hv_286 10 (by decide)
          have hx_291 : (v_238 11).toInt = Γ_285 (39, 0, 0) 11 := hv_286 11 (by decide)
          have hx_292 : (v_238 12).toInt = Γ_285 (39, 0, 0) 12 := hv_286 12 (by decide)
          have hx_293 : z_284.toInt = Γ_285 (39, 0, 0) 13 := hv_286 13 (by decide)
          have hx_294 : (v_238 14).toInt = Γ_285 (39, 0, 0) 14 := hv_286 14 (by decide)
          have hx_295 : (v_238 15).toInt = Γ_285 (39, 0, 0) 15 := hv_286 15 (by decide)
          have hn1 : Γ_285 (61, 42, 0) (Γ_27 (39, 0, 0) 13).toNat = z_90.toInt := by rw [eΓ_285, tg_r (by decide)]; exact hk1
          have hn2 : ∀ j : Nat, ¬ j = (Γ_27 (39, 0, 0) 13).toNat → Γ_285 (61, 42, 0) j = Γ_27 (61, 42, 0) j := fun j q => by rw [eΓ_285, tg_r (by decide)]; exact hk2 j q
          obtain ⟨z_296, ez_296⟩ : ∃ y : Int32, y = v4 + 1 := ⟨_, rfl⟩
          refine lv_iinc (v := z_296) (lv' := [(4, .int z_296), (9, .int v9), (8, .int v8), (6, .long v6), (5, .int z_90), (3, .int z_1), (0, .ref o), (1, .int p0), (2, .int p1)]) hx hb dX12_bows_169 hl (k := 4) rfl (by rw [ez_296]; rfl) (by decide) rfl (fun ls hl => ?_)
          try have iz_296 : z_296.toInt = v4.toInt + 1 := by rw [ez_296]; exact tl_addL v4 1 (by decide) (by omega) (by omega)
          refine lv_goto (tgt := 13) hx hb dX12_bows_172 (by decide) ?_
          exact ih13 (f_287, Γ_285, z_296) H locs ls (by show (p1.toInt + 2 - z_296.toInt).toNat < (p1.toInt + 2 - v4.toInt).toNat; omega) ⟨(show 0 ≤ z_296.toInt ∧ z_296.toInt ≤ p1.toInt + 2 from (by omega)), (show 0 ≤ Γ_285 (39, 0, 0) 13 ∧ Γ_285 (39, 0, 0) 13 ≤ z_296.toInt from (by omega)), (show ∀ j : Nat, (j : Int) < Γ_285 (39, 0, 0) 13 → 0 ≤ Γ_285 (61, 42, 0) j ∧ Γ_285 (61, 42, 0) j ≤ 299 ∧ Γ_285 (61, 42, 0) j < atk (p1.toInt + 1) (z_296.toInt) from (fun j9 q9 => by have q7 := atk_lt (b := p1.toInt + 1) (k := v4.toInt) (k2 := z_296.toInt) (by omega) (by omega); by_cases q6 : j9 = (Γ_27 (39, 0, 0) 13).toNat; (rw [q6, hn1]; exact ⟨by omega, by omega, by omega⟩); (rw [hn2 j9 q6]; have q8 := hkb j9 (by omega); exact ⟨q8.1, q8.2.1, by omega⟩))), (show ∀ j : Nat, (j : Int) + 1 < Γ_285 (39, 0, 0) 13 → Γ_285 (61, 42, 0) j < Γ_285 (61, 42, 0) (j + 1) from (fun j9 q9 => by by_cases q6 : j9 + 1 = (Γ_27 (39, 0, 0) 13).toNat; (rw [q6, hn1, hn2 j9 (by omega)]; have q8 := hkb j9 (by omega); omega); (rw [hn2 j9 (by omega), hn2 (j9 + 1) q6]; exact hris j9 (by omega)))), (show 0 < Γ_285 (39, 0, 0) 13 → 0 < Γ (39, 0, 0) 10 from (fun q9 => by first | exact hpos (by omega) | omega)), (show Γ_285 (39, 0, 0) 0 = Γ (39, 0, 0) 0 from (by omega)), (show Γ_285 (39, 0, 0) 10 = Γ (39, 0, 0) 10 from (by omega)), (show Γ_285 (39, 0, 0) 11 = Γ (39, 0, 0) 11 from (by omega)), (show Γ_285 (39, 0, 0) 12 = Γ (39, 0, 0) 12 from (by omega)), (show Γ_285 (39, 0, 0) 14 = Γ (39, 0, 0) 14 from (by omega)), (show Γ_285 (39, 0, 0) 15 = Γ (39, 0, 0) 15 from (by omega)), hP, hI, hfr, hgr, hS, lv_sub hl [0, 5, 6, 7, 8] rfl⟩
        · have c_256 : v8.toInt = (0 : Int) := tl_eq c_256
          refine lv_goto (tgt := 169) hx hb dX12_bows_128 (by decide) ?_
          obtain ⟨z_297, ez_297⟩ : ∃ y : Int32, y = v4 + 1 := ⟨_, rfl⟩
          refine lv_iinc (v := z_297) (lv' := [(4, .int z_297), (9, .int v9), (8, .int v8), (6, .long v6), (5, .int z_90), (3, .int z_1), (0, .ref o), (1, .int p0), (2, .int p1)]) hx hb dX12_bows_169 hl (k := 4) rfl (by rw [ez_297]; rfl) (by decide) rfl (fun ls hl => ?_)
          try have iz_297 : z_297.toInt = v4.toInt + 1 := by rw [ez_297]; exact tl_addL v4 1 (by decide) (by omega) (by omega)
          refine lv_goto (tgt := 13) hx hb dX12_bows_172 (by decide) ?_
          exact ih13 (f_235, Γ_27, z_297) H locs ls (by show (p1.toInt + 2 - z_297.toInt).toNat < (p1.toInt + 2 - v4.toInt).toNat; omega) ⟨(show 0 ≤ z_297.toInt ∧ z_297.toInt ≤ p1.toInt + 2 from (by omega)), (show 0 ≤ Γ_27 (39, 0, 0) 13 ∧ Γ_27 (39, 0, 0) 13 ≤ z_297.toInt from (by omega)), (show ∀ j : Nat, (j : Int) < Γ_27 (39, 0, 0) 13 → 0 ≤ Γ_27 (61, 42, 0) j ∧ Γ_27 (61, 42, 0) j ≤ 299 ∧ Γ_27 (61, 42, 0) j < atk (p1.toInt + 1) (z_297.toInt) from (fun j9 q9 => by have q8 := hkb j9 q9; have q7 := atk_lt (b := p1.toInt + 1) (k := v4.toInt) (k2 := z_297.toInt) (by omega) (by omega); exact ⟨q8.1, q8.2.1, by omega⟩)), (show ∀ j : Nat, (j : Int) + 1 < Γ_27 (39, 0, 0) 13 → Γ_27 (61, 42, 0) j < Γ_27 (61, 42, 0) (j + 1) from hris), (show 0 < Γ_27 (39, 0, 0) 13 → 0 < Γ (39, 0, 0) 10 from (fun q9 => by first | exact hpos (by omega) | omega)), (show Γ_27 (39, 0, 0) 0 = Γ (39, 0, 0) 0 from (by omega)), (show Γ_27 (39, 0, 0) 10 = Γ (39, 0, 0) 10 from (by omega)), (show Γ_27 (39, 0, 0) 11 = Γ (39, 0, 0) 11 from (by omega)), (show Γ_27 (39, 0, 0) 12 = Γ (39, 0, 0) 12 from (by omega)), (show Γ_27 (39, 0, 0) 14 = Γ (39, 0, 0) 14 from (by omega)), (show Γ_27 (39, 0, 0) 15 = Γ (39, 0, 0) 15 from (by omega)), hP, hI, hfr, hgr, hS, lv_sub hl [0, 5, 6, 7, 8] rfl⟩
      · have c_255 : v9.toInt ≤ z_254.toInt := tl_nlt c_255
        refine lv_iload hx hb dX12_bows_80 (lv_at hl 0 rfl) ?_
        refine lv_sipush (v := 300) hx hb dX12_bows_82 (by decide) ?_
        refine lv_icmp_ge (tgt := 123) hx hb dX12_bows_85 (by decide) (fun c_298 => ?_) (fun c_298 => ?_)
        · have c_298 : (300 : Int) ≤ v9.toInt := tl_le c_298
          refine lv_iload hx hb dX12_bows_123 (lv_at hl 1 rfl) ?_
          refine lv_if_ne (tgt := 131) hx hb dX12_bows_125 (by decide) (fun c_299 => ?_) (fun c_299 => ?_)
          · have c_299 : ¬ v8.toInt = (0 : Int) := tl_neq c_299
            refine lv_aload_n hx hb dX12_bows_131 rfl (lv_at hl 6 rfl) ?_
            refine tp_get (cy := cy) (ci := 12) (v := .ref (r_237 21)) (C := RX12) (T := TX12) (N := 49) hx hb hta inlX12 hown hK hP ho.1 hf_236 rfl 35 (by decide) (hta _ wk_171) (fun _ h9 => h9) rfl dX12_bows_132 ?_
            refine lv_aload_n hx hb dX12_bows_135 rfl (lv_at hl 6 rfl) ?_
            refine tp_get (cy := cy) (ci := 12) (v := .int (v_238 13)) (C := RX12) (T := TX12) (N := 49) hx hb hta inlX12 hown hK hP ho.1 hf_236 rfl 37 (by decide) (hta _ wk_903) (fun _ h9 => h9) rfl dX12_bows_136 ?_
            refine lv_iload hx hb dX12_bows_139 (lv_at hl 3 rfl) ?_
            obtain ⟨g_301, hf_300, hg_302⟩ := (show tp_gi cy (42) (Γ_27 (61, 42, 0)) (f_235 (r_237 21)) from hI.at (show tp_r L K 61 42 0 (r_237 21) from hr_240 21 (by decide)))
            have hn_303 : vp_in (v_238 13) (42) := tl_in (by omega) (by omega)
            have hj_304 : (v_238 13).toNatClampNeg = (Γ_27 (39, 0, 0) 13).toNat := by show (v_238 13).toInt.toNat = _; omega
            have hv_305 : z_90.toInt = z_90.toInt := rfl
            obtain ⟨Γ_306, eΓ_306⟩ : ∃ y : tk_G, y = tg Γ_27 (61, 42, 0) ((Γ_27 (39, 0, 0) 13).toNat) z_90.toInt := ⟨_, rfl⟩
            have hI9 : tp_I cy L K Γ_306 (va_up f_235 (r_237 21) (.inl (cy 0, 42, .inl (upd g_301 (v_238 13).toNatClampNeg z_90)))) := by have q9 : tg Γ_27 (61, 42, 0) ((Γ_27 (39, 0, 0) 13).toNat) z_90.toInt = tg Γ_27 (61, 42, 0) (v_238 13).toNatClampNeg z_90.toInt := (by rw [hj_304, hv_305]); rw [eΓ_306, q9]; exact hI.setg hU rfl (show tp_r L K 61 42 0 (r_237 21) from hr_240 21 (by decide)) (show tp_gi cy (42) (tgu (Γ_27 (61, 42, 0)) _ _) _ from ⟨_, rfl, tp_gi_upd hg_302⟩)
            have hfr9 : ∀ b, (K b).1 ∉ ([39, 61, 62, 63] : List Nat) → va_up f_235 (r_237 21) (.inl (cy 0, 42, .inl (upd g_301 (v_238 13).toNatClampNeg z_90))) b = f b := tp_fr hfr (show tp_r L K 61 42 0 (r_237 21) from hr_240 21 (by decide)) (by decide)
            refine tp_iast (cy := cy) hx hb hK hP hD hS (show tp_r L K 61 42 0 (r_237 21) from hr_240 21 (by decide)).1 hf_300 hn_303 dX12_bows_141 (fun H locs hP hD hS => ?_)
            have hP : va_P D vwCl (va_pl L (va_up f_235 (r_237 21) (.inl (cy 0, 42, .inl (upd g_301 (v_238 13).toNatClampNeg z_90))))) H := hP
            generalize hfe : va_up f_235 (r_237 21) (.inl (cy 0, 42, .inl (upd g_301 (v_238 13).toNatClampNeg z_90))) = f_307 at hP hI9 hfr9
            have hD : va_D A (va_pl L f_307) := tp_D hL hAL
            have hf_308 := (show f_307 o = _ from by rw [← hfe, va_up_ne _ _ (tp_ne ho (show tp_r L K 61 42 0 (r_237 21) from hr_240 21 (by decide)) (by decide))]).trans hf_236
            have hf_309 : f_307 (r_237 21) = .inl (cy 0, 42, .inl (upd g_301 (v_238 13).toNatClampNeg z_90)) := by rw [← hfe]; exact va_up_self _ _ _
            clear hfe
            have hI := hI9
            have hfr := hfr9
            clear hI9 hfr9
            have wsΓ_306 : Γ_306 (61, 42, 0) ((Γ_27 (39, 0, 0) 13).toNat) = z_90.toInt := by rw [eΓ_306]; exact tg_s
            have hgr : ∀ κ : tk_K, κ.1 ∉ ([39, 61, 62, 63] : List Nat) → Γ_306 κ = Γ κ := tg_fr hgr eΓ_306 (by decide)
            have hv_310 : ∀ i : Nat, i < 16 → (v_238 i).toInt = Γ_306 (39, 0, 0) i := fun i hi => by rw [eΓ_306, tg_r (by decide)]; exact hv_241 i hi
            have hx_311 : (v_238 0).toInt = Γ_306 (39, 0, 0) 0 := hv_310 0 (by decide)
            have hx_312 : (v_238 10).toInt = Γ_306 (39, 0, 0) 10 := hv_310 10 (by decide)
            have hx_313 : (v_238 11).toInt = Γ_306 (39, 0, 0) 11 := hv_310 11 (by decide)
            have hx_314 : (v_238 12).toInt = Γ_306 (39, 0, 0) 12 := hv_310 12 (by decide)
            have hx_315 : (v_238 13).toInt = Γ_306 (39, 0, 0) 13 := hv_310 13 (by decide)
            have hx_316 : (v_238 14).toInt = Γ_306 (39, 0, 0) 14 := hv_310 14 (by decide)
            have hx_317 : (v_238 15).toInt = Γ_306 (39, 0, 0) 15 := hv_310 15 (by decide)
            have hk1 : Γ_306 (61, 42, 0) (Γ_27 (39, 0, 0) 13).toNat = z_90.toInt := by rw [eΓ_306]; exact tg_s
            have hk2 : ∀ j : Nat, ¬ j = (Γ_27 (39, 0, 0) 13).toNat → Γ_306 (61, 42, 0) j = Γ_27 (61, 42, 0) j := fun j q => by rw [eΓ_306, tg_i q]
            refine lv_aload_n hx hb dX12_bows_142 rfl (lv_at hl 6 rfl) ?_
            refine tp_get (cy := cy) (ci := 12) (v := .ref (r_237 22)) (C := RX12) (T := TX12) (N := 49) hx hb hta inlX12 hown hK hP ho.1 hf_308 rfl 36 (by decide) (hta _ wk_172) (fun _ h9 => h9) rfl dX12_bows_143 ?_
            refine lv_aload_n hx hb dX12_bows_146 rfl (lv_at hl 6 rfl) ?_
            refine tp_get (cy := cy) (ci := 12) (v := .int (v_238 13)) (C := RX12) (T := TX12) (N := 49) hx hb hta inlX12 hown hK hP ho.1 hf_308 rfl 37 (by decide) (hta _ wk_903) (fun _ h9 => h9) rfl dX12_bows_147 ?_
            refine lv_lload hx hb dX12_bows_150 (lv_at hl 2 rfl) ?_
            refine lv_iload hx hb dX12_bows_152 (lv_at hl 1 rfl) ?_
            refine lv_i2l (v := v8.toInt64) hx hb dX12_bows_154 (by first | rfl | decide) ?_
            refine tl_sl (tq_rS (As := [.long v6, .long v8.toInt64]) (rest := [.int (v_238 13), .ref (r_237 22)]) ⟨hx, hb, hml, hown, hta⟩ (tp_P.pre hK hN hL hU hI hP) lk_X12_401 (r_X12_down l D cy H.size L K Γ_306 f_307 v6 v8.toInt64 (by first | omega | (simp only [Int32.toInt_toInt64]; omega) | decide | assumption)) rfl rfl ⟨Nat.le_of_ble_eq_true rfl, Nat.le_of_ble_eq_true rfl⟩ rfl hl.1 rfl (Nat.le_of_ble_eq_true rfl) dX12_bows_155 ⟨Nat.le_of_ble_eq_true rfl, Nat.le_of_ble_eq_true rfl⟩) (fun r_319 hw_318 => ?_)
            obtain ⟨g_321, hf_320⟩ := (show tp_aj cy (42) (f_307 (r_237 22)) from hI.at (show tp_r L K 62 42 0 (r_237 22) from hr_240 22 (by decide)))
            have hn_323 : vp_in (v_238 13) (42) := tl_in (by omega) (by omega)
            have hI9 : tp_I cy L K Γ_306 (va_up f_307 (r_237 22) (.inl (cy 1, 42, .inr (.inl (vp_updL g_321 (v_238 13).toNatClampNeg r_319))))) := hI.set (show tp_r L K 62 42 0 (r_237 22) from hr_240 22 (by decide)) (show tp_aj cy (42) _ from ⟨_, rfl⟩)
            have hfr9 : ∀ b, (K b).1 ∉ ([39, 61, 62, 63] : List Nat) → va_up f_307 (r_237 22) (.inl (cy 1, 42, .inr (.inl (vp_updL g_321 (v_238 13).toNatClampNeg r_319)))) b = f b := tp_fr hfr (show tp_r L K 62 42 0 (r_237 22) from hr_240 22 (by decide)) (by decide)
            refine tp_last (cy := cy) hx hb hK hP hD hS (show tp_r L K 62 42 0 (r_237 22) from hr_240 22 (by decide)).1 hf_320 hn_323 dX12_bows_158 (fun H locs hP hD hS => ?_)
            have hP : va_P D vwCl (va_pl L (va_up f_307 (r_237 22) (.inl (cy 1, 42, .inr (.inl (vp_updL g_321 (v_238 13).toNatClampNeg r_319)))))) H := hP
            generalize hfe : va_up f_307 (r_237 22) (.inl (cy 1, 42, .inr (.inl (vp_updL g_321 (v_238 13).toNatClampNeg r_319)))) = f_324 at hP hI9 hfr9
            have hD : va_D A (va_pl L f_324) := tp_D hL hAL
            have hf_325 := (show f_324 o = _ from by rw [← hfe, va_up_ne _ _ (tp_ne ho (show tp_r L K 62 42 0 (r_237 22) from hr_240 22 (by decide)) (by decide))]).trans hf_308
            have hf_326 : f_324 (r_237 22) = .inl (cy 1, 42, .inr (.inl (vp_updL g_321 (v_238 13).toNatClampNeg r_319))) := by rw [← hfe]; exact va_up_self _ _ _
            clear hfe
            have hI := hI9
            have hfr := hfr9
            clear hI9 hfr9
            refine lv_aload_n hx hb dX12_bows_159 rfl (lv_at hl 6 rfl) ?_
            refine lv_dup hx hb dX12_bows_160 rfl ?_
            refine tp_get (cy := cy) (ci := 12) (v := .int (v_238 13)) (C := RX12) (T := TX12) (N := 49) hx hb hta inlX12 hown hK hP ho.1 hf_325 rfl 37 (by decide) (hta _ wk_903) (fun _ h9 => h9) rfl dX12_bows_161 ?_
            refine lv_iconst (v := 1) hx hb dX12_bows_164 (by decide) ?_
            refine lv_iadd hx hb dX12_bows_165 ?_
            refine lv_topi (fun z_327 ez_327 => ?_)
            try have iz_327 : z_327.toInt = (v_238 13).toInt + (1 : Int) := by rw [ez_327]; exact tl_addN (v_238 13) 1 rfl rfl (by omega) (by omega)
            obtain ⟨Γ_328, eΓ_328⟩ : ∃ y : tk_G, y = tg Γ_306 (39, 0, 0) 13 z_327.toInt := ⟨_, rfl⟩
            have hv_329 : ∀ i : Nat, i < 16 → ((upd v_238 13 z_327) i).toInt = Γ_328 (39, 0, 0) i := by rw [eΓ_328, tg_f]; exact tp_gi_upd hv_310
            have hI9 : tp_I cy L K Γ_328 (va_up f_324 o (.inr (12, [.ref (r_237 0), .ref (r_237 1), .int (v_238 0), .ref (r_237 2), .ref (r_237 3), .ref (r_237 4), .ref (r_237 5), .ref (r_237 6), .ref (r_237 7), .ref (r_237 8), .ref (r_237 9), .ref (r_237 10), .ref (r_237 11), .ref (r_237 12), .ref (r_237 13), .ref (r_237 14), .ref (r_237 15), .int (v_238 1), .int (v_238 2), .int (v_238 3), .int (v_238 4), .int (v_238 5), .int (v_238 6), .int (v_238 7), .ref (r_237 16), .int (v_238 8), .ref (r_237 17), .int (v_238 9), .ref (r_237 18), .long q_239, .ref (r_237 19), .ref (r_237 20), .int (v_238 10), .int (v_238 11), .int (v_238 12), .ref (r_237 21), .ref (r_237 22), .int z_327, .ref (r_237 23), .int (v_238 14), .int (v_238 15), .ref (r_237 24), .ref (r_237 25), .ref (r_237 26), .ref (r_237 27), .ref (r_237 28), .ref (r_237 29), .ref (r_237 30), .ref (r_237 31)]))) := by have q9 := hv_329; rw [eΓ_328, tg_f] at q9; rw [eΓ_328]; exact hI.setg hU rfl ho (show tp_o_M L K 0 0 (tgu (Γ_306 (39, 0, 0)) 13 z_327.toInt) _ from ⟨r_237, (upd v_238 13 z_327), q_239, rfl, hr_240, q9⟩)
            have hfr9 : ∀ b, (K b).1 ∉ ([39, 61, 62, 63] : List Nat) → va_up f_324 o (.inr (12, [.ref (r_237 0), .ref (r_237 1), .int (v_238 0), .ref (r_237 2), .ref (r_237 3), .ref (r_237 4), .ref (r_237 5), .ref (r_237 6), .ref (r_237 7), .ref (r_237 8), .ref (r_237 9), .ref (r_237 10), .ref (r_237 11), .ref (r_237 12), .ref (r_237 13), .ref (r_237 14), .ref (r_237 15), .int (v_238 1), .int (v_238 2), .int (v_238 3), .int (v_238 4), .int (v_238 5), .int (v_238 6), .int (v_238 7), .ref (r_237 16), .int (v_238 8), .ref (r_237 17), .int (v_238 9), .ref (r_237 18), .long q_239, .ref (r_237 19), .ref (r_237 20), .int (v_238 10), .int (v_238 11), .int (v_238 12), .ref (r_237 21), .ref (r_237 22), .int z_327, .ref (r_237 23), .int (v_238 14), .int (v_238 15), .ref (r_237 24), .ref (r_237 25), .ref (r_237 26), .ref (r_237 27), .ref (r_237 28), .ref (r_237 29), .ref (r_237 30), .ref (r_237 31)])) b = f b := tp_fr hfr ho (by decide)
            refine tp_put (cy := cy) (ci := 12) (v := .int z_327) (ty := tyX12 37) (C := RX12) (T := TX12) (N := 49) hx hb hta inlX12 tyX12 tyX12_ok nmX12 hown hK hP hD hS ho.1 hf_325 rfl 37 (by decide) (hta _ wk_903) (fun _ h9 => h9) rfl (tyX12_ok 37 (by decide)) rfl rfl (Nat.le_of_ble_eq_true rfl) dX12_bows_166 (fun H locs hP hD hS => ?_)
            have hP : va_P D vwCl (va_pl L (va_up f_324 o (.inr (12, [.ref (r_237 0), .ref (r_237 1), .int (v_238 0), .ref (r_237 2), .ref (r_237 3), .ref (r_237 4), .ref (r_237 5), .ref (r_237 6), .ref (r_237 7), .ref (r_237 8), .ref (r_237 9), .ref (r_237 10), .ref (r_237 11), .ref (r_237 12), .ref (r_237 13), .ref (r_237 14), .ref (r_237 15), .int (v_238 1), .int (v_238 2), .int (v_238 3), .int (v_238 4), .int (v_238 5), .int (v_238 6), .int (v_238 7), .ref (r_237 16), .int (v_238 8), .ref (r_237 17), .int (v_238 9), .ref (r_237 18), .long q_239, .ref (r_237 19), .ref (r_237 20), .int (v_238 10), .int (v_238 11), .int (v_238 12), .ref (r_237 21), .ref (r_237 22), .int z_327, .ref (r_237 23), .int (v_238 14), .int (v_238 15), .ref (r_237 24), .ref (r_237 25), .ref (r_237 26), .ref (r_237 27), .ref (r_237 28), .ref (r_237 29), .ref (r_237 30), .ref (r_237 31)])))) H := hP
            generalize hfe : va_up f_324 o (.inr (12, [.ref (r_237 0), .ref (r_237 1), .int (v_238 0), .ref (r_237 2), .ref (r_237 3), .ref (r_237 4), .ref (r_237 5), .ref (r_237 6), .ref (r_237 7), .ref (r_237 8), .ref (r_237 9), .ref (r_237 10), .ref (r_237 11), .ref (r_237 12), .ref (r_237 13), .ref (r_237 14), .ref (r_237 15), .int (v_238 1), .int (v_238 2), .int (v_238 3), .int (v_238 4), .int (v_238 5), .int (v_238 6), .int (v_238 7), .ref (r_237 16), .int (v_238 8), .ref (r_237 17), .int (v_238 9), .ref (r_237 18), .long q_239, .ref (r_237 19), .ref (r_237 20), .int (v_238 10), .int (v_238 11), .int (v_238 12), .ref (r_237 21), .ref (r_237 22), .int z_327, .ref (r_237 23), .int (v_238 14), .int (v_238 15), .ref (r_237 24), .ref (r_237 25), .ref (r_237 26), .ref (r_237 27), .ref (r_237 28), .ref (r_237 29), .ref (r_237 30), .ref (r_237 31)])) = f_330 at hP hI9 hfr9
            have hD : va_D A (va_pl L f_330) := tp_D hL hAL
            have hf_331 : f_330 o = .inr (12, [.ref (r_237 0), .ref (r_237 1), .int (v_238 0), .ref (r_237 2), .ref (r_237 3), .ref (r_237 4), .ref (r_237 5), .ref (r_237 6), .ref (r_237 7), .ref (r_237 8), .ref (r_237 9), .ref (r_237 10), .ref (r_237 11), .ref (r_237 12), .ref (r_237 13), .ref (r_237 14), .ref (r_237 15), .int (v_238 1), .int (v_238 2), .int (v_238 3), .int (v_238 4), .int (v_238 5), .int (v_238 6), .int (v_238 7), .ref (r_237 16), .int (v_238 8), .ref (r_237 17), .int (v_238 9), .ref (r_237 18), .long q_239, .ref (r_237 19), .ref (r_237 20), .int (v_238 10), .int (v_238 11), .int (v_238 12), .ref (r_237 21), .ref (r_237 22), .int z_327, .ref (r_237 23), .int (v_238 14), .int (v_238 15), .ref (r_237 24), .ref (r_237 25), .ref (r_237 26), .ref (r_237 27), .ref (r_237 28), .ref (r_237 29), .ref (r_237 30), .ref (r_237 31)]) := by rw [← hfe]; exact va_up_self _ _ _
            clear hfe
            have hI := hI9
            have hfr := hfr9
            clear hI9 hfr9
            have hgr : ∀ κ : tk_K, κ.1 ∉ ([39, 61, 62, 63] : List Nat) → Γ_328 κ = Γ κ := tg_fr hgr eΓ_328 (by decide)
            have hx_332 : (v_238 0).toInt = Γ_328 (39, 0, 0) 0 := hv_329 0 (by decide)
            have hx_333 : (v_238 10).toInt = Γ_328 (39, 0, 0) 10 := hv_329 10 (by decide)
            have hx_334 : (v_238 11).toInt = Γ_328 (39, 0, 0) 11 := hv_329 11 (by decide)
            have hx_335 : (v_238 12).toInt = Γ_328 (39, 0, 0) 12 := hv_329 12 (by decide)
            have hx_336 : z_327.toInt = Γ_328 (39, 0, 0) 13 := hv_329 13 (by decide)
            have hx_337 : (v_238 14).toInt = Γ_328 (39, 0, 0) 14 := hv_329 14 (by decide)
            have hx_338 : (v_238 15).toInt = Γ_328 (39, 0, 0) 15 := hv_329 15 (by decide)
            have hn1 : Γ_328 (61, 42, 0) (Γ_27 (39, 0, 0) 13).toNat = z_90.toInt := by rw [eΓ_328, tg_r (by decide)]; exact hk1
            have hn2 : ∀ j : Nat, ¬ j = (Γ_27 (39, 0, 0) 13).toNat → Γ_328 (61, 42, 0) j = Γ_27 (61, 42, 0) j := fun j q => by rw [eΓ_328, tg_r (by decide)]; exact hk2 j q
            obtain ⟨z_339, ez_339⟩ : ∃ y : Int32, y = v4 + 1 := ⟨_, rfl⟩
            refine lv_iinc (v := z_339) (lv' := [(4, .int z_339), (9, .int v9), (8, .int v8), (6, .long v6), (5, .int z_90), (3, .int z_1), (0, .ref o), (1, .int p0), (2, .int p1)]) hx hb dX12_bows_169 hl (k := 4) rfl (by rw [ez_339]; rfl) (by decide) rfl (fun ls hl => ?_)
            try have iz_339 : z_339.toInt = v4.toInt + 1 := by rw [ez_339]; exact tl_addL v4 1 (by decide) (by omega) (by omega)
            refine lv_goto (tgt := 13) hx hb dX12_bows_172 (by decide) ?_
            exact ih13 (f_330, Γ_328, z_339) H locs ls (by show (p1.toInt + 2 - z_339.toInt).toNat < (p1.toInt + 2 - v4.toInt).toNat; omega) ⟨(show 0 ≤ z_339.toInt ∧ z_339.toInt ≤ p1.toInt + 2 from (by omega)), (show 0 ≤ Γ_328 (39, 0, 0) 13 ∧ Γ_328 (39, 0, 0) 13 ≤ z_339.toInt from (by omega)), (show ∀ j : Nat, (j : Int) < Γ_328 (39, 0, 0) 13 → 0 ≤ Γ_328 (61, 42, 0) j ∧ Γ_328 (61, 42, 0) j ≤ 299 ∧ Γ_328 (61, 42, 0) j < atk (p1.toInt + 1) (z_339.toInt) from (fun j9 q9 => by have q7 := atk_lt (b := p1.toInt + 1) (k := v4.toInt) (k2 := z_339.toInt) (by omega) (by omega); by_cases q6 : j9 = (Γ_27 (39, 0, 0) 13).toNat; (rw [q6, hn1]; exact ⟨by omega, by omega, by omega⟩); (rw [hn2 j9 q6]; have q8 := hkb j9 (by omega); exact ⟨q8.1, q8.2.1, by omega⟩))), (show ∀ j : Nat, (j : Int) + 1 < Γ_328 (39, 0, 0) 13 → Γ_328 (61, 42, 0) j < Γ_328 (61, 42, 0) (j + 1) from (fun j9 q9 => by by_cases q6 : j9 + 1 = (Γ_27 (39, 0, 0) 13).toNat; (rw [q6, hn1, hn2 j9 (by omega)]; have q8 := hkb j9 (by omega); omega); (rw [hn2 j9 (by omega), hn2 (j9 + 1) q6]; exact hris j9 (by omega)))), (show 0 < Γ_328 (39, 0, 0) 13 → 0 < Γ (39, 0, 0) 10 from (fun q9 => by first | exact hpos (by omega) | omega)), (show Γ_328 (39, 0, 0) 0 = Γ (39, 0, 0) 0 from (by omega)), (show Γ_328 (39, 0, 0) 10 = Γ (39, 0, 0) 10 from (by omega)), (show Γ_328 (39, 0, 0) 11 = Γ (39, 0, 0) 11 from (by omega)), (show Γ_328 (39, 0, 0) 12 = Γ (39, 0, 0) 12 from (by omega)), (show Γ_328 (39, 0, 0) 14 = Γ (39, 0, 0) 14 from (by omega)), (show Γ_328 (39, 0, 0) 15 = Γ (39, 0, 0) 15 from (by omega)), hP, hI, hfr, hgr, hS, lv_sub hl [0, 5, 6, 7, 8] rfl⟩
          · have c_299 : v8.toInt = (0 : Int) := tl_eq c_299
            refine lv_goto (tgt := 169) hx hb dX12_bows_128 (by decide) ?_
            obtain ⟨z_340, ez_340⟩ : ∃ y : Int32, y = v4 + 1 := ⟨_, rfl⟩
            refine lv_iinc (v := z_340) (lv' := [(4, .int z_340), (9, .int v9), (8, .int v8), (6, .long v6), (5, .int z_90), (3, .int z_1), (0, .ref o), (1, .int p0), (2, .int p1)]) hx hb dX12_bows_169 hl (k := 4) rfl (by rw [ez_340]; rfl) (by decide) rfl (fun ls hl => ?_)
            try have iz_340 : z_340.toInt = v4.toInt + 1 := by rw [ez_340]; exact tl_addL v4 1 (by decide) (by omega) (by omega)
            refine lv_goto (tgt := 13) hx hb dX12_bows_172 (by decide) ?_
            exact ih13 (f_235, Γ_27, z_340) H locs ls (by show (p1.toInt + 2 - z_340.toInt).toNat < (p1.toInt + 2 - v4.toInt).toNat; omega) ⟨(show 0 ≤ z_340.toInt ∧ z_340.toInt ≤ p1.toInt + 2 from (by omega)), (show 0 ≤ Γ_27 (39, 0, 0) 13 ∧ Γ_27 (39, 0, 0) 13 ≤ z_340.toInt from (by omega)), (show ∀ j : Nat, (j : Int) < Γ_27 (39, 0, 0) 13 → 0 ≤ Γ_27 (61, 42, 0) j ∧ Γ_27 (61, 42, 0) j ≤ 299 ∧ Γ_27 (61, 42, 0) j < atk (p1.toInt + 1) (z_340.toInt) from (fun j9 q9 => by have q8 := hkb j9 q9; have q7 := atk_lt (b := p1.toInt + 1) (k := v4.toInt) (k2 := z_340.toInt) (by omega) (by omega); exact ⟨q8.1, q8.2.1, by omega⟩)), (show ∀ j : Nat, (j : Int) + 1 < Γ_27 (39, 0, 0) 13 → Γ_27 (61, 42, 0) j < Γ_27 (61, 42, 0) (j + 1) from hris), (show 0 < Γ_27 (39, 0, 0) 13 → 0 < Γ (39, 0, 0) 10 from (fun q9 => by first | exact hpos (by omega) | omega)), (show Γ_27 (39, 0, 0) 0 = Γ (39, 0, 0) 0 from (by omega)), (show Γ_27 (39, 0, 0) 10 = Γ (39, 0, 0) 10 from (by omega)), (show Γ_27 (39, 0, 0) 11 = Γ (39, 0, 0) 11 from (by omega)), (show Γ_27 (39, 0, 0) 12 = Γ (39, 0, 0) 12 from (by omega)), (show Γ_27 (39, 0, 0) 14 = Γ (39, 0, 0) 14 from (by omega)), (show Γ_27 (39, 0, 0) 15 = Γ (39, 0, 0) 15 from (by omega)), hP, hI, hfr, hgr, hS, lv_sub hl [0, 5, 6, 7, 8] rfl⟩
        · have c_298 : v9.toInt < (300 : Int) := tl_nle c_298
          refine lv_aload_n hx hb dX12_bows_88 rfl (lv_at hl 6 rfl) ?_
          refine tp_get (cy := cy) (ci := 12) (v := .ref (r_237 20)) (C := RX12) (T := TX12) (N := 49) hx hb hta inlX12 hown hK hP ho.1 hf_236 rfl 31 (by decide) (hta _ wk_170) (fun _ h9 => h9) rfl dX12_bows_89 ?_
          refine lv_iload hx hb dX12_bows_92 (lv_at hl 0 rfl) ?_
          obtain ⟨g_342, hf_341, hg_343⟩ := (show tp_gz cy (300) (Γ (60, 300, 0)) (f (r_237 20)) from hI0.at (show tp_r L K 60 300 0 (r_237 20) from hr_240 20 (by decide)))
          have hn_344 : vp_in v9 (300) := tl_in (by omega) (by omega)
          refine tp_zald (cy := cy) hx hb hK hP (show tp_r L K 60 300 0 (r_237 20) from hr_240 20 (by decide)).1 ((tp_un hfr (show tp_r L K 60 300 0 (r_237 20) from hr_240 20 (by decide)) (by decide)).trans hf_341) hn_344 dX12_bows_94 ?_
          refine lv_topi (fun z_345 ez_345 => ?_)
          have iz_345 : z_345.toInt = Γ (60, 300, 0) v9.toInt.toNat := by rw [ez_345]; exact hg_343 _ (tp_pin hn_344)
          refine lv_if_ne (tgt := 101) hx hb dX12_bows_95 (by decide) (fun c_346 => ?_) (fun c_346 => ?_)
          · have c_346 : ¬ z_345.toInt = (0 : Int) := tl_neq c_346
            have hup := hu v9.toInt.toNat (by omega) (by omega)
            refine lv_lload hx hb dX12_bows_101 (lv_at hl 2 rfl) ?_
            refine lv_aload_n hx hb dX12_bows_103 rfl (lv_at hl 6 rfl) ?_
            refine tp_get (cy := cy) (ci := 12) (v := .ref (r_237 19)) (C := RX12) (T := TX12) (N := 49) hx hb hta inlX12 hown hK hP ho.1 hf_236 rfl 30 (by decide) (hta _ wk_169) (fun _ h9 => h9) rfl dX12_bows_104 ?_
            refine lv_iload hx hb dX12_bows_107 (lv_at hl 0 rfl) ?_
            obtain ⟨g_348, hf_347, hg_349⟩ := (show tp_gi cy (300) (Γ (59, 300, 0)) (f (r_237 19)) from hI0.at (show tp_r L K 59 300 0 (r_237 19) from hr_240 19 (by decide)))
            have hn_350 : vp_in v9 (300) := tl_in (by omega) (by omega)
            refine tp_iald (cy := cy) hx hb hK hP (show tp_r L K 59 300 0 (r_237 19) from hr_240 19 (by decide)).1 ((tp_un hfr (show tp_r L K 59 300 0 (r_237 19) from hr_240 19 (by decide)) (by decide)).trans hf_347) hn_350 dX12_bows_109 ?_
            refine lv_topi (fun z_351 ez_351 => ?_)
            have iz_351 : z_351.toInt = Γ (59, 300, 0) v9.toInt.toNat := by rw [ez_351]; exact hg_349 _ (tp_pin hn_350)
            refine lv_i2l (v := z_351.toInt64) hx hb dX12_bows_110 (by first | rfl | decide) ?_
            refine lv_ladd hx hb dX12_bows_111 ?_
            refine lv_topl (fun z_352 ez_352 => ?_)
            refine lv_lstore (lv' := [(6, .long z_352), (9, .int v9), (8, .int v8), (5, .int z_90), (4, .int v4), (3, .int z_1), (0, .ref o), (1, .int p0), (2, .int p1)]) hx hb dX12_bows_112 hl (by decide) rfl (fun ls hl => ?_)
            obtain ⟨z_353, ez_353⟩ : ∃ y : Int32, y = v8 + 1 := ⟨_, rfl⟩
            refine lv_iinc (v := z_353) (lv' := [(8, .int z_353), (6, .long z_352), (9, .int v9), (5, .int z_90), (4, .int v4), (3, .int z_1), (0, .ref o), (1, .int p0), (2, .int p1)]) hx hb dX12_bows_114 hl (k := 2) rfl (by rw [ez_353]; rfl) (by decide) rfl (fun ls hl => ?_)
            try have iz_353 : z_353.toInt = v8.toInt + 1 := by rw [ez_353]; exact tl_addL v8 1 (by decide) (by omega) (by omega)
            obtain ⟨z_354, ez_354⟩ : ∃ y : Int32, y = v9 + 1 := ⟨_, rfl⟩
            refine lv_iinc (v := z_354) (lv' := [(9, .int z_354), (8, .int z_353), (6, .long z_352), (5, .int z_90), (4, .int v4), (3, .int z_1), (0, .ref o), (1, .int p0), (2, .int p1)]) hx hb dX12_bows_117 hl (k := 2) rfl (by rw [ez_354]; rfl) (by decide) rfl (fun ls hl => ?_)
            try have iz_354 : z_354.toInt = v9.toInt + 1 := by rw [ez_354]; exact tl_addL v9 1 (by decide) (by omega) (by omega)
            refine lv_goto (tgt := 66) hx hb dX12_bows_120 (by decide) ?_
            exact ih66 (f_235, z_354, z_353, z_352) H locs ls (by show (300 - z_354.toInt).toNat < (300 - v9.toInt).toNat; omega) ⟨(show 0 ≤ z_354.toInt ∧ z_354.toInt ≤ 300 from (by omega)), (show 0 ≤ z_353.toInt ∧ z_353.toInt ≤ z_354.toInt ∧ (0 < z_353.toInt → 0 < Γ (39, 0, 0) 10) from (by omega)), hP, hI, hfr, hS, lv_sub hl [0, 1, 2, 3, 4, 5, 6, 7, 8] rfl⟩
          · have c_346 : z_345.toInt = (0 : Int) := tl_eq c_346
            refine lv_goto (tgt := 117) hx hb dX12_bows_98 (by decide) ?_
            obtain ⟨z_355, ez_355⟩ : ∃ y : Int32, y = v9 + 1 := ⟨_, rfl⟩
            refine lv_iinc (v := z_355) (lv' := [(9, .int z_355), (8, .int v8), (6, .long v6), (5, .int z_90), (4, .int v4), (3, .int z_1), (0, .ref o), (1, .int p0), (2, .int p1)]) hx hb dX12_bows_117 hl (k := 0) rfl (by rw [ez_355]; rfl) (by decide) rfl (fun ls hl => ?_)
            try have iz_355 : z_355.toInt = v9.toInt + 1 := by rw [ez_355]; exact tl_addL v9 1 (by decide) (by omega) (by omega)
            refine lv_goto (tgt := 66) hx hb dX12_bows_120 (by decide) ?_
            exact ih66 (f_235, z_355, v8, v6) H locs ls (by show (300 - z_355.toInt).toNat < (300 - v9.toInt).toNat; omega) ⟨(show 0 ≤ z_355.toInt ∧ z_355.toInt ≤ 300 from (by omega)), (show 0 ≤ v8.toInt ∧ v8.toInt ≤ z_355.toInt ∧ (0 < v8.toInt → 0 < Γ (39, 0, 0) 10) from (by omega)), hP, hI, hfr, hS, lv_sub hl [0, 1, 2, 3, 4, 5, 6, 7, 8] rfl⟩
