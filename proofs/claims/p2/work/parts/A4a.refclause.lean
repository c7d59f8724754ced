theorem dX12_clauseOf_0 : decode cX12_clauseOf 0 = .ok (.aload_n 0, 1) := by decide +kernel
theorem dX12_clauseOf_1 : decode cX12_clauseOf 1 = .ok (.invokevirtual 178, 3) := by decide +kernel
theorem dX12_clauseOf_4 : decode cX12_clauseOf 4 = .ok (.bipush 48, 2) := by decide +kernel
theorem dX12_clauseOf_6 : decode cX12_clauseOf 6 = .ok (.aload_n 0, 1) := by decide +kernel
theorem dX12_clauseOf_7 : decode cX12_clauseOf 7 = .ok (.getfield 191, 3) := by decide +kernel
theorem dX12_clauseOf_10 : decode cX12_clauseOf 10 = .ok (.imul, 1) := by decide +kernel
theorem dX12_clauseOf_11 : decode cX12_clauseOf 11 = .ok (.iconst 4, 1) := by decide +kernel
theorem dX12_clauseOf_12 : decode cX12_clauseOf 12 = .ok (.aload_n 0, 1) := by decide +kernel
theorem dX12_clauseOf_13 : decode cX12_clauseOf 13 = .ok (.getfield 29, 3) := by decide +kernel
theorem dX12_clauseOf_16 : decode cX12_clauseOf 16 = .ok (.aload_n 0, 1) := by decide +kernel
theorem dX12_clauseOf_17 : decode cX12_clauseOf 17 = .ok (.getfield 191, 3) := by decide +kernel
theorem dX12_clauseOf_20 : decode cX12_clauseOf 20 = .ok (.iaload, 1) := by decide +kernel
theorem dX12_clauseOf_21 : decode cX12_clauseOf 21 = .ok (.imul, 1) := by decide +kernel
theorem dX12_clauseOf_22 : decode cX12_clauseOf 22 = .ok (.iadd, 1) := by decide +kernel
theorem dX12_clauseOf_23 : decode cX12_clauseOf 23 = .ok (.istore_n 2, 1) := by decide +kernel
theorem dX12_clauseOf_24 : decode cX12_clauseOf 24 = .ok (.aload_n 0, 1) := by decide +kernel
theorem dX12_clauseOf_25 : decode cX12_clauseOf 25 = .ok (.getfield 26, 3) := by decide +kernel
theorem dX12_clauseOf_28 : decode cX12_clauseOf 28 = .ok (.iload_n 2, 1) := by decide +kernel
theorem dX12_clauseOf_29 : decode cX12_clauseOf 29 = .ok (.aload_n 0, 1) := by decide +kernel
theorem dX12_clauseOf_30 : decode cX12_clauseOf 30 = .ok (.getfield 23, 3) := by decide +kernel
theorem dX12_clauseOf_33 : decode cX12_clauseOf 33 = .ok (.aload_n 0, 1) := by decide +kernel
theorem dX12_clauseOf_34 : decode cX12_clauseOf 34 = .ok (.getfield 191, 3) := by decide +kernel
theorem dX12_clauseOf_37 : decode cX12_clauseOf 37 = .ok (.iaload, 1) := by decide +kernel
theorem dX12_clauseOf_38 : decode cX12_clauseOf 38 = .ok (.iastore, 1) := by decide +kernel
theorem dX12_clauseOf_39 : decode cX12_clauseOf 39 = .ok (.iload_n 1, 1) := by decide +kernel
theorem dX12_clauseOf_40 : decode cX12_clauseOf 40 = .ok (.ifCond .eq 12, 3) := by decide +kernel
theorem dX12_clauseOf_43 : decode cX12_clauseOf 43 = .ok (.aload_n 0, 1) := by decide +kernel
theorem dX12_clauseOf_44 : decode cX12_clauseOf 44 = .ok (.invokevirtual 249, 3) := by decide +kernel
theorem dX12_clauseOf_47 : decode cX12_clauseOf 47 = .ok (.ifCond .ne 5, 3) := by decide +kernel
theorem dX12_clauseOf_50 : decode cX12_clauseOf 50 = .ok (.iconst 0, 1) := by decide +kernel
theorem dX12_clauseOf_51 : decode cX12_clauseOf 51 = .ok (.ireturn, 1) := by decide +kernel
theorem dX12_clauseOf_52 : decode cX12_clauseOf 52 = .ok (.aload_n 0, 1) := by decide +kernel
theorem dX12_clauseOf_53 : decode cX12_clauseOf 53 = .ok (.getfield 26, 3) := by decide +kernel
theorem dX12_clauseOf_56 : decode cX12_clauseOf 56 = .ok (.iload_n 2, 1) := by decide +kernel
theorem dX12_clauseOf_57 : decode cX12_clauseOf 57 = .ok (.iconst 1, 1) := by decide +kernel
theorem dX12_clauseOf_58 : decode cX12_clauseOf 58 = .ok (.iadd, 1) := by decide +kernel
theorem dX12_clauseOf_59 : decode cX12_clauseOf 59 = .ok (.aload_n 0, 1) := by decide +kernel
theorem dX12_clauseOf_60 : decode cX12_clauseOf 60 = .ok (.getfield 23, 3) := by decide +kernel
theorem dX12_clauseOf_63 : decode cX12_clauseOf 63 = .ok (.aload_n 0, 1) := by decide +kernel
theorem dX12_clauseOf_64 : decode cX12_clauseOf 64 = .ok (.getfield 191, 3) := by decide +kernel
theorem dX12_clauseOf_67 : decode cX12_clauseOf 67 = .ok (.iaload, 1) := by decide +kernel
theorem dX12_clauseOf_68 : decode cX12_clauseOf 68 = .ok (.iastore, 1) := by decide +kernel
theorem dX12_clauseOf_69 : decode cX12_clauseOf 69 = .ok (.aload_n 0, 1) := by decide +kernel
theorem dX12_clauseOf_70 : decode cX12_clauseOf 70 = .ok (.getfield 26, 3) := by decide +kernel
theorem dX12_clauseOf_73 : decode cX12_clauseOf 73 = .ok (.iload_n 2, 1) := by decide +kernel
theorem dX12_clauseOf_74 : decode cX12_clauseOf 74 = .ok (.iconst 2, 1) := by decide +kernel
theorem dX12_clauseOf_75 : decode cX12_clauseOf 75 = .ok (.iadd, 1) := by decide +kernel
theorem dX12_clauseOf_76 : decode cX12_clauseOf 76 = .ok (.iconst (-1), 1) := by decide +kernel
theorem dX12_clauseOf_77 : decode cX12_clauseOf 77 = .ok (.iastore, 1) := by decide +kernel
theorem dX12_clauseOf_78 : decode cX12_clauseOf 78 = .ok (.iload_n 1, 1) := by decide +kernel
theorem dX12_clauseOf_79 : decode cX12_clauseOf 79 = .ok (.ifCond .eq 13, 3) := by decide +kernel
theorem dX12_clauseOf_82 : decode cX12_clauseOf 82 = .ok (.aload_n 0, 1) := by decide +kernel
theorem dX12_clauseOf_83 : decode cX12_clauseOf 83 = .ok (.ldc2_w 276, 3) := by decide +kernel
theorem dX12_clauseOf_86 : decode cX12_clauseOf 86 = .ok (.invokevirtual 278, 3) := by decide +kernel
theorem dX12_clauseOf_89 : decode cX12_clauseOf 89 = .ok (.ifCond .eq 29, 3) := by decide +kernel
theorem dX12_clauseOf_92 : decode cX12_clauseOf 92 = .ok (.aload_n 0, 1) := by decide +kernel
theorem dX12_clauseOf_93 : decode cX12_clauseOf 93 = .ok (.getfield 26, 3) := by decide +kernel
theorem dX12_clauseOf_96 : decode cX12_clauseOf 96 = .ok (.iload_n 2, 1) := by decide +kernel
theorem dX12_clauseOf_97 : decode cX12_clauseOf 97 = .ok (.iconst 2, 1) := by decide +kernel
theorem dX12_clauseOf_98 : decode cX12_clauseOf 98 = .ok (.iadd, 1) := by decide +kernel
theorem dX12_clauseOf_99 : decode cX12_clauseOf 99 = .ok (.aload_n 0, 1) := by decide +kernel
theorem dX12_clauseOf_100 : decode cX12_clauseOf 100 = .ok (.getfield 23, 3) := by decide +kernel
theorem dX12_clauseOf_103 : decode cX12_clauseOf 103 = .ok (.aload_n 0, 1) := by decide +kernel
theorem dX12_clauseOf_104 : decode cX12_clauseOf 104 = .ok (.getfield 191, 3) := by decide +kernel
theorem dX12_clauseOf_107 : decode cX12_clauseOf 107 = .ok (.iaload, 1) := by decide +kernel
theorem dX12_clauseOf_108 : decode cX12_clauseOf 108 = .ok (.iastore, 1) := by decide +kernel
theorem dX12_clauseOf_109 : decode cX12_clauseOf 109 = .ok (.aload_n 0, 1) := by decide +kernel
theorem dX12_clauseOf_110 : decode cX12_clauseOf 110 = .ok (.invokevirtual 281, 3) := by decide +kernel
theorem dX12_clauseOf_113 : decode cX12_clauseOf 113 = .ok (.ifCond .ne 5, 3) := by decide +kernel
theorem dX12_clauseOf_116 : decode cX12_clauseOf 116 = .ok (.iconst 0, 1) := by decide +kernel
theorem dX12_clauseOf_117 : decode cX12_clauseOf 117 = .ok (.ireturn, 1) := by decide +kernel
theorem dX12_clauseOf_118 : decode cX12_clauseOf 118 = .ok (.aload_n 0, 1) := by decide +kernel
theorem dX12_clauseOf_119 : decode cX12_clauseOf 119 = .ok (.getfield 26, 3) := by decide +kernel
theorem dX12_clauseOf_122 : decode cX12_clauseOf 122 = .ok (.iload_n 2, 1) := by decide +kernel
theorem dX12_clauseOf_123 : decode cX12_clauseOf 123 = .ok (.iconst 3, 1) := by decide +kernel
theorem dX12_clauseOf_124 : decode cX12_clauseOf 124 = .ok (.iadd, 1) := by decide +kernel
theorem dX12_clauseOf_125 : decode cX12_clauseOf 125 = .ok (.aload_n 0, 1) := by decide +kernel
theorem dX12_clauseOf_126 : decode cX12_clauseOf 126 = .ok (.getfield 23, 3) := by decide +kernel
theorem dX12_clauseOf_129 : decode cX12_clauseOf 129 = .ok (.aload_n 0, 1) := by decide +kernel
theorem dX12_clauseOf_130 : decode cX12_clauseOf 130 = .ok (.getfield 191, 3) := by decide +kernel
theorem dX12_clauseOf_133 : decode cX12_clauseOf 133 = .ok (.iaload, 1) := by decide +kernel
theorem dX12_clauseOf_134 : decode cX12_clauseOf 134 = .ok (.iastore, 1) := by decide +kernel
theorem dX12_clauseOf_135 : decode cX12_clauseOf 135 = .ok (.aload_n 0, 1) := by decide +kernel
theorem dX12_clauseOf_136 : decode cX12_clauseOf 136 = .ok (.getfield 29, 3) := by decide +kernel
theorem dX12_clauseOf_139 : decode cX12_clauseOf 139 = .ok (.aload_n 0, 1) := by decide +kernel
theorem dX12_clauseOf_140 : decode cX12_clauseOf 140 = .ok (.getfield 191, 3) := by decide +kernel
theorem dX12_clauseOf_143 : decode cX12_clauseOf 143 = .ok (.dup2, 1) := by decide +kernel
theorem dX12_clauseOf_144 : decode cX12_clauseOf 144 = .ok (.iaload, 1) := by decide +kernel
theorem dX12_clauseOf_145 : decode cX12_clauseOf 145 = .ok (.iconst 1, 1) := by decide +kernel
theorem dX12_clauseOf_146 : decode cX12_clauseOf 146 = .ok (.iadd, 1) := by decide +kernel
theorem dX12_clauseOf_147 : decode cX12_clauseOf 147 = .ok (.iastore, 1) := by decide +kernel
theorem dX12_clauseOf_148 : decode cX12_clauseOf 148 = .ok (.iconst 1, 1) := by decide +kernel
theorem dX12_clauseOf_149 : decode cX12_clauseOf 149 = .ok (.ireturn, 1) := by decide +kernel
theorem wk_614 : Cond.constantLong RX12 276 (26982) ∈ tl_L := List.mem_filter.mpr ⟨by decide +kernel, rfl⟩
theorem wk_649 : Cond.methodLink RX12 278 yX12_takesWord ∈ tl_L := List.mem_filter.mpr ⟨by decide +kernel, rfl⟩
theorem wk_650 : Cond.instanceMethod yX12_takesWord ∈ tl_L := List.mem_filter.mpr ⟨by decide +kernel, rfl⟩
theorem wk_651 : Cond.selects RX12 yX12_takesWord yX12_takesWord ∈ tl_L := List.mem_filter.mpr ⟨by decide +kernel, rfl⟩
theorem wk_652 : Cond.code yX12_takesWord cX12_takesWord 3 (some .boolean) ∈ tl_L := List.mem_filter.mpr ⟨List.mem_of_getElem? (i := 1779) (by decide +kernel), rfl⟩
theorem wk_653 : Cond.methodLink RX12 281 yX12_tested ∈ tl_L := List.mem_filter.mpr ⟨by decide +kernel, rfl⟩
theorem wk_654 : Cond.instanceMethod yX12_tested ∈ tl_L := List.mem_filter.mpr ⟨by decide +kernel, rfl⟩
theorem wk_655 : Cond.selects RX12 yX12_tested yX12_tested ∈ tl_L := List.mem_filter.mpr ⟨by decide +kernel, rfl⟩
theorem wk_656 : Cond.code yX12_tested cX12_tested 3 (some .boolean) ∈ tl_L := List.mem_filter.mpr ⟨List.mem_of_getElem? (i := 1783) (by decide +kernel), rfl⟩
theorem lk_X12_278 : tl_kV RX12 278 RX12 yX12_takesWord cX12_takesWord 3 (some .boolean) 1 := ⟨wk_652, wk_649, wk_650, wk_651, wk_5, ⟨by decide +kernel, by decide +kernel, by decide +kernel⟩⟩
theorem lk_X12_281 : tl_kV RX12 281 RX12 yX12_tested cX12_tested 3 (some .boolean) 0 := ⟨wk_656, wk_653, wk_654, wk_655, wk_5, ⟨by decide +kernel, by decide +kernel, by decide +kernel⟩⟩
/-! ===== clauses of a text ===== -/
def sgm (sg : Nat → Int) (t a b L : Int) : Prop := 0 ≤ a ∧ a ≤ b ∧ b ≤ L ∧ rp sg (400 * t + a).toNat (b - a).toNat 1
def tcc (sg mc : Nat → Int) (t c L : Int) : Prop :=
  (mc (48 * t + 4 * c + 2).toNat < 0 ∨ sgm sg t (mc (48 * t + 4 * c + 2).toNat) (mc (48 * t + 4 * c + 3).toNat) L) ∧
  (t ≤ 5 ∨ 14 ≤ t → sgm sg t (mc (48 * t + 4 * c + 0).toNat) (mc (48 * t + 4 * c + 1).toNat) L)
def tc (sg mc ms : Nat → Int) (t L : Int) : Prop := ∀ c : Nat, (c : Int) < ms t.toNat → tcc sg mc t c L
theorem sgm.mono {sg : Nat → Int} {t a b L L2 : Int} (h : sgm sg t a b L) (hL : L ≤ L2) : sgm sg t a b L2 := ⟨h.1, h.2.1, Int.le_trans h.2.2.1 hL, h.2.2.2⟩
theorem sgm.ext {sg sg2 : Nat → Int} {t a b L : Int} (h : sgm sg t a b L) (ht : 0 ≤ t) (he : ∀ i : Nat, 400 * t ≤ i → (i : Int) < 400 * t + L → sg2 i = sg i) : sgm sg2 t a b L := by
  obtain ⟨h1, h2, h3, h4⟩ := h
  exact ⟨h1, h2, h3, h4.ext (fun j hj => he _ (by omega) (by omega))⟩
theorem tc.mono {sg mc ms : Nat → Int} {t L L2 : Int} (h : tc sg mc ms t L) (hL : L ≤ L2) : tc sg mc ms t L2 := fun c hc => ⟨(h c hc).1.imp id (fun q => q.mono hL), fun q => ((h c hc).2 q).mono hL⟩
theorem tc.ext {sg sg2 mc ms : Nat → Int} {t L : Int} (h : tc sg mc ms t L) (ht : 0 ≤ t) (he : ∀ i : Nat, 400 * t ≤ i → (i : Int) < 400 * t + L → sg2 i = sg i) : tc sg2 mc ms t L := fun c hc => ⟨(h c hc).1.imp id (fun q => q.ext ht he), fun q => ((h c hc).2 q).ext ht he⟩
theorem tc.fz {sg sg2 mc ms lam mu : Nat → Int} {t L : Int} (h : tc sg mc ms t L) (ht : 0 ≤ t) (hz : fz sg sg2 lam mu t) (hL : L ≤ lam t.toNat) : tc sg2 mc ms t L := h.ext ht (fun i _ h2 => hz.2.2 i (Or.inl (by omega)))
theorem tc.mc {sg mc mc2 ms : Nat → Int} {t L : Int} (h : tc sg mc ms t L) (ht : 0 ≤ t) (he : ∀ i : Nat, (i : Int) < 48 * t + 4 * ms t.toNat → mc2 i = mc i) : tc sg mc2 ms t L := by
  intro c hc
  have e : ∀ k : Int, 0 ≤ k → k ≤ 3 → mc2 (48 * t + 4 * (c : Int) + k).toNat = mc (48 * t + 4 * (c : Int) + k).toNat := fun k h1 h2 => he _ (by omega)
  have q := h c hc
  unfold tcc at q ⊢
  rw [e 2 (by omega) (by omega), e 3 (by omega) (by omega), e 0 (by omega) (by omega), e 1 (by omega) (by omega)]
  exact q
theorem tc.add {sg mc ms : Nat → Int} {t L : Int} (h : tc sg mc ms t L) (hn : tcc sg mc t (ms t.toNat) L) : tc sg mc (tgu ms t.toNat (ms t.toNat + 1)) t L := by
  intro c hc
  rw [tgu_s] at hc
  by_cases e : (c : Int) = ms t.toNat
  · rw [e]; exact hn
  · exact h c (by omega)
/-- from one state of the reading to another: what belongs to other texts stays -/
def rg (Γ Δ : tk_G) (t : Int) : Prop := (∀ i : Nat, (i : Int) < 400 * t ∨ 400 * t + 400 ≤ i → Δ (43, 8800, 0) i = Γ (43, 8800, 0) i) ∧ (∀ i : Nat, (i : Int) < 48 * t ∨ 48 * t + 48 ≤ i → Δ (45, 1056, 0) i = Γ (45, 1056, 0) i) ∧ ∀ j : Nat, ¬ (j : Int) = t → Δ (46, 22, 0) j = Γ (46, 22, 0) j ∧ Δ (47, 6, 0) j = Γ (47, 6, 0) j ∧ Δ (48, 22, 0) j = Γ (48, 22, 0) j ∧ Δ (49, 22, 0) j = Γ (49, 22, 0) j ∧ Δ (50, 22, 0) j = Γ (50, 22, 0) j ∧ Δ (51, 22, 0) j = Γ (51, 22, 0) j
/-- bounds of what is read of a text, where its reading fails, too -/
def rb (Γ : tk_G) (t : Int) : Prop := (0 ≤ Γ (46, 22, 0) t.toNat ∧ Γ (46, 22, 0) t.toNat ≤ 12) ∧ tc (Γ (43, 8800, 0)) (Γ (45, 1056, 0)) (Γ (46, 22, 0)) t 400 ∧ (t ≤ 5 → 0 ≤ Γ (47, 6, 0) t.toNat ∧ Γ (47, 6, 0) t.toNat ≤ 12) ∧ (-1 ≤ Γ (48, 22, 0) t.toNat ∧ Γ (48, 22, 0) t.toNat ≤ 40) ∧ (-1 ≤ Γ (49, 22, 0) t.toNat ∧ Γ (49, 22, 0) t.toNat ≤ 299) ∧ (0 ≤ Γ (50, 22, 0) t.toNat ∧ Γ (50, 22, 0) t.toNat ≤ 299) ∧ (-1 ≤ Γ (51, 22, 0) t.toNat ∧ Γ (51, 22, 0) t.toNat ≤ 50)
/-- a text that is read as far as it goes -/
def rq (Γ : tk_G) (t : Int) : Prop := (0 ≤ Γ (44, 22, 0) t.toNat ∧ Γ (44, 22, 0) t.toNat ≤ Γ (39, 0, 0) 1) ∧ (0 ≤ Γ (39, 0, 0) 5 ∧ Γ (39, 0, 0) 5 ≤ 60) ∧ (0 ≤ Γ (39, 0, 0) 7 ∧ Γ (39, 0, 0) 7 ≤ 12) ∧ Γ (46, 22, 0) t.toNat ≤ Γ (39, 0, 0) 7 ∧ (t ≤ 5 → Γ (47, 6, 0) t.toNat ≤ Γ (39, 0, 0) 7) ∧ tc (Γ (43, 8800, 0)) (Γ (45, 1056, 0)) (Γ (46, 22, 0)) t (Γ (44, 22, 0) t.toNat)
theorem rg.refl {Γ : tk_G} {t : Int} : rg Γ Γ t := ⟨fun _ _ => rfl, fun _ _ => rfl, fun _ _ => ⟨rfl, rfl, rfl, rfl, rfl, rfl⟩⟩
theorem rg.trans {Γ Δ Ξ : tk_G} {t : Int} (h : rg Γ Δ t) (h2 : rg Δ Ξ t) : rg Γ Ξ t := by
  refine ⟨fun i hi => (h2.1 i hi).trans (h.1 i hi), fun i hi => (h2.2.1 i hi).trans (h.2.1 i hi), fun j hj => ?_⟩
  obtain ⟨a1, a2, a3, a4, a5, a6⟩ := h.2.2 j hj
  obtain ⟨b1, b2, b3, b4, b5, b6⟩ := h2.2.2 j hj
  exact ⟨b1.trans a1, b2.trans a2, b3.trans a3, b4.trans a4, b5.trans a5, b6.trans a6⟩
theorem rg.same {Γ Δ Ξ : tk_G} {t : Int} (h : rg Γ Δ t) (e : ∀ κ : tk_K, κ.1 ∉ ([39] : List Nat) → Ξ κ = Δ κ) : rg Γ Ξ t :=
  h.trans ⟨fun i _ => by rw [e _ (by decide)], fun i _ => by rw [e _ (by decide)], fun j _ => ⟨by rw [e _ (by decide)], by rw [e _ (by decide)], by rw [e _ (by decide)], by rw [e _ (by decide)], by rw [e _ (by decide)], by rw [e _ (by decide)]⟩⟩
theorem rb.same {Δ Ξ : tk_G} {t : Int} (h : rb Δ t) (e : ∀ κ : tk_K, κ.1 ∉ ([39] : List Nat) → Ξ κ = Δ κ) : rb Ξ t := by
  unfold rb
  rw [e (46, 22, 0) (by decide), e (43, 8800, 0) (by decide), e (45, 1056, 0) (by decide), e (47, 6, 0) (by decide), e (48, 22, 0) (by decide), e (49, 22, 0) (by decide), e (50, 22, 0) (by decide), e (51, 22, 0) (by decide)]
  exact h
theorem tg_M {G : tk_G} {k n w j : Nat} {v : Int} : ∀ κ : tk_K, κ.1 ∉ ([k] : List Nat) → tg G (k, n, w) j v κ = G κ := by
  intro κ h
  funext i
  exact tg_n (fun q => h (by rw [q]; exact List.mem_singleton.mpr rfl))
theorem rg.put {Γ G G2 : tk_G} {k n : Nat} {t v : Int} (h : rg Γ G t) (ht : 0 ≤ t) (e : G2 = tg G (k, n, 0) t.toNat v) (h1 : 43 ≠ k) (h2 : 45 ≠ k) : rg Γ G2 t := by
  subst e
  exact h.trans ⟨fun i _ => tg_r h1, fun i _ => tg_r h2, fun j hj => ⟨tg_i (by omega), tg_i (by omega), tg_i (by omega), tg_i (by omega), tg_i (by omega), tg_i (by omega)⟩⟩
theorem rb.put {G G2 : tk_G} {k n : Nat} {t v : Int} (h : rb G t) (e : G2 = tg G (k, n, 0) t.toNat v) (h0 : 43 ≠ k ∧ 45 ≠ k ∧ 46 ≠ k ∧ 47 ≠ k) (h1 : k = 48 → -1 ≤ v ∧ v ≤ 40) (h2 : k = 49 → -1 ≤ v ∧ v ≤ 299) (h3 : k = 50 → 0 ≤ v ∧ v ≤ 299) (h4 : k = 51 → -1 ≤ v ∧ v ≤ 50) : rb G2 t := by
  subst e
  obtain ⟨a1, a2, a3, a4, a5, a6, a7⟩ := h
  have g : ∀ {P : Int → Prop} (k2 : Nat), (k = k2 → P v) → P (G (k2, 22, 0) t.toNat) → P (tg G (k, n, 0) t.toNat v (k2, 22, 0) t.toNat) := by
    intro P k2 p1 p2
    unfold tg
    by_cases q : (k2, 22, 0) = (k, n, 0) ∧ t.toNat = t.toNat
    · rw [if_pos q]; exact p1 (congrArg Prod.fst q.1).symm
    · rw [if_neg q]; exact p2
  unfold rb
  rw [tg_rf h0.1, tg_rf h0.2.1, tg_rf h0.2.2.1, tg_rf h0.2.2.2]
  exact ⟨a1, a2, a3, g (P := fun x => -1 ≤ x ∧ x ≤ 40) _ h1 a4, g (P := fun x => -1 ≤ x ∧ x ≤ 299) _ h2 a5, g (P := fun x => 0 ≤ x ∧ x ≤ 299) _ h3 a6, g (P := fun x => -1 ≤ x ∧ x ≤ 50) _ h4 a7⟩
/-- the word that a clause begins with, by the text's sort -/
def tr_H (τ : Nat → Int) (T s t : Int) : Prop := (t ≤ 5 ∧ (tr_W τ T s 495672979045 ∨ tr_W τ T s 125797183548517 ∨ tr_W τ T s 474315584357 ∨ tr_W τ T s 1700885619)) ∨ ((6 ≤ t ∧ t ≤ 13) ∧ (tr_W τ T s 422608528499 ∨ tr_W τ T s 6775152 ∨ tr_W τ T s 2003395685 ∨ tr_W τ T s 1936419184)) ∨ (14 ≤ t ∧ tr_W τ T s 444150998387)
theorem tr_H.L {τ : Nat → Int} {T s t : Int} (h : tr_H τ T s t) : tr_L τ T s := by
  rcases h with ⟨_, h | h | h | h⟩ | ⟨_, h | h | h | h⟩ | ⟨_, h⟩ <;> exact h.L
theorem tr_H.eats {τ : Nat → Int} {T s t : Int} (h : tr_H τ T s t) (h2 : tr_W τ T s 1700885619) : t ≤ 5 := by
  rcases h with ⟨q, _⟩ | ⟨_, h | h | h | h⟩ | ⟨_, h⟩
  · exact q
  · exact absurd (h.uniq h2) (by decide)
  · exact absurd (h.uniq h2) (by decide)
  · exact absurd (h.uniq h2) (by decide)
  · exact absurd (h.uniq h2) (by decide)
  · exact absurd (h.uniq h2) (by decide)
theorem tr_H.skip {τ : Nat → Int} {T s t : Int} (h : tr_H τ T s t) (h2 : tr_W τ T s 1936419184) : 6 ≤ t ∧ t ≤ 13 := by
  rcases h with ⟨_, h | h | h | h⟩ | ⟨q, _⟩ | ⟨_, h⟩
  · exact absurd (h.uniq h2) (by decide)
  · exact absurd (h.uniq h2) (by decide)
  · exact absurd (h.uniq h2) (by decide)
  · exact absurd (h.uniq h2) (by decide)
  · exact q
  · exact absurd (h.uniq h2) (by decide)
set_option maxHeartbeats 4000000 in
set_option maxRecDepth 100000 in
theorem r_clauseOf_1 (l : Launch) (D : va_G) (cy : Nat → ClassId) (sz : Nat) (L : List Nat) (K : Nat → tk_K) (Γ : tk_G) (f : Nat → va_E) (o : Nat) (τ : Nat → Int) (T0 : Int) (t0 : Int) (ho : tp_r L K 39 (0) 0 o) (ht : Γ (41, 400, 0) = τ) (hT : Γ (39, 0, 0) 0 = T0) (hb0 : 0 ≤ Γ (39, 0, 0) 1 ∧ Γ (39, 0, 0) 1 ≤ T0 ∧ T0 ≤ 400) (h4 : Γ (39, 0, 0) 4 = t0 ∧ 0 ≤ t0 ∧ t0 ≤ 21) (hln : 0 ≤ Γ (44, 22, 0) t0.toNat ∧ Γ (44, 22, 0) t0.toNat ≤ Γ (39, 0, 0) 1) (h5 : 0 ≤ Γ (39, 0, 0) 5 ∧ Γ (39, 0, 0) 5 ≤ 60) (hC : 0 ≤ Γ (46, 22, 0) t0.toNat ∧ Γ (46, 22, 0) t0.toNat ≤ 11) (htc : tc (Γ (43, 8800, 0)) (Γ (45, 1056, 0)) (Γ (46, 22, 0)) t0 (Γ (44, 22, 0) t0.toNat)) : Met l yX12_clauseOf (tl_w yX12_clauseOf cX12_clauseOf 3 (some .boolean)) ({ frames := 9, cells := 0, slots := 0, locals := 198 }) (va_Pc [.ref o, .int 1] (tp_P D cy L K Γ f sz)) (va_Qi (fun (r : Int32) (u : (Nat → va_E) × tk_G) => tl_J r (u.2 (46, 22, 0) = tgu (Γ (46, 22, 0)) t0.toNat (Γ (46, 22, 0) t0.toNat + 1) ∧ u.2 (44, 22, 0) t0.toNat ≤ u.2 (39, 0, 0) 1 ∧ (0 ≤ u.2 (39, 0, 0) 5 ∧ u.2 (39, 0, 0) 5 ≤ 60) ∧ tc (u.2 (43, 8800, 0)) (u.2 (45, 1056, 0)) (u.2 (46, 22, 0)) t0 (u.2 (44, 22, 0) t0.toNat)) ∧ u.2 (39, 0, 0) 0 = Γ (39, 0, 0) 0 ∧ u.2 (39, 0, 0) 4 = Γ (39, 0, 0) 4 ∧ u.2 (39, 0, 0) 7 = Γ (39, 0, 0) 7 ∧ Γ (39, 0, 0) 1 ≤ u.2 (39, 0, 0) 1 ∧ u.2 (39, 0, 0) 1 ≤ T0 ∧ fw (Γ (43, 8800, 0)) (u.2 (43, 8800, 0)) (Γ (44, 22, 0)) (u.2 (44, 22, 0)) t0 ∧ (∀ i : Nat, (i : Int) < 48 * t0 ∨ 48 * t0 + 48 ≤ i → u.2 (45, 1056, 0) i = Γ (45, 1056, 0) i) ∧ (∀ j : Nat, ¬ j = t0.toNat → u.2 (46, 22, 0) j = Γ (46, 22, 0) j) ∧ tc (u.2 (43, 8800, 0)) (u.2 (45, 1056, 0)) (u.2 (46, 22, 0)) t0 (400) ∧ (Γ (46, 22, 0) t0.toNat ≤ u.2 (46, 22, 0) t0.toNat ∧ u.2 (46, 22, 0) t0.toNat ≤ Γ (46, 22, 0) t0.toNat + 1)) (tp_BG D cy L K Γ f [39, 43, 44, 52, 45, 46]) (tp_A L sz)) 0 0 (tp_A L sz) := by
  refine Met.ofW (cc := cX12_clauseOf) (maxL := 3) (ret := (some .boolean)) (by decide) rfl ?_
  intro p e s m args below meth c s₁ B hml hv
  obtain ⟨rfl, hsz, hP, hK, hL, hI, hN, hU⟩ := hv
  have hx := B.exec
  have hb := B.bytes
  have hr := B.returns
  have hta := tl_hta (atoms_spec (ws := tl_w yX12_clauseOf cX12_clauseOf 3 (some .boolean)) B.pre)
  have hown : s.vm.findClass RX12 = some m.cls := findClass_of_methodNamed B.named
  have hlocks := B.notSynchronized
  subst hsz
  have hI0 := hI
  generalize hAe : tp_A L s.heap.size = A
  have hA : ∀ q : Nat, s.heap.size ≤ q → A q := fun q h => by rw [← hAe]; exact Or.inr h
  have hAL : ∀ q ∈ L, A q := fun q h => by rw [← hAe]; exact Or.inl h
  have hAf : ∀ (H : Heap), s.heap.size ≤ H.size → ∀ q, tp_A L H.size q → A q := fun H h q hq => hq.elim (hAL q) (fun h2 => hA q (Nat.le_trans h h2))
  have hS : va_S A s.heap s.heap [] := va_S.rf
  have hD : va_D A (va_pl L f) := tp_D hL hAL
  have hfr : ∀ b, (K b).1 ∉ ([39, 43, 44, 52, 45, 46] : List Nat) → f b = f b := fun _ _ => rfl
  have hgr : ∀ κ : tk_K, κ.1 ∉ ([39, 43, 44, 52, 45, 46] : List Nat) → Γ κ = Γ κ := fun _ _ => rfl
  have hl := lv_entry ([.ref o, .int 1]) (n := 3) (Nat.le_of_ble_eq_true rfl)
  rw [lg_entry_eq]
  generalize (lg_sl ([.ref o, .int 1]) ++ List.replicate (3 - (lg_sl ([.ref o, .int 1])).length) Slot.unset).toArray = ls at hl ⊢
  have hl : lv_has ls 3 [(0, .ref o), (1, .int 1)] := hl
  obtain ⟨A0, hA0⟩ : ∃ y : Int, y = Γ (44, 22, 0) t0.toNat := ⟨_, rfl⟩
  obtain ⟨a, ha2⟩ : ∃ y : Nat, y = (400 * t0 + Γ (44, 22, 0) t0.toNat).toNat := ⟨_, rfl⟩
  obtain ⟨d, hd2⟩ : ∃ y : Int, y = 0 := ⟨_, rfl⟩
  have hz : fz (Γ (43, 8800, 0)) (Γ (43, 8800, 0)) (Γ (44, 22, 0)) (Γ (44, 22, 0)) t0 := fz.rfl
  have hfw : fw (Γ (43, 8800, 0)) (Γ (43, 8800, 0)) (Γ (44, 22, 0)) (Γ (44, 22, 0)) t0 := fw.same
  have hp : ps (Γ (43, 8800, 0)) t0 (Γ (44, 22, 0) t0.toNat) (Γ (39, 0, 0) 1) T0 (Γ (39, 0, 0) 5) a (d) := by rw [hd2]; exact ⟨by omega, by omega, by omega, by omega, by rw [show (400 * t0 + Γ (44, 22, 0) t0.toNat).toNat - a = 0 from by omega]; exact rp0⟩
  have hO_MCL : Γ (45, 1056, 0) = Γ (45, 1056, 0) := rfl
  have hO_MCLS : Γ (46, 22, 0) = Γ (46, 22, 0) := rfl
  refine lv_aload_n hx hb dX12_clauseOf_0 rfl (lv_at hl 0 rfl) ?_
  obtain ⟨r_2, v_3, q_4, hf_1, hr_5, hv_6⟩ := (show tp_o_M L K 0 0 (Γ (39, 0, 0)) (f o) from hI.at ho)
  have hx_7 : (v_3 0).toInt = Γ (39, 0, 0) 0 := hv_6 0 (by decide)
  have hx_8 : (v_3 1).toInt = Γ (39, 0, 0) 1 := hv_6 1 (by decide)
  have hx_9 : (v_3 3).toInt = Γ (39, 0, 0) 3 := hv_6 3 (by decide)
  have hx_10 : (v_3 4).toInt = Γ (39, 0, 0) 4 := hv_6 4 (by decide)
  have hx_11 : (v_3 5).toInt = Γ (39, 0, 0) 5 := hv_6 5 (by decide)
  have hx_12 : (v_3 6).toInt = Γ (39, 0, 0) 6 := hv_6 6 (by decide)
  have hx_13 : (v_3 7).toInt = Γ (39, 0, 0) 7 := hv_6 7 (by decide)
  have hx_14 : (v_3 8).toInt = Γ (39, 0, 0) 8 := hv_6 8 (by decide)
  refine tq_cvR hS (hAf _ hS.1) (tq_rV (As := []) (rest := []) ⟨hx, hb, hml, hown, hta⟩ (tp_P.pre hK hN hL hU hI hP) (tp_recv hK hP ho.1 hf_1 rfl) lk_X12_178 (r_X12_passWord l D cy s.heap.size L K Γ f o τ T0 ho ht (by first | omega | (simp only [Int32.toInt_toInt64]; omega) | decide | assumption) (by first | omega | (simp only [Int32.toInt_toInt64]; omega) | decide | assumption)) rfl rfl ⟨Nat.le_of_ble_eq_true rfl, Nat.le_of_ble_eq_true rfl⟩ rfl hl.1 rfl (Nat.le_of_ble_eq_true rfl) dX12_clauseOf_1 ⟨Nat.le_of_ble_eq_true rfl, Nat.le_of_ble_eq_true rfl⟩) (fun f_17 Γ_19 H locs hw_15 hP hI hc_18 hcg_20 hS => ?_)
  have hD : va_D A (va_pl L f_17) := tp_D hL hAL
  have hfr := tp_fr2 hfr hc_18 (by decide)
  have hgr : ∀ κ : tk_K, κ.1 ∉ ([39, 43, 44, 52, 45, 46] : List Nat) → Γ_19 κ = Γ κ := tg_fr2 hgr hcg_20 (by decide)
  have wy_19_MLEN : Γ_19 (44, 22, 0) t0.toNat = Γ (44, 22, 0) t0.toNat := congrFun (hcg_20 (44, 22, 0) (by decide)) _
  have wy_19_MCLS : Γ_19 (46, 22, 0) t0.toNat = Γ (46, 22, 0) t0.toNat := congrFun (hcg_20 (46, 22, 0) (by decide)) _
  have hw_15 : Γ_19 (39, 0, 0) 0 = Γ (39, 0, 0) 0 ∧ Γ_19 (39, 0, 0) 3 = Γ (39, 0, 0) 3 ∧ Γ_19 (39, 0, 0) 4 = Γ (39, 0, 0) 4 ∧ Γ_19 (39, 0, 0) 5 = Γ (39, 0, 0) 5 ∧ Γ_19 (39, 0, 0) 6 = Γ (39, 0, 0) 6 ∧ Γ_19 (39, 0, 0) 7 = Γ (39, 0, 0) 7 ∧ Γ_19 (39, 0, 0) 8 = Γ (39, 0, 0) 8 ∧ Γ (39, 0, 0) 1 ≤ Γ_19 (39, 0, 0) 1 ∧ Γ_19 (39, 0, 0) 1 ≤ T0 ∧ (tr_L τ T0 (Γ (39, 0, 0) 1) → Γ (39, 0, 0) 1 + 1 ≤ Γ_19 (39, 0, 0) 1) := hw_15
  have hO_MCL : Γ_19 (45, 1056, 0) = Γ (45, 1056, 0) := (hcg_20 (45, 1056, 0) (by decide)).trans hO_MCL
  have hO_MCLS : Γ_19 (46, 22, 0) = Γ (46, 22, 0) := (hcg_20 (46, 22, 0) (by decide)).trans hO_MCLS
  obtain ⟨hpa, hpb, hpc, hpd, _⟩ := id hp
  have hle := congrFun (hcg_20 (44, 22, 0) (by decide)) t0.toNat
  have hp : ps (Γ_19 (43, 8800, 0)) t0 (Γ_19 (44, 22, 0) t0.toNat) (Γ_19 (39, 0, 0) 1) T0 (Γ_19 (39, 0, 0) 5) a (d) := hp.eq (hcg_20 (43, 8800, 0) (by decide)) rfl (congrFun (hcg_20 (44, 22, 0) (by decide)) _) (by omega) rfl (by omega)
  have hz : fz (Γ (43, 8800, 0)) (Γ_19 (43, 8800, 0)) (Γ (44, 22, 0)) (Γ_19 (44, 22, 0)) t0 := by rw [(hcg_20 (43, 8800, 0) (by decide)), (hcg_20 (44, 22, 0) (by decide))]; exact hz
  have hfw : fw (Γ (43, 8800, 0)) (Γ_19 (43, 8800, 0)) (Γ (44, 22, 0)) (Γ_19 (44, 22, 0)) t0 := by rw [(hcg_20 (43, 8800, 0) (by decide)), (hcg_20 (44, 22, 0) (by decide))]; exact hfw
  refine lv_bipush (v := 48) hx hb dX12_clauseOf_4 (by decide) ?_
  refine lv_aload_n hx hb dX12_clauseOf_6 rfl (lv_at hl 0 rfl) ?_
  obtain ⟨r_22, v_23, q_24, hf_21, hr_25, hv_26⟩ := (show tp_o_M L K 0 0 (Γ_19 (39, 0, 0)) (f_17 o) from hI.at ho)
  have hx_27 : (v_23 0).toInt = Γ_19 (39, 0, 0) 0 := hv_26 0 (by decide)
  have hx_28 : (v_23 1).toInt = Γ_19 (39, 0, 0) 1 := hv_26 1 (by decide)
  have hx_29 : (v_23 3).toInt = Γ_19 (39, 0, 0) 3 := hv_26 3 (by decide)
  have hx_30 : (v_23 4).toInt = Γ_19 (39, 0, 0) 4 := hv_26 4 (by decide)
  have hx_31 : (v_23 5).toInt = Γ_19 (39, 0, 0) 5 := hv_26 5 (by decide)
  have hx_32 : (v_23 6).toInt = Γ_19 (39, 0, 0) 6 := hv_26 6 (by decide)
  have hx_33 : (v_23 7).toInt = Γ_19 (39, 0, 0) 7 := hv_26 7 (by decide)
  have hx_34 : (v_23 8).toInt = Γ_19 (39, 0, 0) 8 := hv_26 8 (by decide)
  refine tp_get (cy := cy) (ci := 12) (v := .int (v_23 4)) (C := RX12) (T := TX12) (N := 49) hx hb hta inlX12 hown hK hP ho.1 hf_21 rfl 20 (by decide) (hta _ wk_537) (fun _ h9 => h9) rfl dX12_clauseOf_7 ?_
  refine lv_imul hx hb dX12_clauseOf_10 ?_
  refine lv_topi (fun z_35 ez_35 => ?_)
  try have iz_35 : z_35.toInt = (48 : Int) * (v_23 4).toInt := by rw [ez_35]; exact tl_mulN 48 (v_23 4) rfl rfl (by omega) (by omega)
  refine lv_iconst (v := 4) hx hb dX12_clauseOf_11 (by decide) ?_
  refine lv_aload_n hx hb dX12_clauseOf_12 rfl (lv_at hl 0 rfl) ?_
  refine tp_get (cy := cy) (ci := 12) (v := .ref (r_22 6)) (C := RX12) (T := TX12) (N := 49) hx hb hta inlX12 hown hK hP ho.1 hf_21 rfl 7 (by decide) (hta _ wk_156) (fun _ h9 => h9) rfl dX12_clauseOf_13 ?_
  refine lv_aload_n hx hb dX12_clauseOf_16 rfl (lv_at hl 0 rfl) ?_
  refine tp_get (cy := cy) (ci := 12) (v := .int (v_23 4)) (C := RX12) (T := TX12) (N := 49) hx hb hta inlX12 hown hK hP ho.1 hf_21 rfl 20 (by decide) (hta _ wk_537) (fun _ h9 => h9) rfl dX12_clauseOf_17 ?_
  obtain ⟨g_37, hf_36, hg_38⟩ := (show tp_gi cy (22) (Γ_19 (46, 22, 0)) (f_17 (r_22 6)) from hI.at (show tp_r L K 46 22 0 (r_22 6) from hr_25 6 (by decide)))
  have hn_39 : vp_in (v_23 4) (22) := tl_in (by omega) (by omega)
  refine tp_iald (cy := cy) hx hb hK hP (show tp_r L K 46 22 0 (r_22 6) from hr_25 6 (by decide)).1 hf_36 hn_39 dX12_clauseOf_20 ?_
  refine lv_topi (fun z_40 ez_40 => ?_)
  have iz_40 : z_40.toInt = Γ_19 (46, 22, 0) (v_23 4).toInt.toNat := by rw [ez_40]; exact hg_38 _ (tp_pin hn_39)
  have jz_40 : z_40.toInt = Γ_19 (46, 22, 0) t0.toNat := by rw [show t0 = (v_23 4).toInt from by omega]; exact iz_40
  refine lv_imul hx hb dX12_clauseOf_21 ?_
  refine lv_topi (fun z_41 ez_41 => ?_)
  try have iz_41 : z_41.toInt = (4 : Int) * z_40.toInt := by rw [ez_41]; exact tl_mulN 4 z_40 rfl rfl (by omega) (by omega)
  refine lv_iadd hx hb dX12_clauseOf_22 ?_
  refine lv_topi (fun z_42 ez_42 => ?_)
  try have iz_42 : z_42.toInt = z_35.toInt + z_41.toInt := by rw [ez_42]; exact tl_addN z_35 z_41 rfl rfl (by omega) (by omega)
  refine lv_istore_n (lv' := [(2, .int z_42), (0, .ref o), (1, .int 1)]) hx hb dX12_clauseOf_23 rfl hl (by decide) rfl (fun ls hl => ?_)
  refine lv_aload_n hx hb dX12_clauseOf_24 rfl (lv_at hl 1 rfl) ?_
  refine tp_get (cy := cy) (ci := 12) (v := .ref (r_22 5)) (C := RX12) (T := TX12) (N := 49) hx hb hta inlX12 hown hK hP ho.1 hf_21 rfl 6 (by decide) (hta _ wk_155) (fun _ h9 => h9) rfl dX12_clauseOf_25 ?_
  refine lv_iload_n hx hb dX12_clauseOf_28 rfl (lv_at hl 0 rfl) ?_
  refine lv_aload_n hx hb dX12_clauseOf_29 rfl (lv_at hl 1 rfl) ?_
  refine tp_get (cy := cy) (ci := 12) (v := .ref (r_22 4)) (C := RX12) (T := TX12) (N := 49) hx hb hta inlX12 hown hK hP ho.1 hf_21 rfl 5 (by decide) (hta _ wk_154) (fun _ h9 => h9) rfl dX12_clauseOf_30 ?_
  refine lv_aload_n hx hb dX12_clauseOf_33 rfl (lv_at hl 1 rfl) ?_
  refine tp_get (cy := cy) (ci := 12) (v := .int (v_23 4)) (C := RX12) (T := TX12) (N := 49) hx hb hta inlX12 hown hK hP ho.1 hf_21 rfl 20 (by decide) (hta _ wk_537) (fun _ h9 => h9) rfl dX12_clauseOf_34 ?_
  obtain ⟨g_44, hf_43, hg_45⟩ := (show tp_gi cy (22) (Γ_19 (44, 22, 0)) (f_17 (r_22 4)) from hI.at (show tp_r L K 44 22 0 (r_22 4) from hr_25 4 (by decide)))
  have hn_46 : vp_in (v_23 4) (22) := tl_in (by omega) (by omega)
  refine tp_iald (cy := cy) hx hb hK hP (show tp_r L K 44 22 0 (r_22 4) from hr_25 4 (by decide)).1 hf_43 hn_46 dX12_clauseOf_37 ?_
  refine lv_topi (fun z_47 ez_47 => ?_)
  have iz_47 : z_47.toInt = Γ_19 (44, 22, 0) (v_23 4).toInt.toNat := by rw [ez_47]; exact hg_45 _ (tp_pin hn_46)
  have jz_47 : z_47.toInt = Γ_19 (44, 22, 0) t0.toNat := by rw [show t0 = (v_23 4).toInt from by omega]; exact iz_47
  obtain ⟨g_49, hf_48, hg_50⟩ := (show tp_gi cy (1056) (Γ_19 (45, 1056, 0)) (f_17 (r_22 5)) from hI.at (show tp_r L K 45 1056 0 (r_22 5) from hr_25 5 (by decide)))
  have hn_51 : vp_in z_42 (1056) := tl_in (by omega) (by omega)
  have hj_52 : z_42.toNatClampNeg = (48 * t0 + 4 * Γ (46, 22, 0) t0.toNat + 0).toNat := by show z_42.toInt.toNat = _; omega
  have hv_53 : z_47.toInt = A0 := by omega
  obtain ⟨Γ_54, eΓ_54⟩ : ∃ y : tk_G, y = tg Γ_19 (45, 1056, 0) ((48 * t0 + 4 * Γ (46, 22, 0) t0.toNat + 0).toNat) A0 := ⟨_, rfl⟩
  have hI9 : tp_I cy L K Γ_54 (va_up f_17 (r_22 5) (.inl (cy 0, 1056, .inl (upd g_49 z_42.toNatClampNeg z_47)))) := by have q9 : tg Γ_19 (45, 1056, 0) ((48 * t0 + 4 * Γ (46, 22, 0) t0.toNat + 0).toNat) A0 = tg Γ_19 (45, 1056, 0) z_42.toNatClampNeg z_47.toInt := (by rw [hj_52, hv_53]); rw [eΓ_54, q9]; exact hI.setg hU rfl (show tp_r L K 45 1056 0 (r_22 5) from hr_25 5 (by decide)) (show tp_gi cy (1056) (tgu (Γ_19 (45, 1056, 0)) _ _) _ from ⟨_, rfl, tp_gi_upd hg_50⟩)
  have hfr9 : ∀ b, (K b).1 ∉ ([39, 43, 44, 52, 45, 46] : List Nat) → va_up f_17 (r_22 5) (.inl (cy 0, 1056, .inl (upd g_49 z_42.toNatClampNeg z_47))) b = f b := tp_fr hfr (show tp_r L K 45 1056 0 (r_22 5) from hr_25 5 (by decide)) (by decide)
  refine tp_iast (cy := cy) hx hb hK hP hD hS (show tp_r L K 45 1056 0 (r_22 5) from hr_25 5 (by decide)).1 hf_48 hn_51 dX12_clauseOf_38 (fun H locs hP hD hS => ?_)
  have hP : va_P D vwCl (va_pl L (va_up f_17 (r_22 5) (.inl (cy 0, 1056, .inl (upd g_49 z_42.toNatClampNeg z_47))))) H := hP
  generalize hfe : va_up f_17 (r_22 5) (.inl (cy 0, 1056, .inl (upd g_49 z_42.toNatClampNeg z_47))) = f_55 at hP hI9 hfr9
  have hD : va_D A (va_pl L f_55) := tp_D hL hAL
  have hf_56 := (show f_55 o = _ from by rw [← hfe, va_up_ne _ _ (tp_ne ho (show tp_r L K 45 1056 0 (r_22 5) from hr_25 5 (by decide)) (by decide))]).trans hf_21
  have hf_57 := (show f_55 (r_22 6) = _ from by rw [← hfe, va_up_ne _ _ (tp_ne (show tp_r L K 46 22 0 (r_22 6) from hr_25 6 (by decide)) (show tp_r L K 45 1056 0 (r_22 5) from hr_25 5 (by decide)) (by decide))]).trans hf_36
  have hf_58 := (show f_55 (r_22 4) = _ from by rw [← hfe, va_up_ne _ _ (tp_ne (show tp_r L K 44 22 0 (r_22 4) from hr_25 4 (by decide)) (show tp_r L K 45 1056 0 (r_22 5) from hr_25 5 (by decide)) (by decide))]).trans hf_43
  have hf_59 : f_55 (r_22 5) = .inl (cy 0, 1056, .inl (upd g_49 z_42.toNatClampNeg z_47)) := by rw [← hfe]; exact va_up_self _ _ _
  clear hfe
  have hI := hI9
  have hfr := hfr9
  clear hI9 hfr9
  have wxΓ_54_MLEN : Γ_54 (44, 22, 0) t0.toNat = Γ_19 (44, 22, 0) t0.toNat := by rw [eΓ_54, tg_r (by decide)]
  have wxΓ_54_MCLS : Γ_54 (46, 22, 0) t0.toNat = Γ_19 (46, 22, 0) t0.toNat := by rw [eΓ_54, tg_r (by decide)]
  have wsΓ_54 : Γ_54 (45, 1056, 0) ((48 * t0 + 4 * Γ (46, 22, 0) t0.toNat + 0).toNat) = A0 := by rw [eΓ_54]; exact tg_s
  have hgr : ∀ κ : tk_K, κ.1 ∉ ([39, 43, 44, 52, 45, 46] : List Nat) → Γ_54 κ = Γ κ := tg_fr hgr eΓ_54 (by decide)
  have hv_60 : ∀ i : Nat, i < 16 → (v_23 i).toInt = Γ_54 (39, 0, 0) i := fun i hi => by rw [eΓ_54, tg_r (by decide)]; exact hv_26 i hi
  have hx_61 : (v_23 0).toInt = Γ_54 (39, 0, 0) 0 := hv_60 0 (by decide)
  have hx_62 : (v_23 1).toInt = Γ_54 (39, 0, 0) 1 := hv_60 1 (by decide)
  have hx_63 : (v_23 3).toInt = Γ_54 (39, 0, 0) 3 := hv_60 3 (by decide)
  have hx_64 : (v_23 4).toInt = Γ_54 (39, 0, 0) 4 := hv_60 4 (by decide)
  have hx_65 : (v_23 5).toInt = Γ_54 (39, 0, 0) 5 := hv_60 5 (by decide)
  have hx_66 : (v_23 6).toInt = Γ_54 (39, 0, 0) 6 := hv_60 6 (by decide)
  have hx_67 : (v_23 7).toInt = Γ_54 (39, 0, 0) 7 := hv_60 7 (by decide)
  have hx_68 : (v_23 8).toInt = Γ_54 (39, 0, 0) 8 := hv_60 8 (by decide)
  have hg_69 : ∀ j : Nat, j < 22 → (g_37 j).toInt = Γ_54 (46, 22, 0) j := fun j hj => by rw [eΓ_54, tg_r (by decide)]; exact hg_38 j hj
  have hg_70 : ∀ j : Nat, j < 22 → (g_44 j).toInt = Γ_54 (44, 22, 0) j := fun j hj => by rw [eΓ_54, tg_r (by decide)]; exact hg_45 j hj
  have hO_MCL : Γ_54 (45, 1056, 0) = tgu (Γ (45, 1056, 0)) ((48 * t0 + 4 * Γ (46, 22, 0) t0.toNat + 0).toNat) (A0) := by rw [eΓ_54, tg_f, hO_MCL]
  have hO_MCLS : Γ_54 (46, 22, 0) = Γ (46, 22, 0) := by rw [eΓ_54, tg_rf (by decide)]; exact hO_MCLS
  obtain ⟨hpa, hpb, hpc, hpd, _⟩ := id hp
  have hle := congrFun (show Γ_54 (44, 22, 0) = _ from by rw [eΓ_54, tg_rf (by decide)]) t0.toNat
  have hp : ps (Γ_54 (43, 8800, 0)) t0 (Γ_54 (44, 22, 0) t0.toNat) (Γ_54 (39, 0, 0) 1) T0 (Γ_54 (39, 0, 0) 5) a (d) := hp.eq (show Γ_54 (43, 8800, 0) = _ from by rw [eΓ_54, tg_rf (by decide)]) rfl (congrFun (show Γ_54 (44, 22, 0) = _ from by rw [eΓ_54, tg_rf (by decide)]) _) (by omega) rfl (by omega)
  have hz : fz (Γ (43, 8800, 0)) (Γ_54 (43, 8800, 0)) (Γ (44, 22, 0)) (Γ_54 (44, 22, 0)) t0 := by rw [(show Γ_54 (43, 8800, 0) = _ from by rw [eΓ_54, tg_rf (by decide)]), (show Γ_54 (44, 22, 0) = _ from by rw [eΓ_54, tg_rf (by decide)])]; exact hz
  have hfw : fw (Γ (43, 8800, 0)) (Γ_54 (43, 8800, 0)) (Γ (44, 22, 0)) (Γ_54 (44, 22, 0)) t0 := by rw [(show Γ_54 (43, 8800, 0) = _ from by rw [eΓ_54, tg_rf (by decide)]), (show Γ_54 (44, 22, 0) = _ from by rw [eΓ_54, tg_rf (by decide)])]; exact hfw
  refine lv_iload_n hx hb dX12_clauseOf_39 rfl (lv_at hl 2 rfl) ?_
  refine lv_if_eq (tgt := 52) hx hb dX12_clauseOf_40 (by decide) (fun c => absurd c (by decide)) (fun _ => ?_)
  refine lv_aload_n hx hb dX12_clauseOf_43 rfl (lv_at hl 1 rfl) ?_
  refine tq_ciR hS (hAf _ hS.1) (tq_rV (As := []) (rest := []) ⟨hx, hb, hml, hown, hta⟩ (tp_P.pre hK hN hL hU hI hP) (tp_recv hK hP ho.1 hf_56 rfl) lk_X12_249 (r_X12_sum l D cy H.size L K Γ_54 f_55 o τ T0 t0 a d ho ((hgr _ (by decide)).trans ht) (by first | omega | (simp only [Int32.toInt_toInt64]; omega) | decide | assumption) (by first | omega | (simp only [Int32.toInt_toInt64]; omega) | decide | assumption) (by first | omega | (simp only [Int32.toInt_toInt64]; omega) | decide | assumption) (by first | omega | (simp only [Int32.toInt_toInt64]; omega) | decide | assumption)) rfl rfl ⟨Nat.le_of_ble_eq_true rfl, Nat.le_of_ble_eq_true rfl⟩ rfl hl.1 rfl (Nat.le_of_ble_eq_true rfl) dX12_clauseOf_44 ⟨Nat.le_of_ble_eq_true rfl, Nat.le_of_ble_eq_true rfl⟩) (fun r_72 f_73 Γ_75 H locs hw_71 hP hI hc_74 hcg_76 hS => ?_)
  have hD : va_D A (va_pl L f_73) := tp_D hL hAL
  have hfr := tp_fr2 hfr hc_74 (by decide)
  have hgr : ∀ κ : tk_K, κ.1 ∉ ([39, 43, 44, 52, 45, 46] : List Nat) → Γ_75 κ = Γ κ := tg_fr2 hgr hcg_76 (by decide)
  have hf_77 := (tp_un hc_74 (show tp_r L K 46 22 0 (r_22 6) from hr_25 6 (by decide)) (by decide)).trans hf_57
  have hg_78 : ∀ j : Nat, j < 22 → (g_37 j).toInt = Γ_75 (46, 22, 0) j := fun j hj => by rw [hcg_76 _ (by decide)]; exact hg_69 j hj
  have wy_75_MCLS : Γ_75 (46, 22, 0) t0.toNat = Γ_54 (46, 22, 0) t0.toNat := congrFun (hcg_76 (46, 22, 0) (by decide)) _
  obtain ⟨hE_79, hw_71⟩ := hw_71
  have hE_79 : tl_J r_72 (ps (Γ_75 (43, 8800, 0)) t0 (Γ_75 (44, 22, 0) t0.toNat) (Γ_75 (39, 0, 0) 1) T0 (Γ_75 (39, 0, 0) 5) a (d + 1) ∧ Γ_54 (39, 0, 0) 1 - Γ_54 (44, 22, 0) t0.toNat ≤ Γ_75 (39, 0, 0) 1 - Γ_75 (44, 22, 0) t0.toNat ∧ fz (Γ_54 (43, 8800, 0)) (Γ_75 (43, 8800, 0)) (Γ_54 (44, 22, 0)) (Γ_75 (44, 22, 0)) t0) := hE_79
  have hw_71 : Γ_75 (39, 0, 0) 0 = Γ_54 (39, 0, 0) 0 ∧ Γ_75 (39, 0, 0) 4 = Γ_54 (39, 0, 0) 4 ∧ Γ_75 (39, 0, 0) 6 = Γ_54 (39, 0, 0) 6 ∧ Γ_75 (39, 0, 0) 7 = Γ_54 (39, 0, 0) 7 ∧ Γ_75 (39, 0, 0) 8 = Γ_54 (39, 0, 0) 8 ∧ Γ_54 (39, 0, 0) 1 ≤ Γ_75 (39, 0, 0) 1 ∧ Γ_75 (39, 0, 0) 1 ≤ T0 ∧ fw (Γ_54 (43, 8800, 0)) (Γ_75 (43, 8800, 0)) (Γ_54 (44, 22, 0)) (Γ_75 (44, 22, 0)) t0 := hw_71
  have hO_MCL : Γ_75 (45, 1056, 0) = tgu (Γ (45, 1056, 0)) ((48 * t0 + 4 * Γ (46, 22, 0) t0.toNat + 0).toNat) (A0) := (hcg_76 (45, 1056, 0) (by decide)).trans hO_MCL
  have hO_MCLS : Γ_75 (46, 22, 0) = Γ (46, 22, 0) := (hcg_76 (46, 22, 0) (by decide)).trans hO_MCLS
  have hfw := hfw.trans hw_71.2.2.2.2.2.2.2
  refine lv_if_ne (tgt := 52) hx hb dX12_clauseOf_47 (by decide) (fun c_80 => ?_) (fun c_80 => ?_)
  · have c_80 := hE_79.t c_80
    obtain ⟨hp, hsl, hz9⟩ := c_80
    have hz := hz.trans hz9
    obtain ⟨_, hL1, hM1, _, hrpS⟩ := id hp
    obtain ⟨A1, hA1⟩ : ∃ y : Int, y = Γ_75 (44, 22, 0) t0.toNat := ⟨_, rfl⟩
    have hl01 : A0 ≤ A1 := by have q9 := hz.2.1; omega
    have hS1 : rp (Γ_75 (43, 8800, 0)) (400 * t0 + A0).toNat (A1 - A0).toNat 1 := by have q9 := hrpS; rw [show d + 1 = 1 from by omega, show (400 * t0 + Γ_75 (44, 22, 0) t0.toNat).toNat - a = (A1 - A0).toNat from by omega, show a = (400 * t0 + A0).toNat from by omega] at q9; exact q9
    have hO_SIGN : Γ_75 (43, 8800, 0) = Γ_75 (43, 8800, 0) := rfl
    refine lv_aload_n hx hb dX12_clauseOf_52 rfl (lv_at hl 1 rfl) ?_
    obtain ⟨r_82, v_83, q_84, hf_81, hr_85, hv_86⟩ := (show tp_o_M L K 0 0 (Γ_75 (39, 0, 0)) (f_73 o) from hI.at ho)
    have hx_87 : (v_83 0).toInt = Γ_75 (39, 0, 0) 0 := hv_86 0 (by decide)
    have hx_88 : (v_83 1).toInt = Γ_75 (39, 0, 0) 1 := hv_86 1 (by decide)
    have hx_89 : (v_83 3).toInt = Γ_75 (39, 0, 0) 3 := hv_86 3 (by decide)
    have hx_90 : (v_83 4).toInt = Γ_75 (39, 0, 0) 4 := hv_86 4 (by decide)
    have hx_91 : (v_83 5).toInt = Γ_75 (39, 0, 0) 5 := hv_86 5 (by decide)
    have hx_92 : (v_83 6).toInt = Γ_75 (39, 0, 0) 6 := hv_86 6 (by decide)
    have hx_93 : (v_83 7).toInt = Γ_75 (39, 0, 0) 7 := hv_86 7 (by decide)
    have hx_94 : (v_83 8).toInt = Γ_75 (39, 0, 0) 8 := hv_86 8 (by decide)
    refine tp_get (cy := cy) (ci := 12) (v := .ref (r_82 5)) (C := RX12) (T := TX12) (N := 49) hx hb hta inlX12 hown hK hP ho.1 hf_81 rfl 6 (by decide) (hta _ wk_155) (fun _ h9 => h9) rfl dX12_clauseOf_53 ?_
    refine lv_iload_n hx hb dX12_clauseOf_56 rfl (lv_at hl 0 rfl) ?_
    refine lv_iconst (v := 1) hx hb dX12_clauseOf_57 (by decide) ?_
    refine lv_iadd hx hb dX12_clauseOf_58 ?_
    refine lv_topi (fun z_95 ez_95 => ?_)
    try have iz_95 : z_95.toInt = z_42.toInt + (1 : Int) := by rw [ez_95]; exact tl_addN z_42 1 rfl rfl (by omega) (by omega)
    refine lv_aload_n hx hb dX12_clauseOf_59 rfl (lv_at hl 1 rfl) ?_
    refine tp_get (cy := cy) (ci := 12) (v := .ref (r_82 4)) (C := RX12) (T := TX12) (N := 49) hx hb hta inlX12 hown hK hP ho.1 hf_81 rfl 5 (by decide) (hta _ wk_154) (fun _ h9 => h9) rfl dX12_clauseOf_60 ?_
    refine lv_aload_n hx hb dX12_clauseOf_63 rfl (lv_at hl 1 rfl) ?_
    refine tp_get (cy := cy) (ci := 12) (v := .int (v_83 4)) (C := RX12) (T := TX12) (N := 49) hx hb hta inlX12 hown hK hP ho.1 hf_81 rfl 20 (by decide) (hta _ wk_537) (fun _ h9 => h9) rfl dX12_clauseOf_64 ?_
    obtain ⟨g_97, hf_96, hg_98⟩ := (show tp_gi cy (22) (Γ_75 (44, 22, 0)) (f_73 (r_82 4)) from hI.at (show tp_r L K 44 22 0 (r_82 4) from hr_85 4 (by decide)))
    have hn_99 : vp_in (v_83 4) (22) := tl_in (by omega) (by omega)
    refine tp_iald (cy := cy) hx hb hK hP (show tp_r L K 44 22 0 (r_82 4) from hr_85 4 (by decide)).1 hf_96 hn_99 dX12_clauseOf_67 ?_
    refine lv_topi (fun z_100 ez_100 => ?_)
    have iz_100 : z_100.toInt = Γ_75 (44, 22, 0) (v_83 4).toInt.toNat := by rw [ez_100]; exact hg_98 _ (tp_pin hn_99)
    have jz_100 : z_100.toInt = Γ_75 (44, 22, 0) t0.toNat := by rw [show t0 = (v_83 4).toInt from by omega]; exact iz_100
    obtain ⟨g_102, hf_101, hg_103⟩ := (show tp_gi cy (1056) (Γ_75 (45, 1056, 0)) (f_73 (r_82 5)) from hI.at (show tp_r L K 45 1056 0 (r_82 5) from hr_85 5 (by decide)))
    have hn_104 : vp_in z_95 (1056) := tl_in (by omega) (by omega)
    have hj_105 : z_95.toNatClampNeg = (48 * t0 + 4 * Γ (46, 22, 0) t0.toNat + 1).toNat := by show z_95.toInt.toNat = _; omega
    have hv_106 : z_100.toInt = A1 := by omega
    obtain ⟨Γ_107, eΓ_107⟩ : ∃ y : tk_G, y = tg Γ_75 (45, 1056, 0) ((48 * t0 + 4 * Γ (46, 22, 0) t0.toNat + 1).toNat) A1 := ⟨_, rfl⟩
    have hI9 : tp_I cy L K Γ_107 (va_up f_73 (r_82 5) (.inl (cy 0, 1056, .inl (upd g_102 z_95.toNatClampNeg z_100)))) := by have q9 : tg Γ_75 (45, 1056, 0) ((48 * t0 + 4 * Γ (46, 22, 0) t0.toNat + 1).toNat) A1 = tg Γ_75 (45, 1056, 0) z_95.toNatClampNeg z_100.toInt := (by rw [hj_105, hv_106]); rw [eΓ_107, q9]; exact hI.setg hU rfl (show tp_r L K 45 1056 0 (r_82 5) from hr_85 5 (by decide)) (show tp_gi cy (1056) (tgu (Γ_75 (45, 1056, 0)) _ _) _ from ⟨_, rfl, tp_gi_upd hg_103⟩)
    have hfr9 : ∀ b, (K b).1 ∉ ([39, 43, 44, 52, 45, 46] : List Nat) → va_up f_73 (r_82 5) (.inl (cy 0, 1056, .inl (upd g_102 z_95.toNatClampNeg z_100))) b = f b := tp_fr hfr (show tp_r L K 45 1056 0 (r_82 5) from hr_85 5 (by decide)) (by decide)
    refine tp_iast (cy := cy) hx hb hK hP hD hS (show tp_r L K 45 1056 0 (r_82 5) from hr_85 5 (by decide)).1 hf_101 hn_104 dX12_clauseOf_68 (fun H locs hP hD hS => ?_)
    have hP : va_P D vwCl (va_pl L (va_up f_73 (r_82 5) (.inl (cy 0, 1056, .inl (upd g_102 z_95.toNatClampNeg z_100))))) H := hP
    generalize hfe : va_up f_73 (r_82 5) (.inl (cy 0, 1056, .inl (upd g_102 z_95.toNatClampNeg z_100))) = f_108 at hP hI9 hfr9
    have hD : va_D A (va_pl L f_108) := tp_D hL hAL
    have hf_109 := (show f_108 (r_22 6) = _ from by rw [← hfe, va_up_ne _ _ (tp_ne (show tp_r L K 46 22 0 (r_22 6) from hr_25 6 (by decide)) (show tp_r L K 45 1056 0 (r_82 5) from hr_85 5 (by decide)) (by decide))]).trans hf_77
    have hf_110 := (show f_108 o = _ from by rw [← hfe, va_up_ne _ _ (tp_ne ho (show tp_r L K 45 1056 0 (r_82 5) from hr_85 5 (by decide)) (by decide))]).trans hf_81
    have hf_111 := (show f_108 (r_82 4) = _ from by rw [← hfe, va_up_ne _ _ (tp_ne (show tp_r L K 44 22 0 (r_82 4) from hr_85 4 (by decide)) (show tp_r L K 45 1056 0 (r_82 5) from hr_85 5 (by decide)) (by decide))]).trans hf_96
    have hf_112 : f_108 (r_82 5) = .inl (cy 0, 1056, .inl (upd g_102 z_95.toNatClampNeg z_100)) := by rw [← hfe]; exact va_up_self _ _ _
    clear hfe
    have hI := hI9
    have hfr := hfr9
    clear hI9 hfr9
    have wxΓ_107_MLEN : Γ_107 (44, 22, 0) t0.toNat = Γ_75 (44, 22, 0) t0.toNat := by rw [eΓ_107, tg_r (by decide)]
    have wxΓ_107_MCLS : Γ_107 (46, 22, 0) t0.toNat = Γ_75 (46, 22, 0) t0.toNat := by rw [eΓ_107, tg_r (by decide)]
    have wsΓ_107 : Γ_107 (45, 1056, 0) ((48 * t0 + 4 * Γ (46, 22, 0) t0.toNat + 1).toNat) = A1 := by rw [eΓ_107]; exact tg_s
    have hgr : ∀ κ : tk_K, κ.1 ∉ ([39, 43, 44, 52, 45, 46] : List Nat) → Γ_107 κ = Γ κ := tg_fr hgr eΓ_107 (by decide)
    have hg_113 : ∀ j : Nat, j < 22 → (g_37 j).toInt = Γ_107 (46, 22, 0) j := fun j hj => by rw [eΓ_107, tg_r (by decide)]; exact hg_78 j hj
    have hv_114 : ∀ i : Nat, i < 16 → (v_83 i).toInt = Γ_107 (39, 0, 0) i := fun i hi => by rw [eΓ_107, tg_r (by decide)]; exact hv_86 i hi
    have hx_115 : (v_83 0).toInt = Γ_107 (39, 0, 0) 0 := hv_114 0 (by decide)
    have hx_116 : (v_83 1).toInt = Γ_107 (39, 0, 0) 1 := hv_114 1 (by decide)
    have hx_117 : (v_83 3).toInt = Γ_107 (39, 0, 0) 3 := hv_114 3 (by decide)
    have hx_118 : (v_83 4).toInt = Γ_107 (39, 0, 0) 4 := hv_114 4 (by decide)
    have hx_119 : (v_83 5).toInt = Γ_107 (39, 0, 0) 5 := hv_114 5 (by decide)
    have hx_120 : (v_83 6).toInt = Γ_107 (39, 0, 0) 6 := hv_114 6 (by decide)
    have hx_121 : (v_83 7).toInt = Γ_107 (39, 0, 0) 7 := hv_114 7 (by decide)
    have hx_122 : (v_83 8).toInt = Γ_107 (39, 0, 0) 8 := hv_114 8 (by decide)
    have hg_123 : ∀ j : Nat, j < 22 → (g_97 j).toInt = Γ_107 (44, 22, 0) j := fun j hj => by rw [eΓ_107, tg_r (by decide)]; exact hg_98 j hj
    have hO_MCL : Γ_107 (45, 1056, 0) = tgu (tgu (Γ (45, 1056, 0)) ((48 * t0 + 4 * Γ (46, 22, 0) t0.toNat + 0).toNat) (A0)) ((48 * t0 + 4 * Γ (46, 22, 0) t0.toNat + 1).toNat) (A1) := by rw [eΓ_107, tg_f, hO_MCL]
    have hO_MCLS : Γ_107 (46, 22, 0) = Γ (46, 22, 0) := by rw [eΓ_107, tg_rf (by decide)]; exact hO_MCLS
    have hO_SIGN : Γ_107 (43, 8800, 0) = Γ_75 (43, 8800, 0) := by rw [eΓ_107, tg_rf (by decide)]; exact hO_SIGN
    obtain ⟨hpa, hpb, hpc, hpd, _⟩ := id hp
    have hle := congrFun (show Γ_107 (44, 22, 0) = _ from by rw [eΓ_107, tg_rf (by decide)]) t0.toNat
    have hp : ps (Γ_107 (43, 8800, 0)) t0 (Γ_107 (44, 22, 0) t0.toNat) (Γ_107 (39, 0, 0) 1) T0 (Γ_107 (39, 0, 0) 5) a (d + 1) := hp.eq (show Γ_107 (43, 8800, 0) = _ from by rw [eΓ_107, tg_rf (by decide)]) rfl (congrFun (show Γ_107 (44, 22, 0) = _ from by rw [eΓ_107, tg_rf (by decide)]) _) (by omega) rfl (by omega)
    have hz : fz (Γ (43, 8800, 0)) (Γ_107 (43, 8800, 0)) (Γ (44, 22, 0)) (Γ_107 (44, 22, 0)) t0 := by rw [(show Γ_107 (43, 8800, 0) = _ from by rw [eΓ_107, tg_rf (by decide)]), (show Γ_107 (44, 22, 0) = _ from by rw [eΓ_107, tg_rf (by decide)])]; exact hz
    have hfw : fw (Γ (43, 8800, 0)) (Γ_107 (43, 8800, 0)) (Γ (44, 22, 0)) (Γ_107 (44, 22, 0)) t0 := by rw [(show Γ_107 (43, 8800, 0) = _ from by rw [eΓ_107, tg_rf (by decide)]), (show Γ_107 (44, 22, 0) = _ from by rw [eΓ_107, tg_rf (by decide)])]; exact hfw
    refine lv_aload_n hx hb dX12_clauseOf_69 rfl (lv_at hl 1 rfl) ?_
    refine tp_get (cy := cy) (ci := 12) (v := .ref (r_82 5)) (C := RX12) (T := TX12) (N := 49) hx hb hta inlX12 hown hK hP ho.1 hf_110 rfl 6 (by decide) (hta _ wk_155) (fun _ h9 => h9) rfl dX12_clauseOf_70 ?_
    refine lv_iload_n hx hb dX12_clauseOf_73 rfl (lv_at hl 0 rfl) ?_
    refine lv_iconst (v := 2) hx hb dX12_clauseOf_74 (by decide) ?_
    refine lv_iadd hx hb dX12_clauseOf_75 ?_
    refine lv_topi (fun z_124 ez_124 => ?_)
    try have iz_124 : z_124.toInt = z_42.toInt + (2 : Int) := by rw [ez_124]; exact tl_addN z_42 2 rfl rfl (by omega) (by omega)
    refine lv_iconst (v := (-1)) hx hb dX12_clauseOf_76 (by decide) ?_
    obtain ⟨g_126, hf_125, hg_127⟩ := (show tp_gi cy (1056) (Γ_107 (45, 1056, 0)) (f_108 (r_82 5)) from hI.at (show tp_r L K 45 1056 0 (r_82 5) from hr_85 5 (by decide)))
    have hn_128 : vp_in z_124 (1056) := tl_in (by omega) (by omega)
    have hj_129 : z_124.toNatClampNeg = (48 * t0 + 4 * Γ (46, 22, 0) t0.toNat + 2).toNat := by show z_124.toInt.toNat = _; omega
    have hv_130 : ((-1) : Int32).toInt = (-1 : Int) := by decide
    obtain ⟨Γ_131, eΓ_131⟩ : ∃ y : tk_G, y = tg Γ_107 (45, 1056, 0) ((48 * t0 + 4 * Γ (46, 22, 0) t0.toNat + 2).toNat) (-1 : Int) := ⟨_, rfl⟩
    have hI9 : tp_I cy L K Γ_131 (va_up f_108 (r_82 5) (.inl (cy 0, 1056, .inl (upd g_126 z_124.toNatClampNeg (-1))))) := by have q9 : tg Γ_107 (45, 1056, 0) ((48 * t0 + 4 * Γ (46, 22, 0) t0.toNat + 2).toNat) (-1 : Int) = tg Γ_107 (45, 1056, 0) z_124.toNatClampNeg ((-1) : Int32).toInt := (by rw [hj_129, hv_130]); rw [eΓ_131, q9]; exact hI.setg hU rfl (show tp_r L K 45 1056 0 (r_82 5) from hr_85 5 (by decide)) (show tp_gi cy (1056) (tgu (Γ_107 (45, 1056, 0)) _ _) _ from ⟨_, rfl, tp_gi_upd hg_127⟩)
    have hfr9 : ∀ b, (K b).1 ∉ ([39, 43, 44, 52, 45, 46] : List Nat) → va_up f_108 (r_82 5) (.inl (cy 0, 1056, .inl (upd g_126 z_124.toNatClampNeg (-1)))) b = f b := tp_fr hfr (show tp_r L K 45 1056 0 (r_82 5) from hr_85 5 (by decide)) (by decide)
    refine tp_iast (cy := cy) hx hb hK hP hD hS (show tp_r L K 45 1056 0 (r_82 5) from hr_85 5 (by decide)).1 hf_125 hn_128 dX12_clauseOf_77 (fun H locs hP hD hS => ?_)
    have hP : va_P D vwCl (va_pl L (va_up f_108 (r_82 5) (.inl (cy 0, 1056, .inl (upd g_126 z_124.toNatClampNeg (-1)))))) H := hP
    generalize hfe : va_up f_108 (r_82 5) (.inl (cy 0, 1056, .inl (upd g_126 z_124.toNatClampNeg (-1)))) = f_132 at hP hI9 hfr9
    have hD : va_D A (va_pl L f_132) := tp_D hL hAL
    have hf_133 := (show f_132 (r_22 6) = _ from by rw [← hfe, va_up_ne _ _ (tp_ne (show tp_r L K 46 22 0 (r_22 6) from hr_25 6 (by decide)) (show tp_r L K 45 1056 0 (r_82 5) from hr_85 5 (by decide)) (by decide))]).trans hf_109
    have hf_134 := (show f_132 o = _ from by rw [← hfe, va_up_ne _ _ (tp_ne ho (show tp_r L K 45 1056 0 (r_82 5) from hr_85 5 (by decide)) (by decide))]).trans hf_110
    have hf_135 := (show f_132 (r_82 4) = _ from by rw [← hfe, va_up_ne _ _ (tp_ne (show tp_r L K 44 22 0 (r_82 4) from hr_85 4 (by decide)) (show tp_r L K 45 1056 0 (r_82 5) from hr_85 5 (by decide)) (by decide))]).trans hf_111
    have hf_136 : f_132 (r_82 5) = .inl (cy 0, 1056, .inl (upd g_126 z_124.toNatClampNeg (-1))) := by rw [← hfe]; exact va_up_self _ _ _
    clear hfe
    have hI := hI9
    have hfr := hfr9
    clear hI9 hfr9
    have wxΓ_131_MLEN : Γ_131 (44, 22, 0) t0.toNat = Γ_107 (44, 22, 0) t0.toNat := by rw [eΓ_131, tg_r (by decide)]
    have wxΓ_131_MCLS : Γ_131 (46, 22, 0) t0.toNat = Γ_107 (46, 22, 0) t0.toNat := by rw [eΓ_131, tg_r (by decide)]
    have wsΓ_131 : Γ_131 (45, 1056, 0) ((48 * t0 + 4 * Γ (46, 22, 0) t0.toNat + 2).toNat) = (-1 : Int) := by rw [eΓ_131]; exact tg_s
    have hgr : ∀ κ : tk_K, κ.1 ∉ ([39, 43, 44, 52, 45, 46] : List Nat) → Γ_131 κ = Γ κ := tg_fr hgr eΓ_131 (by decide)
    have hg_137 : ∀ j : Nat, j < 22 → (g_37 j).toInt = Γ_131 (46, 22, 0) j := fun j hj => by rw [eΓ_131, tg_r (by decide)]; exact hg_113 j hj
    have hv_138 : ∀ i : Nat, i < 16 → (v_83 i).toInt = Γ_131 (39, 0, 0) i := fun i hi => by rw [eΓ_131, tg_r (by decide)]; exact hv_114 i hi
    have hx_139 : (v_83 0).toInt = Γ_131 (39, 0, 0) 0 := hv_138 0 (by decide)
    have hx_140 : (v_83 1).toInt = Γ_131 (39, 0, 0) 1 := hv_138 1 (by decide)
    have hx_141 : (v_83 3).toInt = Γ_131 (39, 0, 0) 3 := hv_138 3 (by decide)
    have hx_142 : (v_83 4).toInt = Γ_131 (39, 0, 0) 4 := hv_138 4 (by decide)
    have hx_143 : (v_83 5).toInt = Γ_131 (39, 0, 0) 5 := hv_138 5 (by decide)
    have hx_144 : (v_83 6).toInt = Γ_131 (39, 0, 0) 6 := hv_138 6 (by decide)
    have hx_145 : (v_83 7).toInt = Γ_131 (39, 0, 0) 7 := hv_138 7 (by decide)
    have hx_146 : (v_83 8).toInt = Γ_131 (39, 0, 0) 8 := hv_138 8 (by decide)
    have hg_147 : ∀ j : Nat, j < 22 → (g_97 j).toInt = Γ_131 (44, 22, 0) j := fun j hj => by rw [eΓ_131, tg_r (by decide)]; exact hg_123 j hj
    have hO_MCL : Γ_131 (45, 1056, 0) = tgu (tgu (tgu (Γ (45, 1056, 0)) ((48 * t0 + 4 * Γ (46, 22, 0) t0.toNat + 0).toNat) (A0)) ((48 * t0 + 4 * Γ (46, 22, 0) t0.toNat + 1).toNat) (A1)) ((48 * t0 + 4 * Γ (46, 22, 0) t0.toNat + 2).toNat) ((-1 : Int)) := by rw [eΓ_131, tg_f, hO_MCL]
    have hO_MCLS : Γ_131 (46, 22, 0) = Γ (46, 22, 0) := by rw [eΓ_131, tg_rf (by decide)]; exact hO_MCLS
    have hO_SIGN : Γ_131 (43, 8800, 0) = Γ_75 (43, 8800, 0) := by rw [eΓ_131, tg_rf (by decide)]; exact hO_SIGN
    obtain ⟨hpa, hpb, hpc, hpd, _⟩ := id hp
    have hle := congrFun (show Γ_131 (44, 22, 0) = _ from by rw [eΓ_131, tg_rf (by decide)]) t0.toNat
    have hp : ps (Γ_131 (43, 8800, 0)) t0 (Γ_131 (44, 22, 0) t0.toNat) (Γ_131 (39, 0, 0) 1) T0 (Γ_131 (39, 0, 0) 5) a (d + 1) := hp.eq (show Γ_131 (43, 8800, 0) = _ from by rw [eΓ_131, tg_rf (by decide)]) rfl (congrFun (show Γ_131 (44, 22, 0) = _ from by rw [eΓ_131, tg_rf (by decide)]) _) (by omega) rfl (by omega)
    have hz : fz (Γ (43, 8800, 0)) (Γ_131 (43, 8800, 0)) (Γ (44, 22, 0)) (Γ_131 (44, 22, 0)) t0 := by rw [(show Γ_131 (43, 8800, 0) = _ from by rw [eΓ_131, tg_rf (by decide)]), (show Γ_131 (44, 22, 0) = _ from by rw [eΓ_131, tg_rf (by decide)])]; exact hz
    have hfw : fw (Γ (43, 8800, 0)) (Γ_131 (43, 8800, 0)) (Γ (44, 22, 0)) (Γ_131 (44, 22, 0)) t0 := by rw [(show Γ_131 (43, 8800, 0) = _ from by rw [eΓ_131, tg_rf (by decide)]), (show Γ_131 (44, 22, 0) = _ from by rw [eΓ_131, tg_rf (by decide)])]; exact hfw
    refine lv_iload_n hx hb dX12_clauseOf_78 rfl (lv_at hl 2 rfl) ?_
    refine lv_if_eq (tgt := 92) hx hb dX12_clauseOf_79 (by decide) (fun c => absurd c (by decide)) (fun _ => ?_)
    refine lv_aload_n hx hb dX12_clauseOf_82 rfl (lv_at hl 1 rfl) ?_
    refine lv_ldc2 (v := 26982) hx hb hown (hta _ wk_614) dX12_clauseOf_83 ?_
    refine tq_ciR hS (hAf _ hS.1) (tq_rV (As := [.long 26982]) (rest := []) ⟨hx, hb, hml, hown, hta⟩ (tp_P.pre hK hN hL hU hI hP) (tp_recv hK hP ho.1 hf_134 rfl) lk_X12_278 (r_X12_takesWord l D cy H.size L K Γ_131 f_132 o 26982 τ T0 ho ((hgr _ (by decide)).trans ht) (by first | omega | (simp only [Int32.toInt_toInt64]; omega) | decide | assumption) (by first | omega | (simp only [Int32.toInt_toInt64]; omega) | decide | assumption)) rfl rfl ⟨Nat.le_of_ble_eq_true rfl, Nat.le_of_ble_eq_true rfl⟩ rfl hl.1 rfl (Nat.le_of_ble_eq_true rfl) dX12_clauseOf_86 ⟨Nat.le_of_ble_eq_true rfl, Nat.le_of_ble_eq_true rfl⟩) (fun r_149 f_150 Γ_152 H locs hw_148 hP hI hc_151 hcg_153 hS => ?_)
    have hD : va_D A (va_pl L f_150) := tp_D hL hAL
    have hfr := tp_fr2 hfr hc_151 (by decide)
    have hgr : ∀ κ : tk_K, κ.1 ∉ ([39, 43, 44, 52, 45, 46] : List Nat) → Γ_152 κ = Γ κ := tg_fr2 hgr hcg_153 (by decide)
    have hf_154 := (tp_un hc_151 (show tp_r L K 46 22 0 (r_22 6) from hr_25 6 (by decide)) (by decide)).trans hf_133
    have hf_155 := (tp_un hc_151 (show tp_r L K 44 22 0 (r_82 4) from hr_85 4 (by decide)) (by decide)).trans hf_135
    have hg_156 : ∀ j : Nat, j < 22 → (g_37 j).toInt = Γ_152 (46, 22, 0) j := fun j hj => by rw [hcg_153 _ (by decide)]; exact hg_137 j hj
    have hg_157 : ∀ j : Nat, j < 22 → (g_97 j).toInt = Γ_152 (44, 22, 0) j := fun j hj => by rw [hcg_153 _ (by decide)]; exact hg_147 j hj
    have wy_152_MLEN : Γ_152 (44, 22, 0) t0.toNat = Γ_131 (44, 22, 0) t0.toNat := congrFun (hcg_153 (44, 22, 0) (by decide)) _
    have wy_152_MCLS : Γ_152 (46, 22, 0) t0.toNat = Γ_131 (46, 22, 0) t0.toNat := congrFun (hcg_153 (46, 22, 0) (by decide)) _
    obtain ⟨hE_158, hw_148⟩ := hw_148
    have hE_158 : tl_J r_149 (Γ_131 (39, 0, 0) 1 + 1 ≤ Γ_152 (39, 0, 0) 1) := hE_158
    have hw_148 : Γ_152 (39, 0, 0) 0 = Γ_131 (39, 0, 0) 0 ∧ Γ_152 (39, 0, 0) 3 = Γ_131 (39, 0, 0) 3 ∧ Γ_152 (39, 0, 0) 4 = Γ_131 (39, 0, 0) 4 ∧ Γ_152 (39, 0, 0) 5 = Γ_131 (39, 0, 0) 5 ∧ Γ_152 (39, 0, 0) 6 = Γ_131 (39, 0, 0) 6 ∧ Γ_152 (39, 0, 0) 7 = Γ_131 (39, 0, 0) 7 ∧ Γ_152 (39, 0, 0) 8 = Γ_131 (39, 0, 0) 8 ∧ Γ_131 (39, 0, 0) 1 ≤ Γ_152 (39, 0, 0) 1 ∧ Γ_152 (39, 0, 0) 1 ≤ T0 := hw_148
    have hO_MCL : Γ_152 (45, 1056, 0) = tgu (tgu (tgu (Γ (45, 1056, 0)) ((48 * t0 + 4 * Γ (46, 22, 0) t0.toNat + 0).toNat) (A0)) ((48 * t0 + 4 * Γ (46, 22, 0) t0.toNat + 1).toNat) (A1)) ((48 * t0 + 4 * Γ (46, 22, 0) t0.toNat + 2).toNat) ((-1 : Int)) := (hcg_153 (45, 1056, 0) (by decide)).trans hO_MCL
    have hO_MCLS : Γ_152 (46, 22, 0) = Γ (46, 22, 0) := (hcg_153 (46, 22, 0) (by decide)).trans hO_MCLS
    have hO_SIGN : Γ_152 (43, 8800, 0) = Γ_75 (43, 8800, 0) := (hcg_153 (43, 8800, 0) (by decide)).trans hO_SIGN
    obtain ⟨hpa, hpb, hpc, hpd, _⟩ := id hp
    have hle := congrFun (hcg_153 (44, 22, 0) (by decide)) t0.toNat
    have hp : ps (Γ_152 (43, 8800, 0)) t0 (Γ_152 (44, 22, 0) t0.toNat) (Γ_152 (39, 0, 0) 1) T0 (Γ_152 (39, 0, 0) 5) a (d + 1) := hp.eq (hcg_153 (43, 8800, 0) (by decide)) rfl (congrFun (hcg_153 (44, 22, 0) (by decide)) _) (by omega) rfl (by omega)
    have hz : fz (Γ (43, 8800, 0)) (Γ_152 (43, 8800, 0)) (Γ (44, 22, 0)) (Γ_152 (44, 22, 0)) t0 := by rw [(hcg_153 (43, 8800, 0) (by decide)), (hcg_153 (44, 22, 0) (by decide))]; exact hz
    have hfw : fw (Γ (43, 8800, 0)) (Γ_152 (43, 8800, 0)) (Γ (44, 22, 0)) (Γ_152 (44, 22, 0)) t0 := by rw [(hcg_153 (43, 8800, 0) (by decide)), (hcg_153 (44, 22, 0) (by decide))]; exact hfw
    refine lv_if_eq (tgt := 118) hx hb dX12_clauseOf_89 (by decide) (fun c_159 => ?_) (fun c_159 => ?_)
    · have c_159 := c_159
      obtain ⟨A3, hA3⟩ : ∃ y : Int, y = Γ_152 (44, 22, 0) t0.toNat := ⟨_, rfl⟩
      have hl13 : A1 ≤ A3 := by omega
      refine lv_aload_n hx hb dX12_clauseOf_118 rfl (lv_at hl 1 rfl) ?_
      obtain ⟨r_161, v_162, q_163, hf_160, hr_164, hv_165⟩ := (show tp_o_M L K 0 0 (Γ_152 (39, 0, 0)) (f_150 o) from hI.at ho)
      have hx_166 : (v_162 0).toInt = Γ_152 (39, 0, 0) 0 := hv_165 0 (by decide)
      have hx_167 : (v_162 1).toInt = Γ_152 (39, 0, 0) 1 := hv_165 1 (by decide)
      have hx_168 : (v_162 3).toInt = Γ_152 (39, 0, 0) 3 := hv_165 3 (by decide)
      have hx_169 : (v_162 4).toInt = Γ_152 (39, 0, 0) 4 := hv_165 4 (by decide)
      have hx_170 : (v_162 5).toInt = Γ_152 (39, 0, 0) 5 := hv_165 5 (by decide)
      have hx_171 : (v_162 6).toInt = Γ_152 (39, 0, 0) 6 := hv_165 6 (by decide)
      have hx_172 : (v_162 7).toInt = Γ_152 (39, 0, 0) 7 := hv_165 7 (by decide)
      have hx_173 : (v_162 8).toInt = Γ_152 (39, 0, 0) 8 := hv_165 8 (by decide)
      refine tp_get (cy := cy) (ci := 12) (v := .ref (r_161 5)) (C := RX12) (T := TX12) (N := 49) hx hb hta inlX12 hown hK hP ho.1 hf_160 rfl 6 (by decide) (hta _ wk_155) (fun _ h9 => h9) rfl dX12_clauseOf_119 ?_
      refine lv_iload_n hx hb dX12_clauseOf_122 rfl (lv_at hl 0 rfl) ?_
      refine lv_iconst (v := 3) hx hb dX12_clauseOf_123 (by decide) ?_
      refine lv_iadd hx hb dX12_clauseOf_124 ?_
      refine lv_topi (fun z_174 ez_174 => ?_)
      try have iz_174 : z_174.toInt = z_42.toInt + (3 : Int) := by rw [ez_174]; exact tl_addN z_42 3 rfl rfl (by omega) (by omega)
      refine lv_aload_n hx hb dX12_clauseOf_125 rfl (lv_at hl 1 rfl) ?_
      refine tp_get (cy := cy) (ci := 12) (v := .ref (r_161 4)) (C := RX12) (T := TX12) (N := 49) hx hb hta inlX12 hown hK hP ho.1 hf_160 rfl 5 (by decide) (hta _ wk_154) (fun _ h9 => h9) rfl dX12_clauseOf_126 ?_
      refine lv_aload_n hx hb dX12_clauseOf_129 rfl (lv_at hl 1 rfl) ?_
      refine tp_get (cy := cy) (ci := 12) (v := .int (v_162 4)) (C := RX12) (T := TX12) (N := 49) hx hb hta inlX12 hown hK hP ho.1 hf_160 rfl 20 (by decide) (hta _ wk_537) (fun _ h9 => h9) rfl dX12_clauseOf_130 ?_
      obtain ⟨g_176, hf_175, hg_177⟩ := (show tp_gi cy (22) (Γ_152 (44, 22, 0)) (f_150 (r_161 4)) from hI.at (show tp_r L K 44 22 0 (r_161 4) from hr_164 4 (by decide)))
      have hn_178 : vp_in (v_162 4) (22) := tl_in (by omega) (by omega)
      refine tp_iald (cy := cy) hx hb hK hP (show tp_r L K 44 22 0 (r_161 4) from hr_164 4 (by decide)).1 hf_175 hn_178 dX12_clauseOf_133 ?_
      refine lv_topi (fun z_179 ez_179 => ?_)
      have iz_179 : z_179.toInt = Γ_152 (44, 22, 0) (v_162 4).toInt.toNat := by rw [ez_179]; exact hg_177 _ (tp_pin hn_178)
      have jz_179 : z_179.toInt = Γ_152 (44, 22, 0) t0.toNat := by rw [show t0 = (v_162 4).toInt from by omega]; exact iz_179
      obtain ⟨g_181, hf_180, hg_182⟩ := (show tp_gi cy (1056) (Γ_152 (45, 1056, 0)) (f_150 (r_161 5)) from hI.at (show tp_r L K 45 1056 0 (r_161 5) from hr_164 5 (by decide)))
      have hn_183 : vp_in z_174 (1056) := tl_in (by omega) (by omega)
      have hj_184 : z_174.toNatClampNeg = (48 * t0 + 4 * Γ (46, 22, 0) t0.toNat + 3).toNat := by show z_174.toInt.toNat = _; omega
      have hv_185 : z_179.toInt = A3 := by omega
      obtain ⟨Γ_186, eΓ_186⟩ : ∃ y : tk_G, y = tg Γ_152 (45, 1056, 0) ((48 * t0 + 4 * Γ (46, 22, 0) t0.toNat + 3).toNat) A3 := ⟨_, rfl⟩
      have hI9 : tp_I cy L K Γ_186 (va_up f_150 (r_161 5) (.inl (cy 0, 1056, .inl (upd g_181 z_174.toNatClampNeg z_179)))) := by have q9 : tg Γ_152 (45, 1056, 0) ((48 * t0 + 4 * Γ (46, 22, 0) t0.toNat + 3).toNat) A3 = tg Γ_152 (45, 1056, 0) z_174.toNatClampNeg z_179.toInt := (by rw [hj_184, hv_185]); rw [eΓ_186, q9]; exact hI.setg hU rfl (show tp_r L K 45 1056 0 (r_161 5) from hr_164 5 (by decide)) (show tp_gi cy (1056) (tgu (Γ_152 (45, 1056, 0)) _ _) _ from ⟨_, rfl, tp_gi_upd hg_182⟩)
      have hfr9 : ∀ b, (K b).1 ∉ ([39, 43, 44, 52, 45, 46] : List Nat) → va_up f_150 (r_161 5) (.inl (cy 0, 1056, .inl (upd g_181 z_174.toNatClampNeg z_179))) b = f b := tp_fr hfr (show tp_r L K 45 1056 0 (r_161 5) from hr_164 5 (by decide)) (by decide)
      refine tp_iast (cy := cy) hx hb hK hP hD hS (show tp_r L K 45 1056 0 (r_161 5) from hr_164 5 (by decide)).1 hf_180 hn_183 dX12_clauseOf_134 (fun H locs hP hD hS => ?_)
      have hP : va_P D vwCl (va_pl L (va_up f_150 (r_161 5) (.inl (cy 0, 1056, .inl (upd g_181 z_174.toNatClampNeg z_179))))) H := hP
      generalize hfe : va_up f_150 (r_161 5) (.inl (cy 0, 1056, .inl (upd g_181 z_174.toNatClampNeg z_179))) = f_187 at hP hI9 hfr9
      have hD : va_D A (va_pl L f_187) := tp_D hL hAL
      have hf_188 := (show f_187 (r_22 6) = _ from by rw [← hfe, va_up_ne _ _ (tp_ne (show tp_r L K 46 22 0 (r_22 6) from hr_25 6 (by decide)) (show tp_r L K 45 1056 0 (r_161 5) from hr_164 5 (by decide)) (by decide))]).trans hf_154
      have hf_189 := (show f_187 (r_82 4) = _ from by rw [← hfe, va_up_ne _ _ (tp_ne (show tp_r L K 44 22 0 (r_82 4) from hr_85 4 (by decide)) (show tp_r L K 45 1056 0 (r_161 5) from hr_164 5 (by decide)) (by decide))]).trans hf_155
      have hf_190 := (show f_187 o = _ from by rw [← hfe, va_up_ne _ _ (tp_ne ho (show tp_r L K 45 1056 0 (r_161 5) from hr_164 5 (by decide)) (by decide))]).trans hf_160
      have hf_191 := (show f_187 (r_161 4) = _ from by rw [← hfe, va_up_ne _ _ (tp_ne (show tp_r L K 44 22 0 (r_161 4) from hr_164 4 (by decide)) (show tp_r L K 45 1056 0 (r_161 5) from hr_164 5 (by decide)) (by decide))]).trans hf_175
      have hf_192 : f_187 (r_161 5) = .inl (cy 0, 1056, .inl (upd g_181 z_174.toNatClampNeg z_179)) := by rw [← hfe]; exact va_up_self _ _ _
      clear hfe
      have hI := hI9
      have hfr := hfr9
      clear hI9 hfr9
      have wxΓ_186_MLEN : Γ_186 (44, 22, 0) t0.toNat = Γ_152 (44, 22, 0) t0.toNat := by rw [eΓ_186, tg_r (by decide)]
      have wxΓ_186_MCLS : Γ_186 (46, 22, 0) t0.toNat = Γ_152 (46, 22, 0) t0.toNat := by rw [eΓ_186, tg_r (by decide)]
      have wsΓ_186 : Γ_186 (45, 1056, 0) ((48 * t0 + 4 * Γ (46, 22, 0) t0.toNat + 3).toNat) = A3 := by rw [eΓ_186]; exact tg_s
      have hgr : ∀ κ : tk_K, κ.1 ∉ ([39, 43, 44, 52, 45, 46] : List Nat) → Γ_186 κ = Γ κ := tg_fr hgr eΓ_186 (by decide)
      have hg_193 : ∀ j : Nat, j < 22 → (g_37 j).toInt = Γ_186 (46, 22, 0) j := fun j hj => by rw [eΓ_186, tg_r (by decide)]; exact hg_156 j hj
      have hg_194 : ∀ j : Nat, j < 22 → (g_97 j).toInt = Γ_186 (44, 22, 0) j := fun j hj => by rw [eΓ_186, tg_r (by decide)]; exact hg_157 j hj
      have hv_195 : ∀ i : Nat, i < 16 → (v_162 i).toInt = Γ_186 (39, 0, 0) i := fun i hi => by rw [eΓ_186, tg_r (by decide)]; exact hv_165 i hi
      have hx_196 : (v_162 0).toInt = Γ_186 (39, 0, 0) 0 := hv_195 0 (by decide)
      have hx_197 : (v_162 1).toInt = Γ_186 (39, 0, 0) 1 := hv_195 1 (by decide)
      have hx_198 : (v_162 3).toInt = Γ_186 (39, 0, 0) 3 := hv_195 3 (by decide)
      have hx_199 : (v_162 4).toInt = Γ_186 (39, 0, 0) 4 := hv_195 4 (by decide)
      have hx_200 : (v_162 5).toInt = Γ_186 (39, 0, 0) 5 := hv_195 5 (by decide)
      have hx_201 : (v_162 6).toInt = Γ_186 (39, 0, 0) 6 := hv_195 6 (by decide)
      have hx_202 : (v_162 7).toInt = Γ_186 (39, 0, 0) 7 := hv_195 7 (by decide)
      have hx_203 : (v_162 8).toInt = Γ_186 (39, 0, 0) 8 := hv_195 8 (by decide)
      have hg_204 : ∀ j : Nat, j < 22 → (g_176 j).toInt = Γ_186 (44, 22, 0) j := fun j hj => by rw [eΓ_186, tg_r (by decide)]; exact hg_177 j hj
      have hO_MCL : Γ_186 (45, 1056, 0) = tgu (tgu (tgu (tgu (Γ (45, 1056, 0)) ((48 * t0 + 4 * Γ (46, 22, 0) t0.toNat + 0).toNat) (A0)) ((48 * t0 + 4 * Γ (46, 22, 0) t0.toNat + 1).toNat) (A1)) ((48 * t0 + 4 * Γ (46, 22, 0) t0.toNat + 2).toNat) ((-1 : Int))) ((48 * t0 + 4 * Γ (46, 22, 0) t0.toNat + 3).toNat) (A3) := by rw [eΓ_186, tg_f, hO_MCL]
      have hO_MCLS : Γ_186 (46, 22, 0) = Γ (46, 22, 0) := by rw [eΓ_186, tg_rf (by decide)]; exact hO_MCLS
      have hO_SIGN : Γ_186 (43, 8800, 0) = Γ_75 (43, 8800, 0) := by rw [eΓ_186, tg_rf (by decide)]; exact hO_SIGN
      obtain ⟨hpa, hpb, hpc, hpd, _⟩ := id hp
      have hle := congrFun (show Γ_186 (44, 22, 0) = _ from by rw [eΓ_186, tg_rf (by decide)]) t0.toNat
      have hp : ps (Γ_186 (43, 8800, 0)) t0 (Γ_186 (44, 22, 0) t0.toNat) (Γ_186 (39, 0, 0) 1) T0 (Γ_186 (39, 0, 0) 5) a (d + 1) := hp.eq (show Γ_186 (43, 8800, 0) = _ from by rw [eΓ_186, tg_rf (by decide)]) rfl (congrFun (show Γ_186 (44, 22, 0) = _ from by rw [eΓ_186, tg_rf (by decide)]) _) (by omega) rfl (by omega)
      have hz : fz (Γ (43, 8800, 0)) (Γ_186 (43, 8800, 0)) (Γ (44, 22, 0)) (Γ_186 (44, 22, 0)) t0 := by rw [(show Γ_186 (43, 8800, 0) = _ from by rw [eΓ_186, tg_rf (by decide)]), (show Γ_186 (44, 22, 0) = _ from by rw [eΓ_186, tg_rf (by decide)])]; exact hz
      have hfw : fw (Γ (43, 8800, 0)) (Γ_186 (43, 8800, 0)) (Γ (44, 22, 0)) (Γ_186 (44, 22, 0)) t0 := by rw [(show Γ_186 (43, 8800, 0) = _ from by rw [eΓ_186, tg_rf (by decide)]), (show Γ_186 (44, 22, 0) = _ from by rw [eΓ_186, tg_rf (by decide)])]; exact hfw
      refine lv_aload_n hx hb dX12_clauseOf_135 rfl (lv_at hl 1 rfl) ?_
      refine tp_get (cy := cy) (ci := 12) (v := .ref (r_161 6)) (C := RX12) (T := TX12) (N := 49) hx hb hta inlX12 hown hK hP ho.1 hf_190 rfl 7 (by decide) (hta _ wk_156) (fun _ h9 => h9) rfl dX12_clauseOf_136 ?_
      refine lv_aload_n hx hb dX12_clauseOf_139 rfl (lv_at hl 1 rfl) ?_
      refine tp_get (cy := cy) (ci := 12) (v := .int (v_162 4)) (C := RX12) (T := TX12) (N := 49) hx hb hta inlX12 hown hK hP ho.1 hf_190 rfl 20 (by decide) (hta _ wk_537) (fun _ h9 => h9) rfl dX12_clauseOf_140 ?_
      refine lv_dup2_11 hx hb dX12_clauseOf_143 rfl rfl ?_
      obtain ⟨g_206, hf_205, hg_207⟩ := (show tp_gi cy (22) (Γ_186 (46, 22, 0)) (f_187 (r_161 6)) from hI.at (show tp_r L K 46 22 0 (r_161 6) from hr_164 6 (by decide)))
      have hn_208 : vp_in (v_162 4) (22) := tl_in (by omega) (by omega)
      refine tp_iald (cy := cy) hx hb hK hP (show tp_r L K 46 22 0 (r_161 6) from hr_164 6 (by decide)).1 hf_205 hn_208 dX12_clauseOf_144 ?_
      refine lv_topi (fun z_209 ez_209 => ?_)
      have iz_209 : z_209.toInt = Γ_186 (46, 22, 0) (v_162 4).toInt.toNat := by rw [ez_209]; exact hg_207 _ (tp_pin hn_208)
      have jz_209 : z_209.toInt = Γ_186 (46, 22, 0) t0.toNat := by rw [show t0 = (v_162 4).toInt from by omega]; exact iz_209
      refine lv_iconst (v := 1) hx hb dX12_clauseOf_145 (by decide) ?_
      refine lv_iadd hx hb dX12_clauseOf_146 ?_
      refine lv_topi (fun z_210 ez_210 => ?_)
      try have iz_210 : z_210.toInt = z_209.toInt + (1 : Int) := by rw [ez_210]; exact tl_addN z_209 1 rfl rfl (by omega) (by omega)
      have hn_211 : vp_in (v_162 4) (22) := tl_in (by omega) (by omega)
      have hj_212 : (v_162 4).toNatClampNeg = t0.toNat := by show (v_162 4).toInt.toNat = _; omega
      have hv_213 : z_210.toInt = Γ (46, 22, 0) t0.toNat + 1 := by omega
      obtain ⟨Γ_214, eΓ_214⟩ : ∃ y : tk_G, y = tg Γ_186 (46, 22, 0) t0.toNat (Γ (46, 22, 0) t0.toNat + 1) := ⟨_, rfl⟩
      have hI9 : tp_I cy L K Γ_214 (va_up f_187 (r_161 6) (.inl (cy 0, 22, .inl (upd g_206 (v_162 4).toNatClampNeg z_210)))) := by have q9 : tg Γ_186 (46, 22, 0) t0.toNat (Γ (46, 22, 0) t0.toNat + 1) = tg Γ_186 (46, 22, 0) (v_162 4).toNatClampNeg z_210.toInt := (by rw [hj_212, hv_213]); rw [eΓ_214, q9]; exact hI.setg hU rfl (show tp_r L K 46 22 0 (r_161 6) from hr_164 6 (by decide)) (show tp_gi cy (22) (tgu (Γ_186 (46, 22, 0)) _ _) _ from ⟨_, rfl, tp_gi_upd hg_207⟩)
      have hfr9 : ∀ b, (K b).1 ∉ ([39, 43, 44, 52, 45, 46] : List Nat) → va_up f_187 (r_161 6) (.inl (cy 0, 22, .inl (upd g_206 (v_162 4).toNatClampNeg z_210))) b = f b := tp_fr hfr (show tp_r L K 46 22 0 (r_161 6) from hr_164 6 (by decide)) (by decide)
      refine tp_iast (cy := cy) hx hb hK hP hD hS (show tp_r L K 46 22 0 (r_161 6) from hr_164 6 (by decide)).1 hf_205 hn_211 dX12_clauseOf_147 (fun H locs hP hD hS => ?_)
      have hP : va_P D vwCl (va_pl L (va_up f_187 (r_161 6) (.inl (cy 0, 22, .inl (upd g_206 (v_162 4).toNatClampNeg z_210))))) H := hP
      generalize hfe : va_up f_187 (r_161 6) (.inl (cy 0, 22, .inl (upd g_206 (v_162 4).toNatClampNeg z_210))) = f_215 at hP hI9 hfr9
      have hD : va_D A (va_pl L f_215) := tp_D hL hAL
      have hf_216 := (show f_215 (r_82 4) = _ from by rw [← hfe, va_up_ne _ _ (tp_ne (show tp_r L K 44 22 0 (r_82 4) from hr_85 4 (by decide)) (show tp_r L K 46 22 0 (r_161 6) from hr_164 6 (by decide)) (by decide))]).trans hf_189
      have hf_217 := (show f_215 o = _ from by rw [← hfe, va_up_ne _ _ (tp_ne ho (show tp_r L K 46 22 0 (r_161 6) from hr_164 6 (by decide)) (by decide))]).trans hf_190
      have hf_218 := (show f_215 (r_161 4) = _ from by rw [← hfe, va_up_ne _ _ (tp_ne (show tp_r L K 44 22 0 (r_161 4) from hr_164 4 (by decide)) (show tp_r L K 46 22 0 (r_161 6) from hr_164 6 (by decide)) (by decide))]).trans hf_191
      have hf_219 : f_215 (r_161 6) = .inl (cy 0, 22, .inl (upd g_206 (v_162 4).toNatClampNeg z_210)) := by rw [← hfe]; exact va_up_self _ _ _
      clear hfe
      have hI := hI9
      have hfr := hfr9
      clear hI9 hfr9
      have wxΓ_214_MLEN : Γ_214 (44, 22, 0) t0.toNat = Γ_186 (44, 22, 0) t0.toNat := by rw [eΓ_214, tg_r (by decide)]
      have wsΓ_214 : Γ_214 (46, 22, 0) t0.toNat = Γ (46, 22, 0) t0.toNat + 1 := by rw [eΓ_214]; exact tg_s
      have hgr : ∀ κ : tk_K, κ.1 ∉ ([39, 43, 44, 52, 45, 46] : List Nat) → Γ_214 κ = Γ κ := tg_fr hgr eΓ_214 (by decide)
      have hg_220 : ∀ j : Nat, j < 22 → (g_97 j).toInt = Γ_214 (44, 22, 0) j := fun j hj => by rw [eΓ_214, tg_r (by decide)]; exact hg_194 j hj
      have hv_221 : ∀ i : Nat, i < 16 → (v_162 i).toInt = Γ_214 (39, 0, 0) i := fun i hi => by rw [eΓ_214, tg_r (by decide)]; exact hv_195 i hi
      have hx_222 : (v_162 0).toInt = Γ_214 (39, 0, 0) 0 := hv_221 0 (by decide)
      have hx_223 : (v_162 1).toInt = Γ_214 (39, 0, 0) 1 := hv_221 1 (by decide)
      have hx_224 : (v_162 3).toInt = Γ_214 (39, 0, 0) 3 := hv_221 3 (by decide)
      have hx_225 : (v_162 4).toInt = Γ_214 (39, 0, 0) 4 := hv_221 4 (by decide)
      have hx_226 : (v_162 5).toInt = Γ_214 (39, 0, 0) 5 := hv_221 5 (by decide)
      have hx_227 : (v_162 6).toInt = Γ_214 (39, 0, 0) 6 := hv_221 6 (by decide)
      have hx_228 : (v_162 7).toInt = Γ_214 (39, 0, 0) 7 := hv_221 7 (by decide)
      have hx_229 : (v_162 8).toInt = Γ_214 (39, 0, 0) 8 := hv_221 8 (by decide)
      have hg_230 : ∀ j : Nat, j < 22 → (g_176 j).toInt = Γ_214 (44, 22, 0) j := fun j hj => by rw [eΓ_214, tg_r (by decide)]; exact hg_204 j hj
      have hO_MCL : Γ_214 (45, 1056, 0) = tgu (tgu (tgu (tgu (Γ (45, 1056, 0)) ((48 * t0 + 4 * Γ (46, 22, 0) t0.toNat + 0).toNat) (A0)) ((48 * t0 + 4 * Γ (46, 22, 0) t0.toNat + 1).toNat) (A1)) ((48 * t0 + 4 * Γ (46, 22, 0) t0.toNat + 2).toNat) ((-1 : Int))) ((48 * t0 + 4 * Γ (46, 22, 0) t0.toNat + 3).toNat) (A3) := by rw [eΓ_214, tg_rf (by decide)]; exact hO_MCL
      have hO_MCLS : Γ_214 (46, 22, 0) = tgu (Γ (46, 22, 0)) t0.toNat (Γ (46, 22, 0) t0.toNat + 1) := by rw [eΓ_214, tg_f, hO_MCLS]
      have hO_SIGN : Γ_214 (43, 8800, 0) = Γ_75 (43, 8800, 0) := by rw [eΓ_214, tg_rf (by decide)]; exact hO_SIGN
      obtain ⟨hpa, hpb, hpc, hpd, _⟩ := id hp
      have hle := congrFun (show Γ_214 (44, 22, 0) = _ from by rw [eΓ_214, tg_rf (by decide)]) t0.toNat
      have hp : ps (Γ_214 (43, 8800, 0)) t0 (Γ_214 (44, 22, 0) t0.toNat) (Γ_214 (39, 0, 0) 1) T0 (Γ_214 (39, 0, 0) 5) a (d + 1) := hp.eq (show Γ_214 (43, 8800, 0) = _ from by rw [eΓ_214, tg_rf (by decide)]) rfl (congrFun (show Γ_214 (44, 22, 0) = _ from by rw [eΓ_214, tg_rf (by decide)]) _) (by omega) rfl (by omega)
      have hz : fz (Γ (43, 8800, 0)) (Γ_214 (43, 8800, 0)) (Γ (44, 22, 0)) (Γ_214 (44, 22, 0)) t0 := by rw [(show Γ_214 (43, 8800, 0) = _ from by rw [eΓ_214, tg_rf (by decide)]), (show Γ_214 (44, 22, 0) = _ from by rw [eΓ_214, tg_rf (by decide)])]; exact hz
      have hfw : fw (Γ (43, 8800, 0)) (Γ_214 (43, 8800, 0)) (Γ (44, 22, 0)) (Γ_214 (44, 22, 0)) t0 := by rw [(show Γ_214 (43, 8800, 0) = _ from by rw [eΓ_214, tg_rf (by decide)]), (show Γ_214 (44, 22, 0) = _ from by rw [eΓ_214, tg_rf (by decide)])]; exact hfw
      obtain ⟨hpa, hpb, hpc, hpd, _⟩ := id hp
      have hq2 : tc (Γ_214 (43, 8800, 0)) (Γ (45, 1056, 0)) (Γ (46, 22, 0)) t0 (Γ (44, 22, 0) t0.toNat) := htc.fz (by omega) hz (Int.le_refl _)
      have hq3 : tc (Γ_214 (43, 8800, 0)) (Γ_214 (45, 1056, 0)) (Γ (46, 22, 0)) t0 (Γ_214 (44, 22, 0) t0.toNat) := (hq2.mono hz.2.1).mc (by omega) (fun i9 q9 => by rw [hO_MCL, tgu_n (by omega), tgu_n (by omega), tgu_n (by omega), tgu_n (by omega)])
      have hm0 : Γ_214 (45, 1056, 0) (48 * t0 + 4 * Γ (46, 22, 0) t0.toNat + 0).toNat = A0 := by rw [hO_MCL, tgu_n (by omega), tgu_n (by omega), tgu_n (by omega), tgu_s]
      have hm1 : Γ_214 (45, 1056, 0) (48 * t0 + 4 * Γ (46, 22, 0) t0.toNat + 1).toNat = A1 := by rw [hO_MCL, tgu_n (by omega), tgu_n (by omega), tgu_s]
      have hm2 : Γ_214 (45, 1056, 0) (48 * t0 + 4 * Γ (46, 22, 0) t0.toNat + 2).toNat = (-1) := by rw [hO_MCL, tgu_n (by omega), tgu_s]
      have hm3 : Γ_214 (45, 1056, 0) (48 * t0 + 4 * Γ (46, 22, 0) t0.toNat + 3).toNat = A3 := by rw [hO_MCL, tgu_s]
      have hq4 : tc (Γ_214 (43, 8800, 0)) (Γ_214 (45, 1056, 0)) (Γ_214 (46, 22, 0)) t0 (Γ_214 (44, 22, 0) t0.toNat) := by rw [hO_MCLS]; exact hq3.add ⟨(Or.inl (by rw [hm2]; omega)), (fun _ => by rw [hm0, hm1]; exact ⟨by omega, by omega, by omega, by rw [hO_SIGN]; exact hS1⟩)⟩
      refine lv_iconst (v := 1) hx hb dX12_clauseOf_148 (by decide) ?_
      have hpo9 : tl_J (1 : Int32) (Γ_214 (46, 22, 0) = tgu (Γ (46, 22, 0)) t0.toNat (Γ (46, 22, 0) t0.toNat + 1) ∧ Γ_214 (44, 22, 0) t0.toNat ≤ Γ_214 (39, 0, 0) 1 ∧ (0 ≤ Γ_214 (39, 0, 0) 5 ∧ Γ_214 (39, 0, 0) 5 ≤ 60) ∧ tc (Γ_214 (43, 8800, 0)) (Γ_214 (45, 1056, 0)) (Γ_214 (46, 22, 0)) t0 (Γ_214 (44, 22, 0) t0.toNat)) ∧ Γ_214 (39, 0, 0) 0 = Γ (39, 0, 0) 0 ∧ Γ_214 (39, 0, 0) 4 = Γ (39, 0, 0) 4 ∧ Γ_214 (39, 0, 0) 7 = Γ (39, 0, 0) 7 ∧ Γ (39, 0, 0) 1 ≤ Γ_214 (39, 0, 0) 1 ∧ Γ_214 (39, 0, 0) 1 ≤ T0 ∧ fw (Γ (43, 8800, 0)) (Γ_214 (43, 8800, 0)) (Γ (44, 22, 0)) (Γ_214 (44, 22, 0)) t0 ∧ (∀ i : Nat, (i : Int) < 48 * t0 ∨ 48 * t0 + 48 ≤ i → Γ_214 (45, 1056, 0) i = Γ (45, 1056, 0) i) ∧ (∀ j : Nat, ¬ j = t0.toNat → Γ_214 (46, 22, 0) j = Γ (46, 22, 0) j) ∧ tc (Γ_214 (43, 8800, 0)) (Γ_214 (45, 1056, 0)) (Γ_214 (46, 22, 0)) t0 (400) ∧ (Γ (46, 22, 0) t0.toNat ≤ Γ_214 (46, 22, 0) t0.toNat ∧ Γ_214 (46, 22, 0) t0.toNat ≤ Γ (46, 22, 0) t0.toNat + 1) := ⟨(Or.inl ⟨rfl, ⟨hO_MCLS, (by omega), (by omega), hq4⟩⟩), ⟨(by omega), (by omega), (by omega), (by omega), (by omega), hfw, (fun i9 q9 => by rw [hO_MCL, tgu_n (by omega), tgu_n (by omega), tgu_n (by omega), tgu_n (by omega)]), (fun j9 q9 => by rw [hO_MCLS, tgu_n q9]), (hq4.mono (by omega)), (by rw [hO_MCLS, tgu_s]; omega)⟩⟩
      exact W.zret (ty := .boolean) (v := 1) hx hb hr rfl (fun t ht hW => ⟨⟨_, (f_215, Γ_214), rfl, hpo9, by rw [ht]; exact hP, hI, hfr, hgr⟩, hS.F ht⟩) hS.2.2 dX12_clauseOf_149
    · have c_159 := hE_158.t c_159
      refine lv_aload_n hx hb dX12_clauseOf_92 rfl (lv_at hl 1 rfl) ?_
      obtain ⟨r_232, v_233, q_234, hf_231, hr_235, hv_236⟩ := (show tp_o_M L K 0 0 (Γ_152 (39, 0, 0)) (f_150 o) from hI.at ho)
      have hx_237 : (v_233 0).toInt = Γ_152 (39, 0, 0) 0 := hv_236 0 (by decide)
      have hx_238 : (v_233 1).toInt = Γ_152 (39, 0, 0) 1 := hv_236 1 (by decide)
      have hx_239 : (v_233 3).toInt = Γ_152 (39, 0, 0) 3 := hv_236 3 (by decide)
      have hx_240 : (v_233 4).toInt = Γ_152 (39, 0, 0) 4 := hv_236 4 (by decide)
      have hx_241 : (v_233 5).toInt = Γ_152 (39, 0, 0) 5 := hv_236 5 (by decide)
      have hx_242 : (v_233 6).toInt = Γ_152 (39, 0, 0) 6 := hv_236 6 (by decide)
      have hx_243 : (v_233 7).toInt = Γ_152 (39, 0, 0) 7 := hv_236 7 (by decide)
      have hx_244 : (v_233 8).toInt = Γ_152 (39, 0, 0) 8 := hv_236 8 (by decide)
      refine tp_get (cy := cy) (ci := 12) (v := .ref (r_232 5)) (C := RX12) (T := TX12) (N := 49) hx hb hta inlX12 hown hK hP ho.1 hf_231 rfl 6 (by decide) (hta _ wk_155) (fun _ h9 => h9) rfl dX12_clauseOf_93 ?_
      refine lv_iload_n hx hb dX12_clauseOf_96 rfl (lv_at hl 0 rfl) ?_
      refine lv_iconst (v := 2) hx hb dX12_clauseOf_97 (by decide) ?_
      refine lv_iadd hx hb dX12_clauseOf_98 ?_
      refine lv_topi (fun z_245 ez_245 => ?_)
      try have iz_245 : z_245.toInt = z_42.toInt + (2 : Int) := by rw [ez_245]; exact tl_addN z_42 2 rfl rfl (by omega) (by omega)
      refine lv_aload_n hx hb dX12_clauseOf_99 rfl (lv_at hl 1 rfl) ?_
      refine tp_get (cy := cy) (ci := 12) (v := .ref (r_232 4)) (C := RX12) (T := TX12) (N := 49) hx hb hta inlX12 hown hK hP ho.1 hf_231 rfl 5 (by decide) (hta _ wk_154) (fun _ h9 => h9) rfl dX12_clauseOf_100 ?_
      refine lv_aload_n hx hb dX12_clauseOf_103 rfl (lv_at hl 1 rfl) ?_
      refine tp_get (cy := cy) (ci := 12) (v := .int (v_233 4)) (C := RX12) (T := TX12) (N := 49) hx hb hta inlX12 hown hK hP ho.1 hf_231 rfl 20 (by decide) (hta _ wk_537) (fun _ h9 => h9) rfl dX12_clauseOf_104 ?_
      obtain ⟨g_247, hf_246, hg_248⟩ := (show tp_gi cy (22) (Γ_152 (44, 22, 0)) (f_150 (r_232 4)) from hI.at (show tp_r L K 44 22 0 (r_232 4) from hr_235 4 (by decide)))
      have hn_249 : vp_in (v_233 4) (22) := tl_in (by omega) (by omega)
      refine tp_iald (cy := cy) hx hb hK hP (show tp_r L K 44 22 0 (r_232 4) from hr_235 4 (by decide)).1 hf_246 hn_249 dX12_clauseOf_107 ?_
      refine lv_topi (fun z_250 ez_250 => ?_)
      have iz_250 : z_250.toInt = Γ_152 (44, 22, 0) (v_233 4).toInt.toNat := by rw [ez_250]; exact hg_248 _ (tp_pin hn_249)
      have jz_250 : z_250.toInt = Γ_152 (44, 22, 0) t0.toNat := by rw [show t0 = (v_233 4).toInt from by omega]; exact iz_250
      obtain ⟨g_252, hf_251, hg_253⟩ := (show tp_gi cy (1056) (Γ_152 (45, 1056, 0)) (f_150 (r_232 5)) from hI.at (show tp_r L K 45 1056 0 (r_232 5) from hr_235 5 (by decide)))
      have hn_254 : vp_in z_245 (1056) := tl_in (by omega) (by omega)
      have hj_255 : z_245.toNatClampNeg = (48 * t0 + 4 * Γ (46, 22, 0) t0.toNat + 2).toNat := by show z_245.toInt.toNat = _; omega
      have hv_256 : z_250.toInt = A1 := by omega
      obtain ⟨Γ_257, eΓ_257⟩ : ∃ y : tk_G, y = tg Γ_152 (45, 1056, 0) ((48 * t0 + 4 * Γ (46, 22, 0) t0.toNat + 2).toNat) A1 := ⟨_, rfl⟩
      have hI9 : tp_I cy L K Γ_257 (va_up f_150 (r_232 5) (.inl (cy 0, 1056, .inl (upd g_252 z_245.toNatClampNeg z_250)))) := by have q9 : tg Γ_152 (45, 1056, 0) ((48 * t0 + 4 * Γ (46, 22, 0) t0.toNat + 2).toNat) A1 = tg Γ_152 (45, 1056, 0) z_245.toNatClampNeg z_250.toInt := (by rw [hj_255, hv_256]); rw [eΓ_257, q9]; exact hI.setg hU rfl (show tp_r L K 45 1056 0 (r_232 5) from hr_235 5 (by decide)) (show tp_gi cy (1056) (tgu (Γ_152 (45, 1056, 0)) _ _) _ from ⟨_, rfl, tp_gi_upd hg_253⟩)
      have hfr9 : ∀ b, (K b).1 ∉ ([39, 43, 44, 52, 45, 46] : List Nat) → va_up f_150 (r_232 5) (.inl (cy 0, 1056, .inl (upd g_252 z_245.toNatClampNeg z_250))) b = f b := tp_fr hfr (show tp_r L K 45 1056 0 (r_232 5) from hr_235 5 (by decide)) (by decide)
      refine tp_iast (cy := cy) hx hb hK hP hD hS (show tp_r L K 45 1056 0 (r_232 5) from hr_235 5 (by decide)).1 hf_251 hn_254 dX12_clauseOf_108 (fun H locs hP hD hS => ?_)
      have hP : va_P D vwCl (va_pl L (va_up f_150 (r_232 5) (.inl (cy 0, 1056, .inl (upd g_252 z_245.toNatClampNeg z_250))))) H := hP
      generalize hfe : va_up f_150 (r_232 5) (.inl (cy 0, 1056, .inl (upd g_252 z_245.toNatClampNeg z_250))) = f_258 at hP hI9 hfr9
      have hD : va_D A (va_pl L f_258) := tp_D hL hAL
      have hf_259 := (show f_258 (r_22 6) = _ from by rw [← hfe, va_up_ne _ _ (tp_ne (show tp_r L K 46 22 0 (r_22 6) from hr_25 6 (by decide)) (show tp_r L K 45 1056 0 (r_232 5) from hr_235 5 (by decide)) (by decide))]).trans hf_154
      have hf_260 := (show f_258 (r_82 4) = _ from by rw [← hfe, va_up_ne _ _ (tp_ne (show tp_r L K 44 22 0 (r_82 4) from hr_85 4 (by decide)) (show tp_r L K 45 1056 0 (r_232 5) from hr_235 5 (by decide)) (by decide))]).trans hf_155
      have hf_261 := (show f_258 o = _ from by rw [← hfe, va_up_ne _ _ (tp_ne ho (show tp_r L K 45 1056 0 (r_232 5) from hr_235 5 (by decide)) (by decide))]).trans hf_231
      have hf_262 := (show f_258 (r_232 4) = _ from by rw [← hfe, va_up_ne _ _ (tp_ne (show tp_r L K 44 22 0 (r_232 4) from hr_235 4 (by decide)) (show tp_r L K 45 1056 0 (r_232 5) from hr_235 5 (by decide)) (by decide))]).trans hf_246
      have hf_263 : f_258 (r_232 5) = .inl (cy 0, 1056, .inl (upd g_252 z_245.toNatClampNeg z_250)) := by rw [← hfe]; exact va_up_self _ _ _
      clear hfe
      have hI := hI9
      have hfr := hfr9
      clear hI9 hfr9
      have wxΓ_257_MLEN : Γ_257 (44, 22, 0) t0.toNat = Γ_152 (44, 22, 0) t0.toNat := by rw [eΓ_257, tg_r (by decide)]
      have wxΓ_257_MCLS : Γ_257 (46, 22, 0) t0.toNat = Γ_152 (46, 22, 0) t0.toNat := by rw [eΓ_257, tg_r (by decide)]
      have wsΓ_257 : Γ_257 (45, 1056, 0) ((48 * t0 + 4 * Γ (46, 22, 0) t0.toNat + 2).toNat) = A1 := by rw [eΓ_257]; exact tg_s
      have hgr : ∀ κ : tk_K, κ.1 ∉ ([39, 43, 44, 52, 45, 46] : List Nat) → Γ_257 κ = Γ κ := tg_fr hgr eΓ_257 (by decide)
      have hg_264 : ∀ j : Nat, j < 22 → (g_37 j).toInt = Γ_257 (46, 22, 0) j := fun j hj => by rw [eΓ_257, tg_r (by decide)]; exact hg_156 j hj
      have hg_265 : ∀ j : Nat, j < 22 → (g_97 j).toInt = Γ_257 (44, 22, 0) j := fun j hj => by rw [eΓ_257, tg_r (by decide)]; exact hg_157 j hj
      have hv_266 : ∀ i : Nat, i < 16 → (v_233 i).toInt = Γ_257 (39, 0, 0) i := fun i hi => by rw [eΓ_257, tg_r (by decide)]; exact hv_236 i hi
      have hx_267 : (v_233 0).toInt = Γ_257 (39, 0, 0) 0 := hv_266 0 (by decide)
      have hx_268 : (v_233 1).toInt = Γ_257 (39, 0, 0) 1 := hv_266 1 (by decide)
      have hx_269 : (v_233 3).toInt = Γ_257 (39, 0, 0) 3 := hv_266 3 (by decide)
      have hx_270 : (v_233 4).toInt = Γ_257 (39, 0, 0) 4 := hv_266 4 (by decide)
      have hx_271 : (v_233 5).toInt = Γ_257 (39, 0, 0) 5 := hv_266 5 (by decide)
      have hx_272 : (v_233 6).toInt = Γ_257 (39, 0, 0) 6 := hv_266 6 (by decide)
      have hx_273 : (v_233 7).toInt = Γ_257 (39, 0, 0) 7 := hv_266 7 (by decide)
      have hx_274 : (v_233 8).toInt = Γ_257 (39, 0, 0) 8 := hv_266 8 (by decide)
      have hg_275 : ∀ j : Nat, j < 22 → (g_247 j).toInt = Γ_257 (44, 22, 0) j := fun j hj => by rw [eΓ_257, tg_r (by decide)]; exact hg_248 j hj
      have hO_MCL : Γ_257 (45, 1056, 0) = tgu (tgu (tgu (tgu (Γ (45, 1056, 0)) ((48 * t0 + 4 * Γ (46, 22, 0) t0.toNat + 0).toNat) (A0)) ((48 * t0 + 4 * Γ (46, 22, 0) t0.toNat + 1).toNat) (A1)) ((48 * t0 + 4 * Γ (46, 22, 0) t0.toNat + 2).toNat) ((-1 : Int))) ((48 * t0 + 4 * Γ (46, 22, 0) t0.toNat + 2).toNat) (A1) := by rw [eΓ_257, tg_f, hO_MCL]
      have hO_MCLS : Γ_257 (46, 22, 0) = Γ (46, 22, 0) := by rw [eΓ_257, tg_rf (by decide)]; exact hO_MCLS
      have hO_SIGN : Γ_257 (43, 8800, 0) = Γ_75 (43, 8800, 0) := by rw [eΓ_257, tg_rf (by decide)]; exact hO_SIGN
      obtain ⟨hpa, hpb, hpc, hpd, _⟩ := id hp
      have hle := congrFun (show Γ_257 (44, 22, 0) = _ from by rw [eΓ_257, tg_rf (by decide)]) t0.toNat
      have hp : ps (Γ_257 (43, 8800, 0)) t0 (Γ_257 (44, 22, 0) t0.toNat) (Γ_257 (39, 0, 0) 1) T0 (Γ_257 (39, 0, 0) 5) a (d + 1) := hp.eq (show Γ_257 (43, 8800, 0) = _ from by rw [eΓ_257, tg_rf (by decide)]) rfl (congrFun (show Γ_257 (44, 22, 0) = _ from by rw [eΓ_257, tg_rf (by decide)]) _) (by omega) rfl (by omega)
      have hz : fz (Γ (43, 8800, 0)) (Γ_257 (43, 8800, 0)) (Γ (44, 22, 0)) (Γ_257 (44, 22, 0)) t0 := by rw [(show Γ_257 (43, 8800, 0) = _ from by rw [eΓ_257, tg_rf (by decide)]), (show Γ_257 (44, 22, 0) = _ from by rw [eΓ_257, tg_rf (by decide)])]; exact hz
      have hfw : fw (Γ (43, 8800, 0)) (Γ_257 (43, 8800, 0)) (Γ (44, 22, 0)) (Γ_257 (44, 22, 0)) t0 := by rw [(show Γ_257 (43, 8800, 0) = _ from by rw [eΓ_257, tg_rf (by decide)]), (show Γ_257 (44, 22, 0) = _ from by rw [eΓ_257, tg_rf (by decide)])]; exact hfw
      refine lv_aload_n hx hb dX12_clauseOf_109 rfl (lv_at hl 1 rfl) ?_
      obtain ⟨hpa, hpb, hpc, hpd, _⟩ := id hp
      obtain ⟨a, ha2⟩ : ∃ y : Nat, y = (400 * t0 + Γ_257 (44, 22, 0) t0.toNat).toNat := ⟨_, rfl⟩
      obtain ⟨d, hd2⟩ : ∃ y : Int, y = 0 := ⟨_, rfl⟩
      have hp : ps (Γ_257 (43, 8800, 0)) t0 (Γ_257 (44, 22, 0) t0.toNat) (Γ_257 (39, 0, 0) 1) T0 (Γ_257 (39, 0, 0) 5) a (d) := by rw [hd2]; exact ⟨by omega, by omega, by omega, by omega, by rw [show (400 * t0 + Γ_257 (44, 22, 0) t0.toNat).toNat - a = 0 from by omega]; exact rp0⟩
      refine tq_ciR hS (hAf _ hS.1) (tq_rV (As := []) (rest := []) ⟨hx, hb, hml, hown, hta⟩ (tp_P.pre hK hN hL hU hI hP) (tp_recv hK hP ho.1 hf_261 rfl) lk_X12_281 (r_X12_tested l D cy H.size L K Γ_257 f_258 o τ T0 t0 a d ho ((hgr _ (by decide)).trans ht) (by first | omega | (simp only [Int32.toInt_toInt64]; omega) | decide | assumption) (by first | omega | (simp only [Int32.toInt_toInt64]; omega) | decide | assumption) (by first | omega | (simp only [Int32.toInt_toInt64]; omega) | decide | assumption) (by first | omega | (simp only [Int32.toInt_toInt64]; omega) | decide | assumption) (by first | omega | (simp only [Int32.toInt_toInt64]; omega) | decide | assumption)) rfl rfl ⟨Nat.le_of_ble_eq_true rfl, Nat.le_of_ble_eq_true rfl⟩ rfl hl.1 rfl (Nat.le_of_ble_eq_true rfl) dX12_clauseOf_110 ⟨Nat.le_of_ble_eq_true rfl, Nat.le_of_ble_eq_true rfl⟩) (fun r_277 f_278 Γ_280 H locs hw_276 hP hI hc_279 hcg_281 hS => ?_)
      have hD : va_D A (va_pl L f_278) := tp_D hL hAL
      have hfr := tp_fr2 hfr hc_279 (by decide)
      have hgr : ∀ κ : tk_K, κ.1 ∉ ([39, 43, 44, 52, 45, 46] : List Nat) → Γ_280 κ = Γ κ := tg_fr2 hgr hcg_281 (by decide)
      have hf_282 := (tp_un hc_279 (show tp_r L K 46 22 0 (r_22 6) from hr_25 6 (by decide)) (by decide)).trans hf_259
      have hg_283 : ∀ j : Nat, j < 22 → (g_37 j).toInt = Γ_280 (46, 22, 0) j := fun j hj => by rw [hcg_281 _ (by decide)]; exact hg_264 j hj
      have wy_280_MCLS : Γ_280 (46, 22, 0) t0.toNat = Γ_257 (46, 22, 0) t0.toNat := congrFun (hcg_281 (46, 22, 0) (by decide)) _
      obtain ⟨hE_284, hw_276⟩ := hw_276
      have hE_284 : tl_J r_277 (ps (Γ_280 (43, 8800, 0)) t0 (Γ_280 (44, 22, 0) t0.toNat) (Γ_280 (39, 0, 0) 1) T0 (Γ_280 (39, 0, 0) 5) a (1) ∧ Γ_280 (44, 22, 0) t0.toNat ≤ Γ_280 (39, 0, 0) 1 ∧ fz (Γ_257 (43, 8800, 0)) (Γ_280 (43, 8800, 0)) (Γ_257 (44, 22, 0)) (Γ_280 (44, 22, 0)) t0) := hE_284
      have hw_276 : Γ_280 (39, 0, 0) 0 = Γ_257 (39, 0, 0) 0 ∧ Γ_280 (39, 0, 0) 4 = Γ_257 (39, 0, 0) 4 ∧ Γ_280 (39, 0, 0) 7 = Γ_257 (39, 0, 0) 7 ∧ Γ_257 (39, 0, 0) 1 ≤ Γ_280 (39, 0, 0) 1 ∧ Γ_280 (39, 0, 0) 1 ≤ T0 ∧ fw (Γ_257 (43, 8800, 0)) (Γ_280 (43, 8800, 0)) (Γ_257 (44, 22, 0)) (Γ_280 (44, 22, 0)) t0 := hw_276
      have hO_MCL : Γ_280 (45, 1056, 0) = tgu (tgu (tgu (tgu (Γ (45, 1056, 0)) ((48 * t0 + 4 * Γ (46, 22, 0) t0.toNat + 0).toNat) (A0)) ((48 * t0 + 4 * Γ (46, 22, 0) t0.toNat + 1).toNat) (A1)) ((48 * t0 + 4 * Γ (46, 22, 0) t0.toNat + 2).toNat) ((-1 : Int))) ((48 * t0 + 4 * Γ (46, 22, 0) t0.toNat + 2).toNat) (A1) := (hcg_281 (45, 1056, 0) (by decide)).trans hO_MCL
      have hO_MCLS : Γ_280 (46, 22, 0) = Γ (46, 22, 0) := (hcg_281 (46, 22, 0) (by decide)).trans hO_MCLS
      have hOp_SIGN := hO_SIGN
      have hfw := hfw.trans hw_276.2.2.2.2.2
      refine lv_if_ne (tgt := 118) hx hb dX12_clauseOf_113 (by decide) (fun c_285 => ?_) (fun c_285 => ?_)
      · have c_285 := hE_284.t c_285
        obtain ⟨hp, hsl, hz9⟩ := c_285
        have hz := hz.trans hz9
        obtain ⟨_, hL2, hM2, _, hrpT⟩ := id hp
        obtain ⟨A3, hA3⟩ : ∃ y : Int, y = Γ_280 (44, 22, 0) t0.toNat := ⟨_, rfl⟩
        have hl13 : A1 ≤ A3 := by have q9 := hz9.2.1; omega
        have hT1 : rp (Γ_280 (43, 8800, 0)) (400 * t0 + A1).toNat (A3 - A1).toNat 1 := by have q9 := hrpT; rw [show 1 = (1 : Int) from by omega, show (400 * t0 + Γ_280 (44, 22, 0) t0.toNat).toNat - a = (A3 - A1).toNat from by omega, show a = (400 * t0 + A1).toNat from by omega] at q9; exact q9
        have hS1 : rp (Γ_280 (43, 8800, 0)) (400 * t0 + A0).toNat (A1 - A0).toNat 1 := hS1.ext (fun j9 q9 => by rw [hz9.2.2 _ (Or.inl (by omega)), hOp_SIGN])
        have hO_SIGN : Γ_280 (43, 8800, 0) = Γ_280 (43, 8800, 0) := rfl
        refine lv_aload_n hx hb dX12_clauseOf_118 rfl (lv_at hl 1 rfl) ?_
        obtain ⟨r_287, v_288, q_289, hf_286, hr_290, hv_291⟩ := (show tp_o_M L K 0 0 (Γ_280 (39, 0, 0)) (f_278 o) from hI.at ho)
        have hx_292 : (v_288 0).toInt = Γ_280 (39, 0, 0) 0 := hv_291 0 (by decide)
        have hx_293 : (v_288 1).toInt = Γ_280 (39, 0, 0) 1 := hv_291 1 (by decide)
        have hx_294 : (v_288 3).toInt = Γ_280 (39, 0, 0) 3 := hv_291 3 (by decide)
        have hx_295 : (v_288 4).toInt = Γ_280 (39, 0, 0) 4 := hv_291 4 (by decide)
        have hx_296 : (v_288 5).toInt = Γ_280 (39, 0, 0) 5 := hv_291 5 (by decide)
        have hx_297 : (v_288 6).toInt = Γ_280 (39, 0, 0) 6 := hv_291 6 (by decide)
        have hx_298 : (v_288 7).toInt = Γ_280 (39, 0, 0) 7 := hv_291 7 (by decide)
        have hx_299 : (v_288 8).toInt = Γ_280 (39, 0, 0) 8 := hv_291 8 (by decide)
        refine tp_get (cy := cy) (ci := 12) (v := .ref (r_287 5)) (C := RX12) (T := TX12) (N := 49) hx hb hta inlX12 hown hK hP ho.1 hf_286 rfl 6 (by decide) (hta _ wk_155) (fun _ h9 => h9) rfl dX12_clauseOf_119 ?_
        refine lv_iload_n hx hb dX12_clauseOf_122 rfl (lv_at hl 0 rfl) ?_
        refine lv_iconst (v := 3) hx hb dX12_clauseOf_123 (by decide) ?_
        refine lv_iadd hx hb dX12_clauseOf_124 ?_
        refine lv_topi (fun z_300 ez_300 => ?_)
        try have iz_300 : z_300.toInt = z_42.toInt + (3 : Int) := by rw [ez_300]; exact tl_addN z_42 3 rfl rfl (by omega) (by omega)
        refine lv_aload_n hx hb dX12_clauseOf_125 rfl (lv_at hl 1 rfl) ?_
        refine tp_get (cy := cy) (ci := 12) (v := .ref (r_287 4)) (C := RX12) (T := TX12) (N := 49) hx hb hta inlX12 hown hK hP ho.1 hf_286 rfl 5 (by decide) (hta _ wk_154) (fun _ h9 => h9) rfl dX12_clauseOf_126 ?_
        refine lv_aload_n hx hb dX12_clauseOf_129 rfl (lv_at hl 1 rfl) ?_
        refine tp_get (cy := cy) (ci := 12) (v := .int (v_288 4)) (C := RX12) (T := TX12) (N := 49) hx hb hta inlX12 hown hK hP ho.1 hf_286 rfl 20 (by decide) (hta _ wk_537) (fun _ h9 => h9) rfl dX12_clauseOf_130 ?_
        obtain ⟨g_302, hf_301, hg_303⟩ := (show tp_gi cy (22) (Γ_280 (44, 22, 0)) (f_278 (r_287 4)) from hI.at (show tp_r L K 44 22 0 (r_287 4) from hr_290 4 (by decide)))
        have hn_304 : vp_in (v_288 4) (22) := tl_in (by omega) (by omega)
        refine tp_iald (cy := cy) hx hb hK hP (show tp_r L K 44 22 0 (r_287 4) from hr_290 4 (by decide)).1 hf_301 hn_304 dX12_clauseOf_133 ?_
        refine lv_topi (fun z_305 ez_305 => ?_)
        have iz_305 : z_305.toInt = Γ_280 (44, 22, 0) (v_288 4).toInt.toNat := by rw [ez_305]; exact hg_303 _ (tp_pin hn_304)
        have jz_305 : z_305.toInt = Γ_280 (44, 22, 0) t0.toNat := by rw [show t0 = (v_288 4).toInt from by omega]; exact iz_305
        obtain ⟨g_307, hf_306, hg_308⟩ := (show tp_gi cy (1056) (Γ_280 (45, 1056, 0)) (f_278 (r_287 5)) from hI.at (show tp_r L K 45 1056 0 (r_287 5) from hr_290 5 (by decide)))
        have hn_309 : vp_in z_300 (1056) := tl_in (by omega) (by omega)
        have hj_310 : z_300.toNatClampNeg = (48 * t0 + 4 * Γ (46, 22, 0) t0.toNat + 3).toNat := by show z_300.toInt.toNat = _; omega
        have hv_311 : z_305.toInt = A3 := by omega
        obtain ⟨Γ_312, eΓ_312⟩ : ∃ y : tk_G, y = tg Γ_280 (45, 1056, 0) ((48 * t0 + 4 * Γ (46, 22, 0) t0.toNat + 3).toNat) A3 := ⟨_, rfl⟩
        have hI9 : tp_I cy L K Γ_312 (va_up f_278 (r_287 5) (.inl (cy 0, 1056, .inl (upd g_307 z_300.toNatClampNeg z_305)))) := by have q9 : tg Γ_280 (45, 1056, 0) ((48 * t0 + 4 * Γ (46, 22, 0) t0.toNat + 3).toNat) A3 = tg Γ_280 (45, 1056, 0) z_300.toNatClampNeg z_305.toInt := (by rw [hj_310, hv_311]); rw [eΓ_312, q9]; exact hI.setg hU rfl (show tp_r L K 45 1056 0 (r_287 5) from hr_290 5 (by decide)) (show tp_gi cy (1056) (tgu (Γ_280 (45, 1056, 0)) _ _) _ from ⟨_, rfl, tp_gi_upd hg_308⟩)
        have hfr9 : ∀ b, (K b).1 ∉ ([39, 43, 44, 52, 45, 46] : List Nat) → va_up f_278 (r_287 5) (.inl (cy 0, 1056, .inl (upd g_307 z_300.toNatClampNeg z_305))) b = f b := tp_fr hfr (show tp_r L K 45 1056 0 (r_287 5) from hr_290 5 (by decide)) (by decide)
        refine tp_iast (cy := cy) hx hb hK hP hD hS (show tp_r L K 45 1056 0 (r_287 5) from hr_290 5 (by decide)).1 hf_306 hn_309 dX12_clauseOf_134 (fun H locs hP hD hS => ?_)
        have hP : va_P D vwCl (va_pl L (va_up f_278 (r_287 5) (.inl (cy 0, 1056, .inl (upd g_307 z_300.toNatClampNeg z_305))))) H := hP
        generalize hfe : va_up f_278 (r_287 5) (.inl (cy 0, 1056, .inl (upd g_307 z_300.toNatClampNeg z_305))) = f_313 at hP hI9 hfr9
        have hD : va_D A (va_pl L f_313) := tp_D hL hAL
        have hf_314 := (show f_313 (r_22 6) = _ from by rw [← hfe, va_up_ne _ _ (tp_ne (show tp_r L K 46 22 0 (r_22 6) from hr_25 6 (by decide)) (show tp_r L K 45 1056 0 (r_287 5) from hr_290 5 (by decide)) (by decide))]).trans hf_282
        have hf_315 := (show f_313 o = _ from by rw [← hfe, va_up_ne _ _ (tp_ne ho (show tp_r L K 45 1056 0 (r_287 5) from hr_290 5 (by decide)) (by decide))]).trans hf_286
        have hf_316 := (show f_313 (r_287 4) = _ from by rw [← hfe, va_up_ne _ _ (tp_ne (show tp_r L K 44 22 0 (r_287 4) from hr_290 4 (by decide)) (show tp_r L K 45 1056 0 (r_287 5) from hr_290 5 (by decide)) (by decide))]).trans hf_301
        have hf_317 : f_313 (r_287 5) = .inl (cy 0, 1056, .inl (upd g_307 z_300.toNatClampNeg z_305)) := by rw [← hfe]; exact va_up_self _ _ _
        clear hfe
        have hI := hI9
        have hfr := hfr9
        clear hI9 hfr9
        have wxΓ_312_MLEN : Γ_312 (44, 22, 0) t0.toNat = Γ_280 (44, 22, 0) t0.toNat := by rw [eΓ_312, tg_r (by decide)]
        have wxΓ_312_MCLS : Γ_312 (46, 22, 0) t0.toNat = Γ_280 (46, 22, 0) t0.toNat := by rw [eΓ_312, tg_r (by decide)]
        have wsΓ_312 : Γ_312 (45, 1056, 0) ((48 * t0 + 4 * Γ (46, 22, 0) t0.toNat + 3).toNat) = A3 := by rw [eΓ_312]; exact tg_s
        have hgr : ∀ κ : tk_K, κ.1 ∉ ([39, 43, 44, 52, 45, 46] : List Nat) → Γ_312 κ = Γ κ := tg_fr hgr eΓ_312 (by decide)
        have hg_318 : ∀ j : Nat, j < 22 → (g_37 j).toInt = Γ_312 (46, 22, 0) j := fun j hj => by rw [eΓ_312, tg_r (by decide)]; exact hg_283 j hj
        have hv_319 : ∀ i : Nat, i < 16 → (v_288 i).toInt = Γ_312 (39, 0, 0) i := fun i hi => by rw [eΓ_312, tg_r (by decide)]; exact hv_291 i hi
        have hx_320 : (v_288 0).toInt = Γ_312 (39, 0, 0) 0 := hv_319 0 (by decide)
        have hx_321 : (v_288 1).toInt = Γ_312 (39, 0, 0) 1 := hv_319 1 (by decide)
        have hx_322 : (v_288 3).toInt = Γ_312 (39, 0, 0) 3 := hv_319 3 (by decide)
        have hx_323 : (v_288 4).toInt = Γ_312 (39, 0, 0) 4 := hv_319 4 (by decide)
        have hx_324 : (v_288 5).toInt = Γ_312 (39, 0, 0) 5 := hv_319 5 (by decide)
        have hx_325 : (v_288 6).toInt = Γ_312 (39, 0, 0) 6 := hv_319 6 (by decide)
        have hx_326 : (v_288 7).toInt = Γ_312 (39, 0, 0) 7 := hv_319 7 (by decide)
        have hx_327 : (v_288 8).toInt = Γ_312 (39, 0, 0) 8 := hv_319 8 (by decide)
        have hg_328 : ∀ j : Nat, j < 22 → (g_302 j).toInt = Γ_312 (44, 22, 0) j := fun j hj => by rw [eΓ_312, tg_r (by decide)]; exact hg_303 j hj
        have hO_MCL : Γ_312 (45, 1056, 0) = tgu (tgu (tgu (tgu (tgu (Γ (45, 1056, 0)) ((48 * t0 + 4 * Γ (46, 22, 0) t0.toNat + 0).toNat) (A0)) ((48 * t0 + 4 * Γ (46, 22, 0) t0.toNat + 1).toNat) (A1)) ((48 * t0 + 4 * Γ (46, 22, 0) t0.toNat + 2).toNat) ((-1 : Int))) ((48 * t0 + 4 * Γ (46, 22, 0) t0.toNat + 2).toNat) (A1)) ((48 * t0 + 4 * Γ (46, 22, 0) t0.toNat + 3).toNat) (A3) := by rw [eΓ_312, tg_f, hO_MCL]
        have hO_MCLS : Γ_312 (46, 22, 0) = Γ (46, 22, 0) := by rw [eΓ_312, tg_rf (by decide)]; exact hO_MCLS
        have hO_SIGN : Γ_312 (43, 8800, 0) = Γ_280 (43, 8800, 0) := by rw [eΓ_312, tg_rf (by decide)]; exact hO_SIGN
        obtain ⟨hpa, hpb, hpc, hpd, _⟩ := id hp
        have hle := congrFun (show Γ_312 (44, 22, 0) = _ from by rw [eΓ_312, tg_rf (by decide)]) t0.toNat
        have hp : ps (Γ_312 (43, 8800, 0)) t0 (Γ_312 (44, 22, 0) t0.toNat) (Γ_312 (39, 0, 0) 1) T0 (Γ_312 (39, 0, 0) 5) a (1) := hp.eq (show Γ_312 (43, 8800, 0) = _ from by rw [eΓ_312, tg_rf (by decide)]) rfl (congrFun (show Γ_312 (44, 22, 0) = _ from by rw [eΓ_312, tg_rf (by decide)]) _) (by omega) rfl (by omega)
        have hz : fz (Γ (43, 8800, 0)) (Γ_312 (43, 8800, 0)) (Γ (44, 22, 0)) (Γ_312 (44, 22, 0)) t0 := by rw [(show Γ_312 (43, 8800, 0) = _ from by rw [eΓ_312, tg_rf (by decide)]), (show Γ_312 (44, 22, 0) = _ from by rw [eΓ_312, tg_rf (by decide)])]; exact hz
        have hfw : fw (Γ (43, 8800, 0)) (Γ_312 (43, 8800, 0)) (Γ (44, 22, 0)) (Γ_312 (44, 22, 0)) t0 := by rw [(show Γ_312 (43, 8800, 0) = _ from by rw [eΓ_312, tg_rf (by decide)]), (show Γ_312 (44, 22, 0) = _ from by rw [eΓ_312, tg_rf (by decide)])]; exact hfw
        refine lv_aload_n hx hb dX12_clauseOf_135 rfl (lv_at hl 1 rfl) ?_
        refine tp_get (cy := cy) (ci := 12) (v := .ref (r_287 6)) (C := RX12) (T := TX12) (N := 49) hx hb hta inlX12 hown hK hP ho.1 hf_315 rfl 7 (by decide) (hta _ wk_156) (fun _ h9 => h9) rfl dX12_clauseOf_136 ?_
        refine lv_aload_n hx hb dX12_clauseOf_139 rfl (lv_at hl 1 rfl) ?_
        refine tp_get (cy := cy) (ci := 12) (v := .int (v_288 4)) (C := RX12) (T := TX12) (N := 49) hx hb hta inlX12 hown hK hP ho.1 hf_315 rfl 20 (by decide) (hta _ wk_537) (fun _ h9 => h9) rfl dX12_clauseOf_140 ?_
        refine lv_dup2_11 hx hb dX12_clauseOf_143 rfl rfl ?_
        obtain ⟨g_330, hf_329, hg_331⟩ := (show tp_gi cy (22) (Γ_312 (46, 22, 0)) (f_313 (r_287 6)) from hI.at (show tp_r L K 46 22 0 (r_287 6) from hr_290 6 (by decide)))
        have hn_332 : vp_in (v_288 4) (22) := tl_in (by omega) (by omega)
        refine tp_iald (cy := cy) hx hb hK hP (show tp_r L K 46 22 0 (r_287 6) from hr_290 6 (by decide)).1 hf_329 hn_332 dX12_clauseOf_144 ?_
        refine lv_topi (fun z_333 ez_333 => ?_)
        have iz_333 : z_333.toInt = Γ_312 (46, 22, 0) (v_288 4).toInt.toNat := by rw [ez_333]; exact hg_331 _ (tp_pin hn_332)
        have jz_333 : z_333.toInt = Γ_312 (46, 22, 0) t0.toNat := by rw [show t0 = (v_288 4).toInt from by omega]; exact iz_333
        refine lv_iconst (v := 1) hx hb dX12_clauseOf_145 (by decide) ?_
        refine lv_iadd hx hb dX12_clauseOf_146 ?_
        refine lv_topi (fun z_334 ez_334 => ?_)
        try have iz_334 : z_334.toInt = z_333.toInt + (1 : Int) := by rw [ez_334]; exact tl_addN z_333 1 rfl rfl (by omega) (by omega)
        have hn_335 : vp_in (v_288 4) (22) := tl_in (by omega) (by omega)
        have hj_336 : (v_288 4).toNatClampNeg = t0.toNat := by show (v_288 4).toInt.toNat = _; omega
        have hv_337 : z_334.toInt = Γ (46, 22, 0) t0.toNat + 1 := by omega
        obtain ⟨Γ_338, eΓ_338⟩ : ∃ y : tk_G, y = tg Γ_312 (46, 22, 0) t0.toNat (Γ (46, 22, 0) t0.toNat + 1) := ⟨_, rfl⟩
        have hI9 : tp_I cy L K Γ_338 (va_up f_313 (r_287 6) (.inl (cy 0, 22, .inl (upd g_330 (v_288 4).toNatClampNeg z_334)))) := by have q9 : tg Γ_312 (46, 22, 0) t0.toNat (Γ (46, 22, 0) t0.toNat + 1) = tg Γ_312 (46, 22, 0) (v_288 4).toNatClampNeg z_334.toInt := (by rw [hj_336, hv_337]); rw [eΓ_338, q9]; exact hI.setg hU rfl (show tp_r L K 46 22 0 (r_287 6) from hr_290 6 (by decide)) (show tp_gi cy (22) (tgu (Γ_312 (46, 22, 0)) _ _) _ from ⟨_, rfl, tp_gi_upd hg_331⟩)
        have hfr9 : ∀ b, (K b).1 ∉ ([39, 43, 44, 52, 45, 46] : List Nat) → va_up f_313 (r_287 6) (.inl (cy 0, 22, .inl (upd g_330 (v_288 4).toNatClampNeg z_334))) b = f b := tp_fr hfr (show tp_r L K 46 22 0 (r_287 6) from hr_290 6 (by decide)) (by decide)
        refine tp_iast (cy := cy) hx hb hK hP hD hS (show tp_r L K 46 22 0 (r_287 6) from hr_290 6 (by decide)).1 hf_329 hn_335 dX12_clauseOf_147 (fun H locs hP hD hS => ?_)
        have hP : va_P D vwCl (va_pl L (va_up f_313 (r_287 6) (.inl (cy 0, 22, .inl (upd g_330 (v_288 4).toNatClampNeg z_334))))) H := hP
        generalize hfe : va_up f_313 (r_287 6) (.inl (cy 0, 22, .inl (upd g_330 (v_288 4).toNatClampNeg z_334))) = f_339 at hP hI9 hfr9
        have hD : va_D A (va_pl L f_339) := tp_D hL hAL
        have hf_340 := (show f_339 o = _ from by rw [← hfe, va_up_ne _ _ (tp_ne ho (show tp_r L K 46 22 0 (r_287 6) from hr_290 6 (by decide)) (by decide))]).trans hf_315
        have hf_341 := (show f_339 (r_287 4) = _ from by rw [← hfe, va_up_ne _ _ (tp_ne (show tp_r L K 44 22 0 (r_287 4) from hr_290 4 (by decide)) (show tp_r L K 46 22 0 (r_287 6) from hr_290 6 (by decide)) (by decide))]).trans hf_316
        have hf_342 : f_339 (r_287 6) = .inl (cy 0, 22, .inl (upd g_330 (v_288 4).toNatClampNeg z_334)) := by rw [← hfe]; exact va_up_self _ _ _
        clear hfe
        have hI := hI9
        have hfr := hfr9
        clear hI9 hfr9
        have wxΓ_338_MLEN : Γ_338 (44, 22, 0) t0.toNat = Γ_312 (44, 22, 0) t0.toNat := by rw [eΓ_338, tg_r (by decide)]
        have wsΓ_338 : Γ_338 (46, 22, 0) t0.toNat = Γ (46, 22, 0) t0.toNat + 1 := by rw [eΓ_338]; exact tg_s
        have hgr : ∀ κ : tk_K, κ.1 ∉ ([39, 43, 44, 52, 45, 46] : List Nat) → Γ_338 κ = Γ κ := tg_fr hgr eΓ_338 (by decide)
        have hv_343 : ∀ i : Nat, i < 16 → (v_288 i).toInt = Γ_338 (39, 0, 0) i := fun i hi => by rw [eΓ_338, tg_r (by decide)]; exact hv_319 i hi
        have hx_344 : (v_288 0).toInt = Γ_338 (39, 0, 0) 0 := hv_343 0 (by decide)
        have hx_345 : (v_288 1).toInt = Γ_338 (39, 0, 0) 1 := hv_343 1 (by decide)
        have hx_346 : (v_288 3).toInt = Γ_338 (39, 0, 0) 3 := hv_343 3 (by decide)
        have hx_347 : (v_288 4).toInt = Γ_338 (39, 0, 0) 4 := hv_343 4 (by decide)
        have hx_348 : (v_288 5).toInt = Γ_338 (39, 0, 0) 5 := hv_343 5 (by decide)
        have hx_349 : (v_288 6).toInt = Γ_338 (39, 0, 0) 6 := hv_343 6 (by decide)
        have hx_350 : (v_288 7).toInt = Γ_338 (39, 0, 0) 7 := hv_343 7 (by decide)
        have hx_351 : (v_288 8).toInt = Γ_338 (39, 0, 0) 8 := hv_343 8 (by decide)
        have hg_352 : ∀ j : Nat, j < 22 → (g_302 j).toInt = Γ_338 (44, 22, 0) j := fun j hj => by rw [eΓ_338, tg_r (by decide)]; exact hg_328 j hj
        have hO_MCL : Γ_338 (45, 1056, 0) = tgu (tgu (tgu (tgu (tgu (Γ (45, 1056, 0)) ((48 * t0 + 4 * Γ (46, 22, 0) t0.toNat + 0).toNat) (A0)) ((48 * t0 + 4 * Γ (46, 22, 0) t0.toNat + 1).toNat) (A1)) ((48 * t0 + 4 * Γ (46, 22, 0) t0.toNat + 2).toNat) ((-1 : Int))) ((48 * t0 + 4 * Γ (46, 22, 0) t0.toNat + 2).toNat) (A1)) ((48 * t0 + 4 * Γ (46, 22, 0) t0.toNat + 3).toNat) (A3) := by rw [eΓ_338, tg_rf (by decide)]; exact hO_MCL
        have hO_MCLS : Γ_338 (46, 22, 0) = tgu (Γ (46, 22, 0)) t0.toNat (Γ (46, 22, 0) t0.toNat + 1) := by rw [eΓ_338, tg_f, hO_MCLS]
        have hO_SIGN : Γ_338 (43, 8800, 0) = Γ_280 (43, 8800, 0) := by rw [eΓ_338, tg_rf (by decide)]; exact hO_SIGN
        obtain ⟨hpa, hpb, hpc, hpd, _⟩ := id hp
        have hle := congrFun (show Γ_338 (44, 22, 0) = _ from by rw [eΓ_338, tg_rf (by decide)]) t0.toNat
        have hp : ps (Γ_338 (43, 8800, 0)) t0 (Γ_338 (44, 22, 0) t0.toNat) (Γ_338 (39, 0, 0) 1) T0 (Γ_338 (39, 0, 0) 5) a (1) := hp.eq (show Γ_338 (43, 8800, 0) = _ from by rw [eΓ_338, tg_rf (by decide)]) rfl (congrFun (show Γ_338 (44, 22, 0) = _ from by rw [eΓ_338, tg_rf (by decide)]) _) (by omega) rfl (by omega)
        have hz : fz (Γ (43, 8800, 0)) (Γ_338 (43, 8800, 0)) (Γ (44, 22, 0)) (Γ_338 (44, 22, 0)) t0 := by rw [(show Γ_338 (43, 8800, 0) = _ from by rw [eΓ_338, tg_rf (by decide)]), (show Γ_338 (44, 22, 0) = _ from by rw [eΓ_338, tg_rf (by decide)])]; exact hz
        have hfw : fw (Γ (43, 8800, 0)) (Γ_338 (43, 8800, 0)) (Γ (44, 22, 0)) (Γ_338 (44, 22, 0)) t0 := by rw [(show Γ_338 (43, 8800, 0) = _ from by rw [eΓ_338, tg_rf (by decide)]), (show Γ_338 (44, 22, 0) = _ from by rw [eΓ_338, tg_rf (by decide)])]; exact hfw
        obtain ⟨hpa, hpb, hpc, hpd, _⟩ := id hp
        have hq2 : tc (Γ_338 (43, 8800, 0)) (Γ (45, 1056, 0)) (Γ (46, 22, 0)) t0 (Γ (44, 22, 0) t0.toNat) := htc.fz (by omega) hz (Int.le_refl _)
        have hq3 : tc (Γ_338 (43, 8800, 0)) (Γ_338 (45, 1056, 0)) (Γ (46, 22, 0)) t0 (Γ_338 (44, 22, 0) t0.toNat) := (hq2.mono hz.2.1).mc (by omega) (fun i9 q9 => by rw [hO_MCL, tgu_n (by omega), tgu_n (by omega), tgu_n (by omega), tgu_n (by omega), tgu_n (by omega)])
        have hm0 : Γ_338 (45, 1056, 0) (48 * t0 + 4 * Γ (46, 22, 0) t0.toNat + 0).toNat = A0 := by rw [hO_MCL, tgu_n (by omega), tgu_n (by omega), tgu_n (by omega), tgu_n (by omega), tgu_s]
        have hm1 : Γ_338 (45, 1056, 0) (48 * t0 + 4 * Γ (46, 22, 0) t0.toNat + 1).toNat = A1 := by rw [hO_MCL, tgu_n (by omega), tgu_n (by omega), tgu_n (by omega), tgu_s]
        have hm2 : Γ_338 (45, 1056, 0) (48 * t0 + 4 * Γ (46, 22, 0) t0.toNat + 2).toNat = A1 := by rw [hO_MCL, tgu_n (by omega), tgu_s]
        have hm3 : Γ_338 (45, 1056, 0) (48 * t0 + 4 * Γ (46, 22, 0) t0.toNat + 3).toNat = A3 := by rw [hO_MCL, tgu_s]
        have hq4 : tc (Γ_338 (43, 8800, 0)) (Γ_338 (45, 1056, 0)) (Γ_338 (46, 22, 0)) t0 (Γ_338 (44, 22, 0) t0.toNat) := by rw [hO_MCLS]; exact hq3.add ⟨(Or.inr (by rw [hm2, hm3]; exact ⟨by omega, by omega, by omega, by rw [hO_SIGN]; exact hT1⟩)), (fun _ => by rw [hm0, hm1]; exact ⟨by omega, by omega, by omega, by rw [hO_SIGN]; exact hS1⟩)⟩
        refine lv_iconst (v := 1) hx hb dX12_clauseOf_148 (by decide) ?_
        have hpo9 : tl_J (1 : Int32) (Γ_338 (46, 22, 0) = tgu (Γ (46, 22, 0)) t0.toNat (Γ (46, 22, 0) t0.toNat + 1) ∧ Γ_338 (44, 22, 0) t0.toNat ≤ Γ_338 (39, 0, 0) 1 ∧ (0 ≤ Γ_338 (39, 0, 0) 5 ∧ Γ_338 (39, 0, 0) 5 ≤ 60) ∧ tc (Γ_338 (43, 8800, 0)) (Γ_338 (45, 1056, 0)) (Γ_338 (46, 22, 0)) t0 (Γ_338 (44, 22, 0) t0.toNat)) ∧ Γ_338 (39, 0, 0) 0 = Γ (39, 0, 0) 0 ∧ Γ_338 (39, 0, 0) 4 = Γ (39, 0, 0) 4 ∧ Γ_338 (39, 0, 0) 7 = Γ (39, 0, 0) 7 ∧ Γ (39, 0, 0) 1 ≤ Γ_338 (39, 0, 0) 1 ∧ Γ_338 (39, 0, 0) 1 ≤ T0 ∧ fw (Γ (43, 8800, 0)) (Γ_338 (43, 8800, 0)) (Γ (44, 22, 0)) (Γ_338 (44, 22, 0)) t0 ∧ (∀ i : Nat, (i : Int) < 48 * t0 ∨ 48 * t0 + 48 ≤ i → Γ_338 (45, 1056, 0) i = Γ (45, 1056, 0) i) ∧ (∀ j : Nat, ¬ j = t0.toNat → Γ_338 (46, 22, 0) j = Γ (46, 22, 0) j) ∧ tc (Γ_338 (43, 8800, 0)) (Γ_338 (45, 1056, 0)) (Γ_338 (46, 22, 0)) t0 (400) ∧ (Γ (46, 22, 0) t0.toNat ≤ Γ_338 (46, 22, 0) t0.toNat ∧ Γ_338 (46, 22, 0) t0.toNat ≤ Γ (46, 22, 0) t0.toNat + 1) := ⟨(Or.inl ⟨rfl, ⟨hO_MCLS, (by omega), (by omega), hq4⟩⟩), ⟨(by omega), (by omega), (by omega), (by omega), (by omega), hfw, (fun i9 q9 => by rw [hO_MCL, tgu_n (by omega), tgu_n (by omega), tgu_n (by omega), tgu_n (by omega), tgu_n (by omega)]), (fun j9 q9 => by rw [hO_MCLS, tgu_n q9]), (hq4.mono (by omega)), (by rw [hO_MCLS, tgu_s]; omega)⟩⟩
        exact W.zret (ty := .boolean) (v := 1) hx hb hr rfl (fun t ht hW => ⟨⟨_, (f_339, Γ_338), rfl, hpo9, by rw [ht]; exact hP, hI, hfr, hgr⟩, hS.F ht⟩) hS.2.2 dX12_clauseOf_149
      · have c_285 := c_285
        refine lv_iconst (v := 0) hx hb dX12_clauseOf_116 (by decide) ?_
        have hpo9 : tl_J (0 : Int32) (Γ_280 (46, 22, 0) = tgu (Γ (46, 22, 0)) t0.toNat (Γ (46, 22, 0) t0.toNat + 1) ∧ Γ_280 (44, 22, 0) t0.toNat ≤ Γ_280 (39, 0, 0) 1 ∧ (0 ≤ Γ_280 (39, 0, 0) 5 ∧ Γ_280 (39, 0, 0) 5 ≤ 60) ∧ tc (Γ_280 (43, 8800, 0)) (Γ_280 (45, 1056, 0)) (Γ_280 (46, 22, 0)) t0 (Γ_280 (44, 22, 0) t0.toNat)) ∧ Γ_280 (39, 0, 0) 0 = Γ (39, 0, 0) 0 ∧ Γ_280 (39, 0, 0) 4 = Γ (39, 0, 0) 4 ∧ Γ_280 (39, 0, 0) 7 = Γ (39, 0, 0) 7 ∧ Γ (39, 0, 0) 1 ≤ Γ_280 (39, 0, 0) 1 ∧ Γ_280 (39, 0, 0) 1 ≤ T0 ∧ fw (Γ (43, 8800, 0)) (Γ_280 (43, 8800, 0)) (Γ (44, 22, 0)) (Γ_280 (44, 22, 0)) t0 ∧ (∀ i : Nat, (i : Int) < 48 * t0 ∨ 48 * t0 + 48 ≤ i → Γ_280 (45, 1056, 0) i = Γ (45, 1056, 0) i) ∧ (∀ j : Nat, ¬ j = t0.toNat → Γ_280 (46, 22, 0) j = Γ (46, 22, 0) j) ∧ tc (Γ_280 (43, 8800, 0)) (Γ_280 (45, 1056, 0)) (Γ_280 (46, 22, 0)) t0 (400) ∧ (Γ (46, 22, 0) t0.toNat ≤ Γ_280 (46, 22, 0) t0.toNat ∧ Γ_280 (46, 22, 0) t0.toNat ≤ Γ (46, 22, 0) t0.toNat + 1) := ⟨(Or.inr rfl), ⟨(by omega), (by omega), (by omega), (by omega), (by omega), hfw, (fun i9 q9 => by rw [hO_MCL, tgu_n (by omega), tgu_n (by omega), tgu_n (by omega), tgu_n (by omega)]), (fun j9 q9 => by rw [hO_MCLS]), (by rw [hO_MCLS]; exact ((htc.fz (by omega) hfw (Int.le_refl _)).mono (by omega)).mc (by omega) (fun i9 q9 => by rw [hO_MCL, tgu_n (by omega), tgu_n (by omega), tgu_n (by omega), tgu_n (by omega)])), (by rw [hO_MCLS]; omega)⟩⟩
        exact W.zret (ty := .boolean) (v := 0) hx hb hr rfl (fun t ht hW => ⟨⟨_, (f_278, Γ_280), rfl, hpo9, by rw [ht]; exact hP, hI, hfr, hgr⟩, hS.F ht⟩) hS.2.2 dX12_clauseOf_117
  · have c_80 := c_80
    refine lv_iconst (v := 0) hx hb dX12_clauseOf_50 (by decide) ?_
    have hpo9 : tl_J (0 : Int32) (Γ_75 (46, 22, 0) = tgu (Γ (46, 22, 0)) t0.toNat (Γ (46, 22, 0) t0.toNat + 1) ∧ Γ_75 (44, 22, 0) t0.toNat ≤ Γ_75 (39, 0, 0) 1 ∧ (0 ≤ Γ_75 (39, 0, 0) 5 ∧ Γ_75 (39, 0, 0) 5 ≤ 60) ∧ tc (Γ_75 (43, 8800, 0)) (Γ_75 (45, 1056, 0)) (Γ_75 (46, 22, 0)) t0 (Γ_75 (44, 22, 0) t0.toNat)) ∧ Γ_75 (39, 0, 0) 0 = Γ (39, 0, 0) 0 ∧ Γ_75 (39, 0, 0) 4 = Γ (39, 0, 0) 4 ∧ Γ_75 (39, 0, 0) 7 = Γ (39, 0, 0) 7 ∧ Γ (39, 0, 0) 1 ≤ Γ_75 (39, 0, 0) 1 ∧ Γ_75 (39, 0, 0) 1 ≤ T0 ∧ fw (Γ (43, 8800, 0)) (Γ_75 (43, 8800, 0)) (Γ (44, 22, 0)) (Γ_75 (44, 22, 0)) t0 ∧ (∀ i : Nat, (i : Int) < 48 * t0 ∨ 48 * t0 + 48 ≤ i → Γ_75 (45, 1056, 0) i = Γ (45, 1056, 0) i) ∧ (∀ j : Nat, ¬ j = t0.toNat → Γ_75 (46, 22, 0) j = Γ (46, 22, 0) j) ∧ tc (Γ_75 (43, 8800, 0)) (Γ_75 (45, 1056, 0)) (Γ_75 (46, 22, 0)) t0 (400) ∧ (Γ (46, 22, 0) t0.toNat ≤ Γ_75 (46, 22, 0) t0.toNat ∧ Γ_75 (46, 22, 0) t0.toNat ≤ Γ (46, 22, 0) t0.toNat + 1) := ⟨(Or.inr rfl), ⟨(by omega), (by omega), (by omega), (by omega), (by omega), hfw, (fun i9 q9 => by rw [hO_MCL, tgu_n (by omega)]), (fun j9 q9 => by rw [hO_MCLS]), (by rw [hO_MCLS]; exact ((htc.fz (by omega) hfw (Int.le_refl _)).mono (by omega)).mc (by omega) (fun i9 q9 => by rw [hO_MCL, tgu_n (by omega)])), (by rw [hO_MCLS]; omega)⟩⟩
    exact W.zret (ty := .boolean) (v := 0) hx hb hr rfl (fun t ht hW => ⟨⟨_, (f_73, Γ_75), rfl, hpo9, by rw [ht]; exact hP, hI, hfr, hgr⟩, hS.F ht⟩) hS.2.2 dX12_clauseOf_51
set_option maxHeartbeats 4000000 in
set_option maxRecDepth 100000 in
theorem r_clauseOf_0 (l : Launch) (D : va_G) (cy : Nat → ClassId) (sz : Nat) (L : List Nat) (K : Nat → tk_K) (Γ : tk_G) (f : Nat → va_E) (o : Nat) (τ : Nat → Int) (T0 : Int) (t0 : Int) (ho : tp_r L K 39 (0) 0 o) (ht : Γ (41, 400, 0) = τ) (hT : Γ (39, 0, 0) 0 = T0) (hb0 : 0 ≤ Γ (39, 0, 0) 1 ∧ Γ (39, 0, 0) 1 ≤ T0 ∧ T0 ≤ 400) (h4 : Γ (39, 0, 0) 4 = t0 ∧ 0 ≤ t0 ∧ t0 ≤ 21) (hln : 0 ≤ Γ (44, 22, 0) t0.toNat ∧ Γ (44, 22, 0) t0.toNat ≤ Γ (39, 0, 0) 1) (h5 : 0 ≤ Γ (39, 0, 0) 5 ∧ Γ (39, 0, 0) 5 ≤ 60) (hC : 0 ≤ Γ (46, 22, 0) t0.toNat ∧ Γ (46, 22, 0) t0.toNat ≤ 11) (htc : tc (Γ (43, 8800, 0)) (Γ (45, 1056, 0)) (Γ (46, 22, 0)) t0 (Γ (44, 22, 0) t0.toNat)) (h6 : 6 ≤ t0 ∧ t0 ≤ 13) : Met l yX12_clauseOf (tl_w yX12_clauseOf cX12_clauseOf 3 (some .boolean)) ({ frames := 9, cells := 0, slots := 0, locals := 198 }) (va_Pc [.ref o, .int 0] (tp_P D cy L K Γ f sz)) (va_Qi (fun (r : Int32) (u : (Nat → va_E) × tk_G) => tl_J r (u.2 (46, 22, 0) = tgu (Γ (46, 22, 0)) t0.toNat (Γ (46, 22, 0) t0.toNat + 1) ∧ u.2 (44, 22, 0) t0.toNat ≤ u.2 (39, 0, 0) 1 ∧ (0 ≤ u.2 (39, 0, 0) 5 ∧ u.2 (39, 0, 0) 5 ≤ 60) ∧ tc (u.2 (43, 8800, 0)) (u.2 (45, 1056, 0)) (u.2 (46, 22, 0)) t0 (u.2 (44, 22, 0) t0.toNat)) ∧ u.2 (39, 0, 0) 0 = Γ (39, 0, 0) 0 ∧ u.2 (39, 0, 0) 4 = Γ (39, 0, 0) 4 ∧ u.2 (39, 0, 0) 7 = Γ (39, 0, 0) 7 ∧ Γ (39, 0, 0) 1 ≤ u.2 (39, 0, 0) 1 ∧ u.2 (39, 0, 0) 1 ≤ T0 ∧ fw (Γ (43, 8800, 0)) (u.2 (43, 8800, 0)) (Γ (44, 22, 0)) (u.2 (44, 22, 0)) t0 ∧ (∀ i : Nat, (i : Int) < 48 * t0 ∨ 48 * t0 + 48 ≤ i → u.2 (45, 1056, 0) i = Γ (45, 1056, 0) i) ∧ (∀ j : Nat, ¬ j = t0.toNat → u.2 (46, 22, 0) j = Γ (46, 22, 0) j) ∧ tc (u.2 (43, 8800, 0)) (u.2 (45, 1056, 0)) (u.2 (46, 22, 0)) t0 (400) ∧ (Γ (46, 22, 0) t0.toNat ≤ u.2 (46, 22, 0) t0.toNat ∧ u.2 (46, 22, 0) t0.toNat ≤ Γ (46, 22, 0) t0.toNat + 1)) (tp_BG D cy L K Γ f [39, 43, 44, 52, 45, 46]) (tp_A L sz)) 0 0 (tp_A L sz) := by
  refine Met.ofW (cc := cX12_clauseOf) (maxL := 3) (ret := (some .boolean)) (by decide) rfl ?_
  intro p e s m args below meth c s₁ B hml hv
  obtain ⟨rfl, hsz, hP, hK, hL, hI, hN, hU⟩ := hv
  have hx := B.exec
  have hb := B.bytes
  have hr := B.returns
  have hta := tl_hta (atoms_spec (ws := tl_w yX12_clauseOf cX12_clauseOf 3 (some .boolean)) B.pre)
  have hown : s.vm.findClass RX12 = some m.cls := findClass_of_methodNamed B.named
  have hlocks := B.notSynchronized
  subst hsz
  have hI0 := hI
  generalize hAe : tp_A L s.heap.size = A
  have hA : ∀ q : Nat, s.heap.size ≤ q → A q := fun q h => by rw [← hAe]; exact Or.inr h
  have hAL : ∀ q ∈ L, A q := fun q h => by rw [← hAe]; exact Or.inl h
  have hAf : ∀ (H : Heap), s.heap.size ≤ H.size → ∀ q, tp_A L H.size q → A q := fun H h q hq => hq.elim (hAL q) (fun h2 => hA q (Nat.le_trans h h2))
  have hS : va_S A s.heap s.heap [] := va_S.rf
  have hD : va_D A (va_pl L f) := tp_D hL hAL
  have hfr : ∀ b, (K b).1 ∉ ([39, 43, 44, 52, 45, 46] : List Nat) → f b = f b := fun _ _ => rfl
  have hgr : ∀ κ : tk_K, κ.1 ∉ ([39, 43, 44, 52, 45, 46] : List Nat) → Γ κ = Γ κ := fun _ _ => rfl
  have hl := lv_entry ([.ref o, .int 0]) (n := 3) (Nat.le_of_ble_eq_true rfl)
  rw [lg_entry_eq]
  generalize (lg_sl ([.ref o, .int 0]) ++ List.replicate (3 - (lg_sl ([.ref o, .int 0])).length) Slot.unset).toArray = ls at hl ⊢
  have hl : lv_has ls 3 [(0, .ref o), (1, .int 0)] := hl
  obtain ⟨A0, hA0⟩ : ∃ y : Int, y = Γ (44, 22, 0) t0.toNat := ⟨_, rfl⟩
  obtain ⟨a, ha2⟩ : ∃ y : Nat, y = (400 * t0 + Γ (44, 22, 0) t0.toNat).toNat := ⟨_, rfl⟩
  obtain ⟨d, hd2⟩ : ∃ y : Int, y = 0 := ⟨_, rfl⟩
  have hz : fz (Γ (43, 8800, 0)) (Γ (43, 8800, 0)) (Γ (44, 22, 0)) (Γ (44, 22, 0)) t0 := fz.rfl
  have hfw : fw (Γ (43, 8800, 0)) (Γ (43, 8800, 0)) (Γ (44, 22, 0)) (Γ (44, 22, 0)) t0 := fw.same
  have hp : ps (Γ (43, 8800, 0)) t0 (Γ (44, 22, 0) t0.toNat) (Γ (39, 0, 0) 1) T0 (Γ (39, 0, 0) 5) a (d) := by rw [hd2]; exact ⟨by omega, by omega, by omega, by omega, by rw [show (400 * t0 + Γ (44, 22, 0) t0.toNat).toNat - a = 0 from by omega]; exact rp0⟩
  have hO_MCL : Γ (45, 1056, 0) = Γ (45, 1056, 0) := rfl
  have hO_MCLS : Γ (46, 22, 0) = Γ (46, 22, 0) := rfl
  refine lv_aload_n hx hb dX12_clauseOf_0 rfl (lv_at hl 0 rfl) ?_
  obtain ⟨r_2, v_3, q_4, hf_1, hr_5, hv_6⟩ := (show tp_o_M L K 0 0 (Γ (39, 0, 0)) (f o) from hI.at ho)
  have hx_7 : (v_3 0).toInt = Γ (39, 0, 0) 0 := hv_6 0 (by decide)
  have hx_8 : (v_3 1).toInt = Γ (39, 0, 0) 1 := hv_6 1 (by decide)
  have hx_9 : (v_3 3).toInt = Γ (39, 0, 0) 3 := hv_6 3 (by decide)
  have hx_10 : (v_3 4).toInt = Γ (39, 0, 0) 4 := hv_6 4 (by decide)
  have hx_11 : (v_3 5).toInt = Γ (39, 0, 0) 5 := hv_6 5 (by decide)
  have hx_12 : (v_3 6).toInt = Γ (39, 0, 0) 6 := hv_6 6 (by decide)
  have hx_13 : (v_3 7).toInt = Γ (39, 0, 0) 7 := hv_6 7 (by decide)
  have hx_14 : (v_3 8).toInt = Γ (39, 0, 0) 8 := hv_6 8 (by decide)
  refine tq_cvR hS (hAf _ hS.1) (tq_rV (As := []) (rest := []) ⟨hx, hb, hml, hown, hta⟩ (tp_P.pre hK hN hL hU hI hP) (tp_recv hK hP ho.1 hf_1 rfl) lk_X12_178 (r_X12_passWord l D cy s.heap.size L K Γ f o τ T0 ho ht (by first | omega | (simp only [Int32.toInt_toInt64]; omega) | decide | assumption) (by first | omega | (simp only [Int32.toInt_toInt64]; omega) | decide | assumption)) rfl rfl ⟨Nat.le_of_ble_eq_true rfl, Nat.le_of_ble_eq_true rfl⟩ rfl hl.1 rfl (Nat.le_of_ble_eq_true rfl) dX12_clauseOf_1 ⟨Nat.le_of_ble_eq_true rfl, Nat.le_of_ble_eq_true rfl⟩) (fun f_17 Γ_19 H locs hw_15 hP hI hc_18 hcg_20 hS => ?_)
  have hD : va_D A (va_pl L f_17) := tp_D hL hAL
  have hfr := tp_fr2 hfr hc_18 (by decide)
  have hgr : ∀ κ : tk_K, κ.1 ∉ ([39, 43, 44, 52, 45, 46] : List Nat) → Γ_19 κ = Γ κ := tg_fr2 hgr hcg_20 (by decide)
  have wy_19_MLEN : Γ_19 (44, 22, 0) t0.toNat = Γ (44, 22, 0) t0.toNat := congrFun (hcg_20 (44, 22, 0) (by decide)) _
  have wy_19_MCLS : Γ_19 (46, 22, 0) t0.toNat = Γ (46, 22, 0) t0.toNat := congrFun (hcg_20 (46, 22, 0) (by decide)) _
  have hw_15 : Γ_19 (39, 0, 0) 0 = Γ (39, 0, 0) 0 ∧ Γ_19 (39, 0, 0) 3 = Γ (39, 0, 0) 3 ∧ Γ_19 (39, 0, 0) 4 = Γ (39, 0, 0) 4 ∧ Γ_19 (39, 0, 0) 5 = Γ (39, 0, 0) 5 ∧ Γ_19 (39, 0, 0) 6 = Γ (39, 0, 0) 6 ∧ Γ_19 (39, 0, 0) 7 = Γ (39, 0, 0) 7 ∧ Γ_19 (39, 0, 0) 8 = Γ (39, 0, 0) 8 ∧ Γ (39, 0, 0) 1 ≤ Γ_19 (39, 0, 0) 1 ∧ Γ_19 (39, 0, 0) 1 ≤ T0 ∧ (tr_L τ T0 (Γ (39, 0, 0) 1) → Γ (39, 0, 0) 1 + 1 ≤ Γ_19 (39, 0, 0) 1) := hw_15
  have hO_MCL : Γ_19 (45, 1056, 0) = Γ (45, 1056, 0) := (hcg_20 (45, 1056, 0) (by decide)).trans hO_MCL
  have hO_MCLS : Γ_19 (46, 22, 0) = Γ (46, 22, 0) := (hcg_20 (46, 22, 0) (by decide)).trans hO_MCLS
  obtain ⟨hpa, hpb, hpc, hpd, _⟩ := id hp
  have hle := congrFun (hcg_20 (44, 22, 0) (by decide)) t0.toNat
  have hp : ps (Γ_19 (43, 8800, 0)) t0 (Γ_19 (44, 22, 0) t0.toNat) (Γ_19 (39, 0, 0) 1) T0 (Γ_19 (39, 0, 0) 5) a (d) := hp.eq (hcg_20 (43, 8800, 0) (by decide)) rfl (congrFun (hcg_20 (44, 22, 0) (by decide)) _) (by omega) rfl (by omega)
  have hz : fz (Γ (43, 8800, 0)) (Γ_19 (43, 8800, 0)) (Γ (44, 22, 0)) (Γ_19 (44, 22, 0)) t0 := by rw [(hcg_20 (43, 8800, 0) (by decide)), (hcg_20 (44, 22, 0) (by decide))]; exact hz
  have hfw : fw (Γ (43, 8800, 0)) (Γ_19 (43, 8800, 0)) (Γ (44, 22, 0)) (Γ_19 (44, 22, 0)) t0 := by rw [(hcg_20 (43, 8800, 0) (by decide)), (hcg_20 (44, 22, 0) (by decide))]; exact hfw
  refine lv_bipush (v := 48) hx hb dX12_clauseOf_4 (by decide) ?_
  refine lv_aload_n hx hb dX12_clauseOf_6 rfl (lv_at hl 0 rfl) ?_
  obtain ⟨r_22, v_23, q_24, hf_21, hr_25, hv_26⟩ := (show tp_o_M L K 0 0 (Γ_19 (39, 0, 0)) (f_17 o) from hI.at ho)
  have hx_27 : (v_23 0).toInt = Γ_19 (39, 0, 0) 0 := hv_26 0 (by decide)
  have hx_28 : (v_23 1).toInt = Γ_19 (39, 0, 0) 1 := hv_26 1 (by decide)
  have hx_29 : (v_23 3).toInt = Γ_19 (39, 0, 0) 3 := hv_26 3 (by decide)
  have hx_30 : (v_23 4).toInt = Γ_19 (39, 0, 0) 4 := hv_26 4 (by decide)
  have hx_31 : (v_23 5).toInt = Γ_19 (39, 0, 0) 5 := hv_26 5 (by decide)
  have hx_32 : (v_23 6).toInt = Γ_19 (39, 0, 0) 6 := hv_26 6 (by decide)
  have hx_33 : (v_23 7).toInt = Γ_19 (39, 0, 0) 7 := hv_26 7 (by decide)
  have hx_34 : (v_23 8).toInt = Γ_19 (39, 0, 0) 8 := hv_26 8 (by decide)
  refine tp_get (cy := cy) (ci := 12) (v := .int (v_23 4)) (C := RX12) (T := TX12) (N := 49) hx hb hta inlX12 hown hK hP ho.1 hf_21 rfl 20 (by decide) (hta _ wk_537) (fun _ h9 => h9) rfl dX12_clauseOf_7 ?_
  refine lv_imul hx hb dX12_clauseOf_10 ?_
  refine lv_topi (fun z_35 ez_35 => ?_)
  try have iz_35 : z_35.toInt = (48 : Int) * (v_23 4).toInt := by rw [ez_35]; exact tl_mulN 48 (v_23 4) rfl rfl (by omega) (by omega)
  refine lv_iconst (v := 4) hx hb dX12_clauseOf_11 (by decide) ?_
  refine lv_aload_n hx hb dX12_clauseOf_12 rfl (lv_at hl 0 rfl) ?_
  refine tp_get (cy := cy) (ci := 12) (v := .ref (r_22 6)) (C := RX12) (T := TX12) (N := 49) hx hb hta inlX12 hown hK hP ho.1 hf_21 rfl 7 (by decide) (hta _ wk_156) (fun _ h9 => h9) rfl dX12_clauseOf_13 ?_
  refine lv_aload_n hx hb dX12_clauseOf_16 rfl (lv_at hl 0 rfl) ?_
  refine tp_get (cy := cy) (ci := 12) (v := .int (v_23 4)) (C := RX12) (T := TX12) (N := 49) hx hb hta inlX12 hown hK hP ho.1 hf_21 rfl 20 (by decide) (hta _ wk_537) (fun _ h9 => h9) rfl dX12_clauseOf_17 ?_
  obtain ⟨g_37, hf_36, hg_38⟩ := (show tp_gi cy (22) (Γ_19 (46, 22, 0)) (f_17 (r_22 6)) from hI.at (show tp_r L K 46 22 0 (r_22 6) from hr_25 6 (by decide)))
  have hn_39 : vp_in (v_23 4) (22) := tl_in (by omega) (by omega)
  refine tp_iald (cy := cy) hx hb hK hP (show tp_r L K 46 22 0 (r_22 6) from hr_25 6 (by decide)).1 hf_36 hn_39 dX12_clauseOf_20 ?_
  refine lv_topi (fun z_40 ez_40 => ?_)
  have iz_40 : z_40.toInt = Γ_19 (46, 22, 0) (v_23 4).toInt.toNat := by rw [ez_40]; exact hg_38 _ (tp_pin hn_39)
  have jz_40 : z_40.toInt = Γ_19 (46, 22, 0) t0.toNat := by rw [show t0 = (v_23 4).toInt from by omega]; exact iz_40
  refine lv_imul hx hb dX12_clauseOf_21 ?_
  refine lv_topi (fun z_41 ez_41 => ?_)
  try have iz_41 : z_41.toInt = (4 : Int) * z_40.toInt := by rw [ez_41]; exact tl_mulN 4 z_40 rfl rfl (by omega) (by omega)
  refine lv_iadd hx hb dX12_clauseOf_22 ?_
  refine lv_topi (fun z_42 ez_42 => ?_)
  try have iz_42 : z_42.toInt = z_35.toInt + z_41.toInt := by rw [ez_42]; exact tl_addN z_35 z_41 rfl rfl (by omega) (by omega)
  refine lv_istore_n (lv' := [(2, .int z_42), (0, .ref o), (1, .int 0)]) hx hb dX12_clauseOf_23 rfl hl (by decide) rfl (fun ls hl => ?_)
  refine lv_aload_n hx hb dX12_clauseOf_24 rfl (lv_at hl 1 rfl) ?_
  refine tp_get (cy := cy) (ci := 12) (v := .ref (r_22 5)) (C := RX12) (T := TX12) (N := 49) hx hb hta inlX12 hown hK hP ho.1 hf_21 rfl 6 (by decide) (hta _ wk_155) (fun _ h9 => h9) rfl dX12_clauseOf_25 ?_
  refine lv_iload_n hx hb dX12_clauseOf_28 rfl (lv_at hl 0 rfl) ?_
  refine lv_aload_n hx hb dX12_clauseOf_29 rfl (lv_at hl 1 rfl) ?_
  refine tp_get (cy := cy) (ci := 12) (v := .ref (r_22 4)) (C := RX12) (T := TX12) (N := 49) hx hb hta inlX12 hown hK hP ho.1 hf_21 rfl 5 (by decide) (hta _ wk_154) (fun _ h9 => h9) rfl dX12_clauseOf_30 ?_
  refine lv_aload_n hx hb dX12_clauseOf_33 rfl (lv_at hl 1 rfl) ?_
  refine tp_get (cy := cy) (ci := 12) (v := .int (v_23 4)) (C := RX12) (T := TX12) (N := 49) hx hb hta inlX12 hown hK hP ho.1 hf_21 rfl 20 (by decide) (hta _ wk_537) (fun _ h9 => h9) rfl dX12_clauseOf_34 ?_
  obtain ⟨g_44, hf_43, hg_45⟩ := (show tp_gi cy (22) (Γ_19 (44, 22, 0)) (f_17 (r_22 4)) from hI.at (show tp_r L K 44 22 0 (r_22 4) from hr_25 4 (by decide)))
  have hn_46 : vp_in (v_23 4) (22) := tl_in (by omega) (by omega)
  refine tp_iald (cy := cy) hx hb hK hP (show tp_r L K 44 22 0 (r_22 4) from hr_25 4 (by decide)).1 hf_43 hn_46 dX12_clauseOf_37 ?_
  refine lv_topi (fun z_47 ez_47 => ?_)
  have iz_47 : z_47.toInt = Γ_19 (44, 22, 0) (v_23 4).toInt.toNat := by rw [ez_47]; exact hg_45 _ (tp_pin hn_46)
  have jz_47 : z_47.toInt = Γ_19 (44, 22, 0) t0.toNat := by rw [show t0 = (v_23 4).toInt from by omega]; exact iz_47
  obtain ⟨g_49, hf_48, hg_50⟩ := (show tp_gi cy (1056) (Γ_19 (45, 1056, 0)) (f_17 (r_22 5)) from hI.at (show tp_r L K 45 1056 0 (r_22 5) from hr_25 5 (by decide)))
  have hn_51 : vp_in z_42 (1056) := tl_in (by omega) (by omega)
  have hj_52 : z_42.toNatClampNeg = (48 * t0 + 4 * Γ (46, 22, 0) t0.toNat + 0).toNat := by show z_42.toInt.toNat = _; omega
  have hv_53 : z_47.toInt = A0 := by omega
  obtain ⟨Γ_54, eΓ_54⟩ : ∃ y : tk_G, y = tg Γ_19 (45, 1056, 0) ((48 * t0 + 4 * Γ (46, 22, 0) t0.toNat + 0).toNat) A0 := ⟨_, rfl⟩
  have hI9 : tp_I cy L K Γ_54 (va_up f_17 (r_22 5) (.inl (cy 0, 1056, .inl (upd g_49 z_42.toNatClampNeg z_47)))) := by have q9 : tg Γ_19 (45, 1056, 0) ((48 * t0 + 4 * Γ (46, 22, 0) t0.toNat + 0).toNat) A0 = tg Γ_19 (45, 1056, 0) z_42.toNatClampNeg z_47.toInt := (by rw [hj_52, hv_53]); rw [eΓ_54, q9]; exact hI.setg hU rfl (show tp_r L K 45 1056 0 (r_22 5) from hr_25 5 (by decide)) (show tp_gi cy (1056) (tgu (Γ_19 (45, 1056, 0)) _ _) _ from ⟨_, rfl, tp_gi_upd hg_50⟩)
  have hfr9 : ∀ b, (K b).1 ∉ ([39, 43, 44, 52, 45, 46] : List Nat) → va_up f_17 (r_22 5) (.inl (cy 0, 1056, .inl (upd g_49 z_42.toNatClampNeg z_47))) b = f b := tp_fr hfr (show tp_r L K 45 1056 0 (r_22 5) from hr_25 5 (by decide)) (by decide)
  refine tp_iast (cy := cy) hx hb hK hP hD hS (show tp_r L K 45 1056 0 (r_22 5) from hr_25 5 (by decide)).1 hf_48 hn_51 dX12_clauseOf_38 (fun H locs hP hD hS => ?_)
  have hP : va_P D vwCl (va_pl L (va_up f_17 (r_22 5) (.inl (cy 0, 1056, .inl (upd g_49 z_42.toNatClampNeg z_47))))) H := hP
  generalize hfe : va_up f_17 (r_22 5) (.inl (cy 0, 1056, .inl (upd g_49 z_42.toNatClampNeg z_47))) = f_55 at hP hI9 hfr9
  have hD : va_D A (va_pl L f_55) := tp_D hL hAL
  have hf_56 := (show f_55 o = _ from by rw [← hfe, va_up_ne _ _ (tp_ne ho (show tp_r L K 45 1056 0 (r_22 5) from hr_25 5 (by decide)) (by decide))]).trans hf_21
  have hf_57 := (show f_55 (r_22 6) = _ from by rw [← hfe, va_up_ne _ _ (tp_ne (show tp_r L K 46 22 0 (r_22 6) from hr_25 6 (by decide)) (show tp_r L K 45 1056 0 (r_22 5) from hr_25 5 (by decide)) (by decide))]).trans hf_36
  have hf_58 := (show f_55 (r_22 4) = _ from by rw [← hfe, va_up_ne _ _ (tp_ne (show tp_r L K 44 22 0 (r_22 4) from hr_25 4 (by decide)) (show tp_r L K 45 1056 0 (r_22 5) from hr_25 5 (by decide)) (by decide))]).trans hf_43
  have hf_59 : f_55 (r_22 5) = .inl (cy 0, 1056, .inl (upd g_49 z_42.toNatClampNeg z_47)) := by rw [← hfe]; exact va_up_self _ _ _
  clear hfe
  have hI := hI9
  have hfr := hfr9
  clear hI9 hfr9
  have wxΓ_54_MLEN : Γ_54 (44, 22, 0) t0.toNat = Γ_19 (44, 22, 0) t0.toNat := by rw [eΓ_54, tg_r (by decide)]
  have wxΓ_54_MCLS : Γ_54 (46, 22, 0) t0.toNat = Γ_19 (46, 22, 0) t0.toNat := by rw [eΓ_54, tg_r (by decide)]
  have wsΓ_54 : Γ_54 (45, 1056, 0) ((48 * t0 + 4 * Γ (46, 22, 0) t0.toNat + 0).toNat) = A0 := by rw [eΓ_54]; exact tg_s
  have hgr : ∀ κ : tk_K, κ.1 ∉ ([39, 43, 44, 52, 45, 46] : List Nat) → Γ_54 κ = Γ κ := tg_fr hgr eΓ_54 (by decide)
  have hv_60 : ∀ i : Nat, i < 16 → (v_23 i).toInt = Γ_54 (39, 0, 0) i := fun i hi => by rw [eΓ_54, tg_r (by decide)]; exact hv_26 i hi
  have hx_61 : (v_23 0).toInt = Γ_54 (39, 0, 0) 0 := hv_60 0 (by decide)
  have hx_62 : (v_23 1).toInt = Γ_54 (39, 0, 0) 1 := hv_60 1 (by decide)
  have hx_63 : (v_23 3).toInt = Γ_54 (39, 0, 0) 3 := hv_60 3 (by decide)
  have hx_64 : (v_23 4).toInt = Γ_54 (39, 0, 0) 4 := hv_60 4 (by decide)
  have hx_65 : (v_23 5).toInt = Γ_54 (39, 0, 0) 5 := hv_60 5 (by decide)
  have hx_66 : (v_23 6).toInt = Γ_54 (39, 0, 0) 6 := hv_60 6 (by decide)
  have hx_67 : (v_23 7).toInt = Γ_54 (39, 0, 0) 7 := hv_60 7 (by decide)
  have hx_68 : (v_23 8).toInt = Γ_54 (39, 0, 0) 8 := hv_60 8 (by decide)
  have hg_69 : ∀ j : Nat, j < 22 → (g_37 j).toInt = Γ_54 (46, 22, 0) j := fun j hj => by rw [eΓ_54, tg_r (by decide)]; exact hg_38 j hj
  have hg_70 : ∀ j : Nat, j < 22 → (g_44 j).toInt = Γ_54 (44, 22, 0) j := fun j hj => by rw [eΓ_54, tg_r (by decide)]; exact hg_45 j hj
  have hO_MCL : Γ_54 (45, 1056, 0) = tgu (Γ (45, 1056, 0)) ((48 * t0 + 4 * Γ (46, 22, 0) t0.toNat + 0).toNat) (A0) := by rw [eΓ_54, tg_f, hO_MCL]
  have hO_MCLS : Γ_54 (46, 22, 0) = Γ (46, 22, 0) := by rw [eΓ_54, tg_rf (by decide)]; exact hO_MCLS
  obtain ⟨hpa, hpb, hpc, hpd, _⟩ := id hp
  have hle := congrFun (show Γ_54 (44, 22, 0) = _ from by rw [eΓ_54, tg_rf (by decide)]) t0.toNat
  have hp : ps (Γ_54 (43, 8800, 0)) t0 (Γ_54 (44, 22, 0) t0.toNat) (Γ_54 (39, 0, 0) 1) T0 (Γ_54 (39, 0, 0) 5) a (d) := hp.eq (show Γ_54 (43, 8800, 0) = _ from by rw [eΓ_54, tg_rf (by decide)]) rfl (congrFun (show Γ_54 (44, 22, 0) = _ from by rw [eΓ_54, tg_rf (by decide)]) _) (by omega) rfl (by omega)
  have hz : fz (Γ (43, 8800, 0)) (Γ_54 (43, 8800, 0)) (Γ (44, 22, 0)) (Γ_54 (44, 22, 0)) t0 := by rw [(show Γ_54 (43, 8800, 0) = _ from by rw [eΓ_54, tg_rf (by decide)]), (show Γ_54 (44, 22, 0) = _ from by rw [eΓ_54, tg_rf (by decide)])]; exact hz
  have hfw : fw (Γ (43, 8800, 0)) (Γ_54 (43, 8800, 0)) (Γ (44, 22, 0)) (Γ_54 (44, 22, 0)) t0 := by rw [(show Γ_54 (43, 8800, 0) = _ from by rw [eΓ_54, tg_rf (by decide)]), (show Γ_54 (44, 22, 0) = _ from by rw [eΓ_54, tg_rf (by decide)])]; exact hfw
  refine lv_iload_n hx hb dX12_clauseOf_39 rfl (lv_at hl 2 rfl) ?_
  refine lv_if_eq (tgt := 52) hx hb dX12_clauseOf_40 (by decide) (fun _ => ?_) (fun c => absurd c (by decide))
  obtain ⟨_, hL1, hM1, _, hrpS⟩ := id hp
  obtain ⟨A1, hA1⟩ : ∃ y : Int, y = Γ_54 (44, 22, 0) t0.toNat := ⟨_, rfl⟩
  have hl01 : A0 ≤ A1 := by have q9 := hz.2.1; omega
  have hO_SIGN : Γ_54 (43, 8800, 0) = Γ_54 (43, 8800, 0) := rfl
  refine lv_aload_n hx hb dX12_clauseOf_52 rfl (lv_at hl 1 rfl) ?_
  refine tp_get (cy := cy) (ci := 12) (v := .ref (r_22 5)) (C := RX12) (T := TX12) (N := 49) hx hb hta inlX12 hown hK hP ho.1 hf_56 rfl 6 (by decide) (hta _ wk_155) (fun _ h9 => h9) rfl dX12_clauseOf_53 ?_
  refine lv_iload_n hx hb dX12_clauseOf_56 rfl (lv_at hl 0 rfl) ?_
  refine lv_iconst (v := 1) hx hb dX12_clauseOf_57 (by decide) ?_
  refine lv_iadd hx hb dX12_clauseOf_58 ?_
  refine lv_topi (fun z_71 ez_71 => ?_)
  try have iz_71 : z_71.toInt = z_42.toInt + (1 : Int) := by rw [ez_71]; exact tl_addN z_42 1 rfl rfl (by omega) (by omega)
  refine lv_aload_n hx hb dX12_clauseOf_59 rfl (lv_at hl 1 rfl) ?_
  refine tp_get (cy := cy) (ci := 12) (v := .ref (r_22 4)) (C := RX12) (T := TX12) (N := 49) hx hb hta inlX12 hown hK hP ho.1 hf_56 rfl 5 (by decide) (hta _ wk_154) (fun _ h9 => h9) rfl dX12_clauseOf_60 ?_
  refine lv_aload_n hx hb dX12_clauseOf_63 rfl (lv_at hl 1 rfl) ?_
  refine tp_get (cy := cy) (ci := 12) (v := .int (v_23 4)) (C := RX12) (T := TX12) (N := 49) hx hb hta inlX12 hown hK hP ho.1 hf_56 rfl 20 (by decide) (hta _ wk_537) (fun _ h9 => h9) rfl dX12_clauseOf_64 ?_
  have hn_72 : vp_in (v_23 4) (22) := tl_in (by omega) (by omega)
  refine tp_iald (cy := cy) hx hb hK hP (show tp_r L K 44 22 0 (r_22 4) from hr_25 4 (by decide)).1 hf_58 hn_72 dX12_clauseOf_67 ?_
  refine lv_topi (fun z_73 ez_73 => ?_)
  obtain rfl : z_47 = z_73 := ez_47.trans ez_73.symm
  obtain ⟨g_75, hf_74, hg_76⟩ := (show tp_gi cy (1056) (Γ_54 (45, 1056, 0)) (f_55 (r_22 5)) from hI.at (show tp_r L K 45 1056 0 (r_22 5) from hr_25 5 (by decide)))
  have hn_77 : vp_in z_71 (1056) := tl_in (by omega) (by omega)
  have hj_78 : z_71.toNatClampNeg = (48 * t0 + 4 * Γ (46, 22, 0) t0.toNat + 1).toNat := by show z_71.toInt.toNat = _; omega
  have hv_79 : z_47.toInt = A1 := by omega
  obtain ⟨Γ_80, eΓ_80⟩ : ∃ y : tk_G, y = tg Γ_54 (45, 1056, 0) ((48 * t0 + 4 * Γ (46, 22, 0) t0.toNat + 1).toNat) A1 := ⟨_, rfl⟩
  have hI9 : tp_I cy L K Γ_80 (va_up f_55 (r_22 5) (.inl (cy 0, 1056, .inl (upd g_75 z_71.toNatClampNeg z_47)))) := by have q9 : tg Γ_54 (45, 1056, 0) ((48 * t0 + 4 * Γ (46, 22, 0) t0.toNat + 1).toNat) A1 = tg Γ_54 (45, 1056, 0) z_71.toNatClampNeg z_47.toInt := (by rw [hj_78, hv_79]); rw [eΓ_80, q9]; exact hI.setg hU rfl (show tp_r L K 45 1056 0 (r_22 5) from hr_25 5 (by decide)) (show tp_gi cy (1056) (tgu (Γ_54 (45, 1056, 0)) _ _) _ from ⟨_, rfl, tp_gi_upd hg_76⟩)
  have hfr9 : ∀ b, (K b).1 ∉ ([39, 43, 44, 52, 45, 46] : List Nat) → va_up f_55 (r_22 5) (.inl (cy 0, 1056, .inl (upd g_75 z_71.toNatClampNeg z_47))) b = f b := tp_fr hfr (show tp_r L K 45 1056 0 (r_22 5) from hr_25 5 (by decide)) (by decide)
  refine tp_iast (cy := cy) hx hb hK hP hD hS (show tp_r L K 45 1056 0 (r_22 5) from hr_25 5 (by decide)).1 hf_74 hn_77 dX12_clauseOf_68 (fun H locs hP hD hS => ?_)
  have hP : va_P D vwCl (va_pl L (va_up f_55 (r_22 5) (.inl (cy 0, 1056, .inl (upd g_75 z_71.toNatClampNeg z_47))))) H := hP
  generalize hfe : va_up f_55 (r_22 5) (.inl (cy 0, 1056, .inl (upd g_75 z_71.toNatClampNeg z_47))) = f_81 at hP hI9 hfr9
  have hD : va_D A (va_pl L f_81) := tp_D hL hAL
  have hf_82 := (show f_81 o = _ from by rw [← hfe, va_up_ne _ _ (tp_ne ho (show tp_r L K 45 1056 0 (r_22 5) from hr_25 5 (by decide)) (by decide))]).trans hf_56
  have hf_83 := (show f_81 (r_22 6) = _ from by rw [← hfe, va_up_ne _ _ (tp_ne (show tp_r L K 46 22 0 (r_22 6) from hr_25 6 (by decide)) (show tp_r L K 45 1056 0 (r_22 5) from hr_25 5 (by decide)) (by decide))]).trans hf_57
  have hf_84 := (show f_81 (r_22 4) = _ from by rw [← hfe, va_up_ne _ _ (tp_ne (show tp_r L K 44 22 0 (r_22 4) from hr_25 4 (by decide)) (show tp_r L K 45 1056 0 (r_22 5) from hr_25 5 (by decide)) (by decide))]).trans hf_58
  have hf_85 : f_81 (r_22 5) = .inl (cy 0, 1056, .inl (upd g_75 z_71.toNatClampNeg z_47)) := by rw [← hfe]; exact va_up_self _ _ _
  clear hfe
  have hI := hI9
  have hfr := hfr9
  clear hI9 hfr9
  have wxΓ_80_MLEN : Γ_80 (44, 22, 0) t0.toNat = Γ_54 (44, 22, 0) t0.toNat := by rw [eΓ_80, tg_r (by decide)]
  have wxΓ_80_MCLS : Γ_80 (46, 22, 0) t0.toNat = Γ_54 (46, 22, 0) t0.toNat := by rw [eΓ_80, tg_r (by decide)]
  have wsΓ_80 : Γ_80 (45, 1056, 0) ((48 * t0 + 4 * Γ (46, 22, 0) t0.toNat + 1).toNat) = A1 := by rw [eΓ_80]; exact tg_s
  have hgr : ∀ κ : tk_K, κ.1 ∉ ([39, 43, 44, 52, 45, 46] : List Nat) → Γ_80 κ = Γ κ := tg_fr hgr eΓ_80 (by decide)
  have hv_86 : ∀ i : Nat, i < 16 → (v_23 i).toInt = Γ_80 (39, 0, 0) i := fun i hi => by rw [eΓ_80, tg_r (by decide)]; exact hv_60 i hi
  have hx_87 : (v_23 0).toInt = Γ_80 (39, 0, 0) 0 := hv_86 0 (by decide)
  have hx_88 : (v_23 1).toInt = Γ_80 (39, 0, 0) 1 := hv_86 1 (by decide)
  have hx_89 : (v_23 3).toInt = Γ_80 (39, 0, 0) 3 := hv_86 3 (by decide)
  have hx_90 : (v_23 4).toInt = Γ_80 (39, 0, 0) 4 := hv_86 4 (by decide)
  have hx_91 : (v_23 5).toInt = Γ_80 (39, 0, 0) 5 := hv_86 5 (by decide)
  have hx_92 : (v_23 6).toInt = Γ_80 (39, 0, 0) 6 := hv_86 6 (by decide)
  have hx_93 : (v_23 7).toInt = Γ_80 (39, 0, 0) 7 := hv_86 7 (by decide)
  have hx_94 : (v_23 8).toInt = Γ_80 (39, 0, 0) 8 := hv_86 8 (by decide)
  have hg_95 : ∀ j : Nat, j < 22 → (g_37 j).toInt = Γ_80 (46, 22, 0) j := fun j hj => by rw [eΓ_80, tg_r (by decide)]; exact hg_69 j hj
  have hg_96 : ∀ j : Nat, j < 22 → (g_44 j).toInt = Γ_80 (44, 22, 0) j := fun j hj => by rw [eΓ_80, tg_r (by decide)]; exact hg_70 j hj
  have hO_MCL : Γ_80 (45, 1056, 0) = tgu (tgu (Γ (45, 1056, 0)) ((48 * t0 + 4 * Γ (46, 22, 0) t0.toNat + 0).toNat) (A0)) ((48 * t0 + 4 * Γ (46, 22, 0) t0.toNat + 1).toNat) (A1) := by rw [eΓ_80, tg_f, hO_MCL]
  have hO_MCLS : Γ_80 (46, 22, 0) = Γ (46, 22, 0) := by rw [eΓ_80, tg_rf (by decide)]; exact hO_MCLS
  have hO_SIGN : Γ_80 (43, 8800, 0) = Γ_54 (43, 8800, 0) := by rw [eΓ_80, tg_rf (by decide)]; exact hO_SIGN
  obtain ⟨hpa, hpb, hpc, hpd, _⟩ := id hp
  have hle := congrFun (show Γ_80 (44, 22, 0) = _ from by rw [eΓ_80, tg_rf (by decide)]) t0.toNat
  have hp : ps (Γ_80 (43, 8800, 0)) t0 (Γ_80 (44, 22, 0) t0.toNat) (Γ_80 (39, 0, 0) 1) T0 (Γ_80 (39, 0, 0) 5) a (d) := hp.eq (show Γ_80 (43, 8800, 0) = _ from by rw [eΓ_80, tg_rf (by decide)]) rfl (congrFun (show Γ_80 (44, 22, 0) = _ from by rw [eΓ_80, tg_rf (by decide)]) _) (by omega) rfl (by omega)
  have hz : fz (Γ (43, 8800, 0)) (Γ_80 (43, 8800, 0)) (Γ (44, 22, 0)) (Γ_80 (44, 22, 0)) t0 := by rw [(show Γ_80 (43, 8800, 0) = _ from by rw [eΓ_80, tg_rf (by decide)]), (show Γ_80 (44, 22, 0) = _ from by rw [eΓ_80, tg_rf (by decide)])]; exact hz
  have hfw : fw (Γ (43, 8800, 0)) (Γ_80 (43, 8800, 0)) (Γ (44, 22, 0)) (Γ_80 (44, 22, 0)) t0 := by rw [(show Γ_80 (43, 8800, 0) = _ from by rw [eΓ_80, tg_rf (by decide)]), (show Γ_80 (44, 22, 0) = _ from by rw [eΓ_80, tg_rf (by decide)])]; exact hfw
  refine lv_aload_n hx hb dX12_clauseOf_69 rfl (lv_at hl 1 rfl) ?_
  refine tp_get (cy := cy) (ci := 12) (v := .ref (r_22 5)) (C := RX12) (T := TX12) (N := 49) hx hb hta inlX12 hown hK hP ho.1 hf_82 rfl 6 (by decide) (hta _ wk_155) (fun _ h9 => h9) rfl dX12_clauseOf_70 ?_
  refine lv_iload_n hx hb dX12_clauseOf_73 rfl (lv_at hl 0 rfl) ?_
  refine lv_iconst (v := 2) hx hb dX12_clauseOf_74 (by decide) ?_
  refine lv_iadd hx hb dX12_clauseOf_75 ?_
  refine lv_topi (fun z_97 ez_97 => ?_)
  try have iz_97 : z_97.toInt = z_42.toInt + (2 : Int) := by rw [ez_97]; exact tl_addN z_42 2 rfl rfl (by omega) (by omega)
  refine lv_iconst (v := (-1)) hx hb dX12_clauseOf_76 (by decide) ?_
  obtain ⟨g_99, hf_98, hg_100⟩ := (show tp_gi cy (1056) (Γ_80 (45, 1056, 0)) (f_81 (r_22 5)) from hI.at (show tp_r L K 45 1056 0 (r_22 5) from hr_25 5 (by decide)))
  have hn_101 : vp_in z_97 (1056) := tl_in (by omega) (by omega)
  have hj_102 : z_97.toNatClampNeg = (48 * t0 + 4 * Γ (46, 22, 0) t0.toNat + 2).toNat := by show z_97.toInt.toNat = _; omega
  have hv_103 : ((-1) : Int32).toInt = (-1 : Int) := by decide
  obtain ⟨Γ_104, eΓ_104⟩ : ∃ y : tk_G, y = tg Γ_80 (45, 1056, 0) ((48 * t0 + 4 * Γ (46, 22, 0) t0.toNat + 2).toNat) (-1 : Int) := ⟨_, rfl⟩
  have hI9 : tp_I cy L K Γ_104 (va_up f_81 (r_22 5) (.inl (cy 0, 1056, .inl (upd g_99 z_97.toNatClampNeg (-1))))) := by have q9 : tg Γ_80 (45, 1056, 0) ((48 * t0 + 4 * Γ (46, 22, 0) t0.toNat + 2).toNat) (-1 : Int) = tg Γ_80 (45, 1056, 0) z_97.toNatClampNeg ((-1) : Int32).toInt := (by rw [hj_102, hv_103]); rw [eΓ_104, q9]; exact hI.setg hU rfl (show tp_r L K 45 1056 0 (r_22 5) from hr_25 5 (by decide)) (show tp_gi cy (1056) (tgu (Γ_80 (45, 1056, 0)) _ _) _ from ⟨_, rfl, tp_gi_upd hg_100⟩)
  have hfr9 : ∀ b, (K b).1 ∉ ([39, 43, 44, 52, 45, 46] : List Nat) → va_up f_81 (r_22 5) (.inl (cy 0, 1056, .inl (upd g_99 z_97.toNatClampNeg (-1)))) b = f b := tp_fr hfr (show tp_r L K 45 1056 0 (r_22 5) from hr_25 5 (by decide)) (by decide)
  refine tp_iast (cy := cy) hx hb hK hP hD hS (show tp_r L K 45 1056 0 (r_22 5) from hr_25 5 (by decide)).1 hf_98 hn_101 dX12_clauseOf_77 (fun H locs hP hD hS => ?_)
  have hP : va_P D vwCl (va_pl L (va_up f_81 (r_22 5) (.inl (cy 0, 1056, .inl (upd g_99 z_97.toNatClampNeg (-1)))))) H := hP
  generalize hfe : va_up f_81 (r_22 5) (.inl (cy 0, 1056, .inl (upd g_99 z_97.toNatClampNeg (-1)))) = f_105 at hP hI9 hfr9
  have hD : va_D A (va_pl L f_105) := tp_D hL hAL
  have hf_106 := (show f_105 o = _ from by rw [← hfe, va_up_ne _ _ (tp_ne ho (show tp_r L K 45 1056 0 (r_22 5) from hr_25 5 (by decide)) (by decide))]).trans hf_82
  have hf_107 := (show f_105 (r_22 6) = _ from by rw [← hfe, va_up_ne _ _ (tp_ne (show tp_r L K 46 22 0 (r_22 6) from hr_25 6 (by decide)) (show tp_r L K 45 1056 0 (r_22 5) from hr_25 5 (by decide)) (by decide))]).trans hf_83
  have hf_108 := (show f_105 (r_22 4) = _ from by rw [← hfe, va_up_ne _ _ (tp_ne (show tp_r L K 44 22 0 (r_22 4) from hr_25 4 (by decide)) (show tp_r L K 45 1056 0 (r_22 5) from hr_25 5 (by decide)) (by decide))]).trans hf_84
  have hf_109 : f_105 (r_22 5) = .inl (cy 0, 1056, .inl (upd g_99 z_97.toNatClampNeg (-1))) := by rw [← hfe]; exact va_up_self _ _ _
  clear hfe
  have hI := hI9
  have hfr := hfr9
  clear hI9 hfr9
  have wxΓ_104_MLEN : Γ_104 (44, 22, 0) t0.toNat = Γ_80 (44, 22, 0) t0.toNat := by rw [eΓ_104, tg_r (by decide)]
  have wxΓ_104_MCLS : Γ_104 (46, 22, 0) t0.toNat = Γ_80 (46, 22, 0) t0.toNat := by rw [eΓ_104, tg_r (by decide)]
  have wsΓ_104 : Γ_104 (45, 1056, 0) ((48 * t0 + 4 * Γ (46, 22, 0) t0.toNat + 2).toNat) = (-1 : Int) := by rw [eΓ_104]; exact tg_s
  have hgr : ∀ κ : tk_K, κ.1 ∉ ([39, 43, 44, 52, 45, 46] : List Nat) → Γ_104 κ = Γ κ := tg_fr hgr eΓ_104 (by decide)
  have hv_110 : ∀ i : Nat, i < 16 → (v_23 i).toInt = Γ_104 (39, 0, 0) i := fun i hi => by rw [eΓ_104, tg_r (by decide)]; exact hv_86 i hi
  have hx_111 : (v_23 0).toInt = Γ_104 (39, 0, 0) 0 := hv_110 0 (by decide)
  have hx_112 : (v_23 1).toInt = Γ_104 (39, 0, 0) 1 := hv_110 1 (by decide)
  have hx_113 : (v_23 3).toInt = Γ_104 (39, 0, 0) 3 := hv_110 3 (by decide)
  have hx_114 : (v_23 4).toInt = Γ_104 (39, 0, 0) 4 := hv_110 4 (by decide)
  have hx_115 : (v_23 5).toInt = Γ_104 (39, 0, 0) 5 := hv_110 5 (by decide)
  have hx_116 : (v_23 6).toInt = Γ_104 (39, 0, 0) 6 := hv_110 6 (by decide)
  have hx_117 : (v_23 7).toInt = Γ_104 (39, 0, 0) 7 := hv_110 7 (by decide)
  have hx_118 : (v_23 8).toInt = Γ_104 (39, 0, 0) 8 := hv_110 8 (by decide)
  have hg_119 : ∀ j : Nat, j < 22 → (g_37 j).toInt = Γ_104 (46, 22, 0) j := fun j hj => by rw [eΓ_104, tg_r (by decide)]; exact hg_95 j hj
  have hg_120 : ∀ j : Nat, j < 22 → (g_44 j).toInt = Γ_104 (44, 22, 0) j := fun j hj => by rw [eΓ_104, tg_r (by decide)]; exact hg_96 j hj
  have hO_MCL : Γ_104 (45, 1056, 0) = tgu (tgu (tgu (Γ (45, 1056, 0)) ((48 * t0 + 4 * Γ (46, 22, 0) t0.toNat + 0).toNat) (A0)) ((48 * t0 + 4 * Γ (46, 22, 0) t0.toNat + 1).toNat) (A1)) ((48 * t0 + 4 * Γ (46, 22, 0) t0.toNat + 2).toNat) ((-1 : Int)) := by rw [eΓ_104, tg_f, hO_MCL]
  have hO_MCLS : Γ_104 (46, 22, 0) = Γ (46, 22, 0) := by rw [eΓ_104, tg_rf (by decide)]; exact hO_MCLS
  have hO_SIGN : Γ_104 (43, 8800, 0) = Γ_54 (43, 8800, 0) := by rw [eΓ_104, tg_rf (by decide)]; exact hO_SIGN
  obtain ⟨hpa, hpb, hpc, hpd, _⟩ := id hp
  have hle := congrFun (show Γ_104 (44, 22, 0) = _ from by rw [eΓ_104, tg_rf (by decide)]) t0.toNat
  have hp : ps (Γ_104 (43, 8800, 0)) t0 (Γ_104 (44, 22, 0) t0.toNat) (Γ_104 (39, 0, 0) 1) T0 (Γ_104 (39, 0, 0) 5) a (d) := hp.eq (show Γ_104 (43, 8800, 0) = _ from by rw [eΓ_104, tg_rf (by decide)]) rfl (congrFun (show Γ_104 (44, 22, 0) = _ from by rw [eΓ_104, tg_rf (by decide)]) _) (by omega) rfl (by omega)
  have hz : fz (Γ (43, 8800, 0)) (Γ_104 (43, 8800, 0)) (Γ (44, 22, 0)) (Γ_104 (44, 22, 0)) t0 := by rw [(show Γ_104 (43, 8800, 0) = _ from by rw [eΓ_104, tg_rf (by decide)]), (show Γ_104 (44, 22, 0) = _ from by rw [eΓ_104, tg_rf (by decide)])]; exact hz
  have hfw : fw (Γ (43, 8800, 0)) (Γ_104 (43, 8800, 0)) (Γ (44, 22, 0)) (Γ_104 (44, 22, 0)) t0 := by rw [(show Γ_104 (43, 8800, 0) = _ from by rw [eΓ_104, tg_rf (by decide)]), (show Γ_104 (44, 22, 0) = _ from by rw [eΓ_104, tg_rf (by decide)])]; exact hfw
  refine lv_iload_n hx hb dX12_clauseOf_78 rfl (lv_at hl 2 rfl) ?_
  refine lv_if_eq (tgt := 92) hx hb dX12_clauseOf_79 (by decide) (fun _ => ?_) (fun c => absurd c (by decide))
  refine lv_aload_n hx hb dX12_clauseOf_92 rfl (lv_at hl 1 rfl) ?_
  refine tp_get (cy := cy) (ci := 12) (v := .ref (r_22 5)) (C := RX12) (T := TX12) (N := 49) hx hb hta inlX12 hown hK hP ho.1 hf_106 rfl 6 (by decide) (hta _ wk_155) (fun _ h9 => h9) rfl dX12_clauseOf_93 ?_
  refine lv_iload_n hx hb dX12_clauseOf_96 rfl (lv_at hl 0 rfl) ?_
  refine lv_iconst (v := 2) hx hb dX12_clauseOf_97 (by decide) ?_
  refine lv_iadd hx hb dX12_clauseOf_98 ?_
  refine lv_topi (fun z_121 ez_121 => ?_)
  try have iz_121 : z_121.toInt = z_42.toInt + (2 : Int) := by rw [ez_121]; exact tl_addN z_42 2 rfl rfl (by omega) (by omega)
  refine lv_aload_n hx hb dX12_clauseOf_99 rfl (lv_at hl 1 rfl) ?_
  refine tp_get (cy := cy) (ci := 12) (v := .ref (r_22 4)) (C := RX12) (T := TX12) (N := 49) hx hb hta inlX12 hown hK hP ho.1 hf_106 rfl 5 (by decide) (hta _ wk_154) (fun _ h9 => h9) rfl dX12_clauseOf_100 ?_
  refine lv_aload_n hx hb dX12_clauseOf_103 rfl (lv_at hl 1 rfl) ?_
  refine tp_get (cy := cy) (ci := 12) (v := .int (v_23 4)) (C := RX12) (T := TX12) (N := 49) hx hb hta inlX12 hown hK hP ho.1 hf_106 rfl 20 (by decide) (hta _ wk_537) (fun _ h9 => h9) rfl dX12_clauseOf_104 ?_
  have hn_122 : vp_in (v_23 4) (22) := tl_in (by omega) (by omega)
  refine tp_iald (cy := cy) hx hb hK hP (show tp_r L K 44 22 0 (r_22 4) from hr_25 4 (by decide)).1 hf_108 hn_122 dX12_clauseOf_107 ?_
  refine lv_topi (fun z_123 ez_123 => ?_)
  obtain rfl : z_47 = z_123 := ez_47.trans ez_123.symm
  obtain ⟨g_125, hf_124, hg_126⟩ := (show tp_gi cy (1056) (Γ_104 (45, 1056, 0)) (f_105 (r_22 5)) from hI.at (show tp_r L K 45 1056 0 (r_22 5) from hr_25 5 (by decide)))
  have hn_127 : vp_in z_121 (1056) := tl_in (by omega) (by omega)
  have hj_128 : z_121.toNatClampNeg = (48 * t0 + 4 * Γ (46, 22, 0) t0.toNat + 2).toNat := by show z_121.toInt.toNat = _; omega
  have hv_129 : z_47.toInt = A1 := by omega
  obtain ⟨Γ_130, eΓ_130⟩ : ∃ y : tk_G, y = tg Γ_104 (45, 1056, 0) ((48 * t0 + 4 * Γ (46, 22, 0) t0.toNat + 2).toNat) A1 := ⟨_, rfl⟩
  have hI9 : tp_I cy L K Γ_130 (va_up f_105 (r_22 5) (.inl (cy 0, 1056, .inl (upd g_125 z_121.toNatClampNeg z_47)))) := by have q9 : tg Γ_104 (45, 1056, 0) ((48 * t0 + 4 * Γ (46, 22, 0) t0.toNat + 2).toNat) A1 = tg Γ_104 (45, 1056, 0) z_121.toNatClampNeg z_47.toInt := (by rw [hj_128, hv_129]); rw [eΓ_130, q9]; exact hI.setg hU rfl (show tp_r L K 45 1056 0 (r_22 5) from hr_25 5 (by decide)) (show tp_gi cy (1056) (tgu (Γ_104 (45, 1056, 0)) _ _) _ from ⟨_, rfl, tp_gi_upd hg_126⟩)
  have hfr9 : ∀ b, (K b).1 ∉ ([39, 43, 44, 52, 45, 46] : List Nat) → va_up f_105 (r_22 5) (.inl (cy 0, 1056, .inl (upd g_125 z_121.toNatClampNeg z_47))) b = f b := tp_fr hfr (show tp_r L K 45 1056 0 (r_22 5) from hr_25 5 (by decide)) (by decide)
  refine tp_iast (cy := cy) hx hb hK hP hD hS (show tp_r L K 45 1056 0 (r_22 5) from hr_25 5 (by decide)).1 hf_124 hn_127 dX12_clauseOf_108 (fun H locs hP hD hS => ?_)
  have hP : va_P D vwCl (va_pl L (va_up f_105 (r_22 5) (.inl (cy 0, 1056, .inl (upd g_125 z_121.toNatClampNeg z_47))))) H := hP
  generalize hfe : va_up f_105 (r_22 5) (.inl (cy 0, 1056, .inl (upd g_125 z_121.toNatClampNeg z_47))) = f_131 at hP hI9 hfr9
  have hD : va_D A (va_pl L f_131) := tp_D hL hAL
  have hf_132 := (show f_131 o = _ from by rw [← hfe, va_up_ne _ _ (tp_ne ho (show tp_r L K 45 1056 0 (r_22 5) from hr_25 5 (by decide)) (by decide))]).trans hf_106
  have hf_133 := (show f_131 (r_22 6) = _ from by rw [← hfe, va_up_ne _ _ (tp_ne (show tp_r L K 46 22 0 (r_22 6) from hr_25 6 (by decide)) (show tp_r L K 45 1056 0 (r_22 5) from hr_25 5 (by decide)) (by decide))]).trans hf_107
  have hf_134 := (show f_131 (r_22 4) = _ from by rw [← hfe, va_up_ne _ _ (tp_ne (show tp_r L K 44 22 0 (r_22 4) from hr_25 4 (by decide)) (show tp_r L K 45 1056 0 (r_22 5) from hr_25 5 (by decide)) (by decide))]).trans hf_108
  have hf_135 : f_131 (r_22 5) = .inl (cy 0, 1056, .inl (upd g_125 z_121.toNatClampNeg z_47)) := by rw [← hfe]; exact va_up_self _ _ _
  clear hfe
  have hI := hI9
  have hfr := hfr9
  clear hI9 hfr9
  have wxΓ_130_MLEN : Γ_130 (44, 22, 0) t0.toNat = Γ_104 (44, 22, 0) t0.toNat := by rw [eΓ_130, tg_r (by decide)]
  have wxΓ_130_MCLS : Γ_130 (46, 22, 0) t0.toNat = Γ_104 (46, 22, 0) t0.toNat := by rw [eΓ_130, tg_r (by decide)]
  have wsΓ_130 : Γ_130 (45, 1056, 0) ((48 * t0 + 4 * Γ (46, 22, 0) t0.toNat + 2).toNat) = A1 := by rw [eΓ_130]; exact tg_s
  have hgr : ∀ κ : tk_K, κ.1 ∉ ([39, 43, 44, 52, 45, 46] : List Nat) → Γ_130 κ = Γ κ := tg_fr hgr eΓ_130 (by decide)
  have hv_136 : ∀ i : Nat, i < 16 → (v_23 i).toInt = Γ_130 (39, 0, 0) i := fun i hi => by rw [eΓ_130, tg_r (by decide)]; exact hv_110 i hi
  have hx_137 : (v_23 0).toInt = Γ_130 (39, 0, 0) 0 := hv_136 0 (by decide)
  have hx_138 : (v_23 1).toInt = Γ_130 (39, 0, 0) 1 := hv_136 1 (by decide)
  have hx_139 : (v_23 3).toInt = Γ_130 (39, 0, 0) 3 := hv_136 3 (by decide)
  have hx_140 : (v_23 4).toInt = Γ_130 (39, 0, 0) 4 := hv_136 4 (by decide)
  have hx_141 : (v_23 5).toInt = Γ_130 (39, 0, 0) 5 := hv_136 5 (by decide)
  have hx_142 : (v_23 6).toInt = Γ_130 (39, 0, 0) 6 := hv_136 6 (by decide)
  have hx_143 : (v_23 7).toInt = Γ_130 (39, 0, 0) 7 := hv_136 7 (by decide)
  have hx_144 : (v_23 8).toInt = Γ_130 (39, 0, 0) 8 := hv_136 8 (by decide)
  have hg_145 : ∀ j : Nat, j < 22 → (g_37 j).toInt = Γ_130 (46, 22, 0) j := fun j hj => by rw [eΓ_130, tg_r (by decide)]; exact hg_119 j hj
  have hg_146 : ∀ j : Nat, j < 22 → (g_44 j).toInt = Γ_130 (44, 22, 0) j := fun j hj => by rw [eΓ_130, tg_r (by decide)]; exact hg_120 j hj
  have hO_MCL : Γ_130 (45, 1056, 0) = tgu (tgu (tgu (tgu (Γ (45, 1056, 0)) ((48 * t0 + 4 * Γ (46, 22, 0) t0.toNat + 0).toNat) (A0)) ((48 * t0 + 4 * Γ (46, 22, 0) t0.toNat + 1).toNat) (A1)) ((48 * t0 + 4 * Γ (46, 22, 0) t0.toNat + 2).toNat) ((-1 : Int))) ((48 * t0 + 4 * Γ (46, 22, 0) t0.toNat + 2).toNat) (A1) := by rw [eΓ_130, tg_f, hO_MCL]
  have hO_MCLS : Γ_130 (46, 22, 0) = Γ (46, 22, 0) := by rw [eΓ_130, tg_rf (by decide)]; exact hO_MCLS
  have hO_SIGN : Γ_130 (43, 8800, 0) = Γ_54 (43, 8800, 0) := by rw [eΓ_130, tg_rf (by decide)]; exact hO_SIGN
  obtain ⟨hpa, hpb, hpc, hpd, _⟩ := id hp
  have hle := congrFun (show Γ_130 (44, 22, 0) = _ from by rw [eΓ_130, tg_rf (by decide)]) t0.toNat
  have hp : ps (Γ_130 (43, 8800, 0)) t0 (Γ_130 (44, 22, 0) t0.toNat) (Γ_130 (39, 0, 0) 1) T0 (Γ_130 (39, 0, 0) 5) a (d) := hp.eq (show Γ_130 (43, 8800, 0) = _ from by rw [eΓ_130, tg_rf (by decide)]) rfl (congrFun (show Γ_130 (44, 22, 0) = _ from by rw [eΓ_130, tg_rf (by decide)]) _) (by omega) rfl (by omega)
  have hz : fz (Γ (43, 8800, 0)) (Γ_130 (43, 8800, 0)) (Γ (44, 22, 0)) (Γ_130 (44, 22, 0)) t0 := by rw [(show Γ_130 (43, 8800, 0) = _ from by rw [eΓ_130, tg_rf (by decide)]), (show Γ_130 (44, 22, 0) = _ from by rw [eΓ_130, tg_rf (by decide)])]; exact hz
  have hfw : fw (Γ (43, 8800, 0)) (Γ_130 (43, 8800, 0)) (Γ (44, 22, 0)) (Γ_130 (44, 22, 0)) t0 := by rw [(show Γ_130 (43, 8800, 0) = _ from by rw [eΓ_130, tg_rf (by decide)]), (show Γ_130 (44, 22, 0) = _ from by rw [eΓ_130, tg_rf (by decide)])]; exact hfw
  refine lv_aload_n hx hb dX12_clauseOf_109 rfl (lv_at hl 1 rfl) ?_
  obtain ⟨hpa, hpb, hpc, hpd, _⟩ := id hp
  obtain ⟨a, ha2⟩ : ∃ y : Nat, y = (400 * t0 + Γ_130 (44, 22, 0) t0.toNat).toNat := ⟨_, rfl⟩
  obtain ⟨d, hd2⟩ : ∃ y : Int, y = 0 := ⟨_, rfl⟩
  have hp : ps (Γ_130 (43, 8800, 0)) t0 (Γ_130 (44, 22, 0) t0.toNat) (Γ_130 (39, 0, 0) 1) T0 (Γ_130 (39, 0, 0) 5) a (d) := by rw [hd2]; exact ⟨by omega, by omega, by omega, by omega, by rw [show (400 * t0 + Γ_130 (44, 22, 0) t0.toNat).toNat - a = 0 from by omega]; exact rp0⟩
  refine tq_ciR hS (hAf _ hS.1) (tq_rV (As := []) (rest := []) ⟨hx, hb, hml, hown, hta⟩ (tp_P.pre hK hN hL hU hI hP) (tp_recv hK hP ho.1 hf_132 rfl) lk_X12_281 (r_X12_tested l D cy H.size L K Γ_130 f_131 o τ T0 t0 a d ho ((hgr _ (by decide)).trans ht) (by first | omega | (simp only [Int32.toInt_toInt64]; omega) | decide | assumption) (by first | omega | (simp only [Int32.toInt_toInt64]; omega) | decide | assumption) (by first | omega | (simp only [Int32.toInt_toInt64]; omega) | decide | assumption) (by first | omega | (simp only [Int32.toInt_toInt64]; omega) | decide | assumption) (by first | omega | (simp only [Int32.toInt_toInt64]; omega) | decide | assumption)) rfl rfl ⟨Nat.le_of_ble_eq_true rfl, Nat.le_of_ble_eq_true rfl⟩ rfl hl.1 rfl (Nat.le_of_ble_eq_true rfl) dX12_clauseOf_110 ⟨Nat.le_of_ble_eq_true rfl, Nat.le_of_ble_eq_true rfl⟩) (fun r_148 f_149 Γ_151 H locs hw_147 hP hI hc_150 hcg_152 hS => ?_)
  have hD : va_D A (va_pl L f_149) := tp_D hL hAL
  have hfr := tp_fr2 hfr hc_150 (by decide)
  have hgr : ∀ κ : tk_K, κ.1 ∉ ([39, 43, 44, 52, 45, 46] : List Nat) → Γ_151 κ = Γ κ := tg_fr2 hgr hcg_152 (by decide)
  have hf_153 := (tp_un hc_150 (show tp_r L K 46 22 0 (r_22 6) from hr_25 6 (by decide)) (by decide)).trans hf_133
  have hg_154 : ∀ j : Nat, j < 22 → (g_37 j).toInt = Γ_151 (46, 22, 0) j := fun j hj => by rw [hcg_152 _ (by decide)]; exact hg_145 j hj
  have wy_151_MCLS : Γ_151 (46, 22, 0) t0.toNat = Γ_130 (46, 22, 0) t0.toNat := congrFun (hcg_152 (46, 22, 0) (by decide)) _
  obtain ⟨hE_155, hw_147⟩ := hw_147
  have hE_155 : tl_J r_148 (ps (Γ_151 (43, 8800, 0)) t0 (Γ_151 (44, 22, 0) t0.toNat) (Γ_151 (39, 0, 0) 1) T0 (Γ_151 (39, 0, 0) 5) a (1) ∧ Γ_151 (44, 22, 0) t0.toNat ≤ Γ_151 (39, 0, 0) 1 ∧ fz (Γ_130 (43, 8800, 0)) (Γ_151 (43, 8800, 0)) (Γ_130 (44, 22, 0)) (Γ_151 (44, 22, 0)) t0) := hE_155
  have hw_147 : Γ_151 (39, 0, 0) 0 = Γ_130 (39, 0, 0) 0 ∧ Γ_151 (39, 0, 0) 4 = Γ_130 (39, 0, 0) 4 ∧ Γ_151 (39, 0, 0) 7 = Γ_130 (39, 0, 0) 7 ∧ Γ_130 (39, 0, 0) 1 ≤ Γ_151 (39, 0, 0) 1 ∧ Γ_151 (39, 0, 0) 1 ≤ T0 ∧ fw (Γ_130 (43, 8800, 0)) (Γ_151 (43, 8800, 0)) (Γ_130 (44, 22, 0)) (Γ_151 (44, 22, 0)) t0 := hw_147
  have hO_MCL : Γ_151 (45, 1056, 0) = tgu (tgu (tgu (tgu (Γ (45, 1056, 0)) ((48 * t0 + 4 * Γ (46, 22, 0) t0.toNat + 0).toNat) (A0)) ((48 * t0 + 4 * Γ (46, 22, 0) t0.toNat + 1).toNat) (A1)) ((48 * t0 + 4 * Γ (46, 22, 0) t0.toNat + 2).toNat) ((-1 : Int))) ((48 * t0 + 4 * Γ (46, 22, 0) t0.toNat + 2).toNat) (A1) := (hcg_152 (45, 1056, 0) (by decide)).trans hO_MCL
  have hO_MCLS : Γ_151 (46, 22, 0) = Γ (46, 22, 0) := (hcg_152 (46, 22, 0) (by decide)).trans hO_MCLS
  have hOp_SIGN := hO_SIGN
  have hfw := hfw.trans hw_147.2.2.2.2.2
  refine lv_if_ne (tgt := 118) hx hb dX12_clauseOf_113 (by decide) (fun c_156 => ?_) (fun c_156 => ?_)
  · have c_156 := hE_155.t c_156
    obtain ⟨hp, hsl, hz9⟩ := c_156
    have hz := hz.trans hz9
    obtain ⟨_, hL2, hM2, _, hrpT⟩ := id hp
    obtain ⟨A3, hA3⟩ : ∃ y : Int, y = Γ_151 (44, 22, 0) t0.toNat := ⟨_, rfl⟩
    have hl13 : A1 ≤ A3 := by have q9 := hz9.2.1; omega
    have hT1 : rp (Γ_151 (43, 8800, 0)) (400 * t0 + A1).toNat (A3 - A1).toNat 1 := by have q9 := hrpT; rw [show 1 = (1 : Int) from by omega, show (400 * t0 + Γ_151 (44, 22, 0) t0.toNat).toNat - a = (A3 - A1).toNat from by omega, show a = (400 * t0 + A1).toNat from by omega] at q9; exact q9
    have hO_SIGN : Γ_151 (43, 8800, 0) = Γ_151 (43, 8800, 0) := rfl
    refine lv_aload_n hx hb dX12_clauseOf_118 rfl (lv_at hl 1 rfl) ?_
    obtain ⟨r_158, v_159, q_160, hf_157, hr_161, hv_162⟩ := (show tp_o_M L K 0 0 (Γ_151 (39, 0, 0)) (f_149 o) from hI.at ho)
    have hx_163 : (v_159 0).toInt = Γ_151 (39, 0, 0) 0 := hv_162 0 (by decide)
    have hx_164 : (v_159 1).toInt = Γ_151 (39, 0, 0) 1 := hv_162 1 (by decide)
    have hx_165 : (v_159 3).toInt = Γ_151 (39, 0, 0) 3 := hv_162 3 (by decide)
    have hx_166 : (v_159 4).toInt = Γ_151 (39, 0, 0) 4 := hv_162 4 (by decide)
    have hx_167 : (v_159 5).toInt = Γ_151 (39, 0, 0) 5 := hv_162 5 (by decide)
    have hx_168 : (v_159 6).toInt = Γ_151 (39, 0, 0) 6 := hv_162 6 (by decide)
    have hx_169 : (v_159 7).toInt = Γ_151 (39, 0, 0) 7 := hv_162 7 (by decide)
    have hx_170 : (v_159 8).toInt = Γ_151 (39, 0, 0) 8 := hv_162 8 (by decide)
    refine tp_get (cy := cy) (ci := 12) (v := .ref (r_158 5)) (C := RX12) (T := TX12) (N := 49) hx hb hta inlX12 hown hK hP ho.1 hf_157 rfl 6 (by decide) (hta _ wk_155) (fun _ h9 => h9) rfl dX12_clauseOf_119 ?_
    refine lv_iload_n hx hb dX12_clauseOf_122 rfl (lv_at hl 0 rfl) ?_
    refine lv_iconst (v := 3) hx hb dX12_clauseOf_123 (by decide) ?_
    refine lv_iadd hx hb dX12_clauseOf_124 ?_
    refine lv_topi (fun z_171 ez_171 => ?_)
    try have iz_171 : z_171.toInt = z_42.toInt + (3 : Int) := by rw [ez_171]; exact tl_addN z_42 3 rfl rfl (by omega) (by omega)
    refine lv_aload_n hx hb dX12_clauseOf_125 rfl (lv_at hl 1 rfl) ?_
    refine tp_get (cy := cy) (ci := 12) (v := .ref (r_158 4)) (C := RX12) (T := TX12) (N := 49) hx hb hta inlX12 hown hK hP ho.1 hf_157 rfl 5 (by decide) (hta _ wk_154) (fun _ h9 => h9) rfl dX12_clauseOf_126 ?_
    refine lv_aload_n hx hb dX12_clauseOf_129 rfl (lv_at hl 1 rfl) ?_
    refine tp_get (cy := cy) (ci := 12) (v := .int (v_159 4)) (C := RX12) (T := TX12) (N := 49) hx hb hta inlX12 hown hK hP ho.1 hf_157 rfl 20 (by decide) (hta _ wk_537) (fun _ h9 => h9) rfl dX12_clauseOf_130 ?_
    obtain ⟨g_173, hf_172, hg_174⟩ := (show tp_gi cy (22) (Γ_151 (44, 22, 0)) (f_149 (r_158 4)) from hI.at (show tp_r L K 44 22 0 (r_158 4) from hr_161 4 (by decide)))
    have hn_175 : vp_in (v_159 4) (22) := tl_in (by omega) (by omega)
    refine tp_iald (cy := cy) hx hb hK hP (show tp_r L K 44 22 0 (r_158 4) from hr_161 4 (by decide)).1 hf_172 hn_175 dX12_clauseOf_133 ?_
    refine lv_topi (fun z_176 ez_176 => ?_)
    have iz_176 : z_176.toInt = Γ_151 (44, 22, 0) (v_159 4).toInt.toNat := by rw [ez_176]; exact hg_174 _ (tp_pin hn_175)
    have jz_176 : z_176.toInt = Γ_151 (44, 22, 0) t0.toNat := by rw [show t0 = (v_159 4).toInt from by omega]; exact iz_176
    obtain ⟨g_178, hf_177, hg_179⟩ := (show tp_gi cy (1056) (Γ_151 (45, 1056, 0)) (f_149 (r_158 5)) from hI.at (show tp_r L K 45 1056 0 (r_158 5) from hr_161 5 (by decide)))
    have hn_180 : vp_in z_171 (1056) := tl_in (by omega) (by omega)
    have hj_181 : z_171.toNatClampNeg = (48 * t0 + 4 * Γ (46, 22, 0) t0.toNat + 3).toNat := by show z_171.toInt.toNat = _; omega
    have hv_182 : z_176.toInt = A3 := by omega
    obtain ⟨Γ_183, eΓ_183⟩ : ∃ y : tk_G, y = tg Γ_151 (45, 1056, 0) ((48 * t0 + 4 * Γ (46, 22, 0) t0.toNat + 3).toNat) A3 := ⟨_, rfl⟩
    have hI9 : tp_I cy L K Γ_183 (va_up f_149 (r_158 5) (.inl (cy 0, 1056, .inl (upd g_178 z_171.toNatClampNeg z_176)))) := by have q9 : tg Γ_151 (45, 1056, 0) ((48 * t0 + 4 * Γ (46, 22, 0) t0.toNat + 3).toNat) A3 = tg Γ_151 (45, 1056, 0) z_171.toNatClampNeg z_176.toInt := (by rw [hj_181, hv_182]); rw [eΓ_183, q9]; exact hI.setg hU rfl (show tp_r L K 45 1056 0 (r_158 5) from hr_161 5 (by decide)) (show tp_gi cy (1056) (tgu (Γ_151 (45, 1056, 0)) _ _) _ from ⟨_, rfl, tp_gi_upd hg_179⟩)
    have hfr9 : ∀ b, (K b).1 ∉ ([39, 43, 44, 52, 45, 46] : List Nat) → va_up f_149 (r_158 5) (.inl (cy 0, 1056, .inl (upd g_178 z_171.toNatClampNeg z_176))) b = f b := tp_fr hfr (show tp_r L K 45 1056 0 (r_158 5) from hr_161 5 (by decide)) (by decide)
    refine tp_iast (cy := cy) hx hb hK hP hD hS (show tp_r L K 45 1056 0 (r_158 5) from hr_161 5 (by decide)).1 hf_177 hn_180 dX12_clauseOf_134 (fun H locs hP hD hS => ?_)
    have hP : va_P D vwCl (va_pl L (va_up f_149 (r_158 5) (.inl (cy 0, 1056, .inl (upd g_178 z_171.toNatClampNeg z_176))))) H := hP
    generalize hfe : va_up f_149 (r_158 5) (.inl (cy 0, 1056, .inl (upd g_178 z_171.toNatClampNeg z_176))) = f_184 at hP hI9 hfr9
    have hD : va_D A (va_pl L f_184) := tp_D hL hAL
    have hf_185 := (show f_184 (r_22 6) = _ from by rw [← hfe, va_up_ne _ _ (tp_ne (show tp_r L K 46 22 0 (r_22 6) from hr_25 6 (by decide)) (show tp_r L K 45 1056 0 (r_158 5) from hr_161 5 (by decide)) (by decide))]).trans hf_153
    have hf_186 := (show f_184 o = _ from by rw [← hfe, va_up_ne _ _ (tp_ne ho (show tp_r L K 45 1056 0 (r_158 5) from hr_161 5 (by decide)) (by decide))]).trans hf_157
    have hf_187 := (show f_184 (r_158 4) = _ from by rw [← hfe, va_up_ne _ _ (tp_ne (show tp_r L K 44 22 0 (r_158 4) from hr_161 4 (by decide)) (show tp_r L K 45 1056 0 (r_158 5) from hr_161 5 (by decide)) (by decide))]).trans hf_172
    have hf_188 : f_184 (r_158 5) = .inl (cy 0, 1056, .inl (upd g_178 z_171.toNatClampNeg z_176)) := by rw [← hfe]; exact va_up_self _ _ _
    clear hfe
    have hI := hI9
    have hfr := hfr9
    clear hI9 hfr9
    have wxΓ_183_MLEN : Γ_183 (44, 22, 0) t0.toNat = Γ_151 (44, 22, 0) t0.toNat := by rw [eΓ_183, tg_r (by decide)]
    have wxΓ_183_MCLS : Γ_183 (46, 22, 0) t0.toNat = Γ_151 (46, 22, 0) t0.toNat := by rw [eΓ_183, tg_r (by decide)]
    have wsΓ_183 : Γ_183 (45, 1056, 0) ((48 * t0 + 4 * Γ (46, 22, 0) t0.toNat + 3).toNat) = A3 := by rw [eΓ_183]; exact tg_s
    have hgr : ∀ κ : tk_K, κ.1 ∉ ([39, 43, 44, 52, 45, 46] : List Nat) → Γ_183 κ = Γ κ := tg_fr hgr eΓ_183 (by decide)
    have hg_189 : ∀ j : Nat, j < 22 → (g_37 j).toInt = Γ_183 (46, 22, 0) j := fun j hj => by rw [eΓ_183, tg_r (by decide)]; exact hg_154 j hj
    have hv_190 : ∀ i : Nat, i < 16 → (v_159 i).toInt = Γ_183 (39, 0, 0) i := fun i hi => by rw [eΓ_183, tg_r (by decide)]; exact hv_162 i hi
    have hx_191 : (v_159 0).toInt = Γ_183 (39, 0, 0) 0 := hv_190 0 (by decide)
    have hx_192 : (v_159 1).toInt = Γ_183 (39, 0, 0) 1 := hv_190 1 (by decide)
    have hx_193 : (v_159 3).toInt = Γ_183 (39, 0, 0) 3 := hv_190 3 (by decide)
    have hx_194 : (v_159 4).toInt = Γ_183 (39, 0, 0) 4 := hv_190 4 (by decide)
    have hx_195 : (v_159 5).toInt = Γ_183 (39, 0, 0) 5 := hv_190 5 (by decide)
    have hx_196 : (v_159 6).toInt = Γ_183 (39, 0, 0) 6 := hv_190 6 (by decide)
    have hx_197 : (v_159 7).toInt = Γ_183 (39, 0, 0) 7 := hv_190 7 (by decide)
    have hx_198 : (v_159 8).toInt = Γ_183 (39, 0, 0) 8 := hv_190 8 (by decide)
    have hg_199 : ∀ j : Nat, j < 22 → (g_173 j).toInt = Γ_183 (44, 22, 0) j := fun j hj => by rw [eΓ_183, tg_r (by decide)]; exact hg_174 j hj
    have hO_MCL : Γ_183 (45, 1056, 0) = tgu (tgu (tgu (tgu (tgu (Γ (45, 1056, 0)) ((48 * t0 + 4 * Γ (46, 22, 0) t0.toNat + 0).toNat) (A0)) ((48 * t0 + 4 * Γ (46, 22, 0) t0.toNat + 1).toNat) (A1)) ((48 * t0 + 4 * Γ (46, 22, 0) t0.toNat + 2).toNat) ((-1 : Int))) ((48 * t0 + 4 * Γ (46, 22, 0) t0.toNat + 2).toNat) (A1)) ((48 * t0 + 4 * Γ (46, 22, 0) t0.toNat + 3).toNat) (A3) := by rw [eΓ_183, tg_f, hO_MCL]
    have hO_MCLS : Γ_183 (46, 22, 0) = Γ (46, 22, 0) := by rw [eΓ_183, tg_rf (by decide)]; exact hO_MCLS
    have hO_SIGN : Γ_183 (43, 8800, 0) = Γ_151 (43, 8800, 0) := by rw [eΓ_183, tg_rf (by decide)]; exact hO_SIGN
    obtain ⟨hpa, hpb, hpc, hpd, _⟩ := id hp
    have hle := congrFun (show Γ_183 (44, 22, 0) = _ from by rw [eΓ_183, tg_rf (by decide)]) t0.toNat
    have hp : ps (Γ_183 (43, 8800, 0)) t0 (Γ_183 (44, 22, 0) t0.toNat) (Γ_183 (39, 0, 0) 1) T0 (Γ_183 (39, 0, 0) 5) a (1) := hp.eq (show Γ_183 (43, 8800, 0) = _ from by rw [eΓ_183, tg_rf (by decide)]) rfl (congrFun (show Γ_183 (44, 22, 0) = _ from by rw [eΓ_183, tg_rf (by decide)]) _) (by omega) rfl (by omega)
    have hz : fz (Γ (43, 8800, 0)) (Γ_183 (43, 8800, 0)) (Γ (44, 22, 0)) (Γ_183 (44, 22, 0)) t0 := by rw [(show Γ_183 (43, 8800, 0) = _ from by rw [eΓ_183, tg_rf (by decide)]), (show Γ_183 (44, 22, 0) = _ from by rw [eΓ_183, tg_rf (by decide)])]; exact hz
    have hfw : fw (Γ (43, 8800, 0)) (Γ_183 (43, 8800, 0)) (Γ (44, 22, 0)) (Γ_183 (44, 22, 0)) t0 := by rw [(show Γ_183 (43, 8800, 0) = _ from by rw [eΓ_183, tg_rf (by decide)]), (show Γ_183 (44, 22, 0) = _ from by rw [eΓ_183, tg_rf (by decide)])]; exact hfw
    refine lv_aload_n hx hb dX12_clauseOf_135 rfl (lv_at hl 1 rfl) ?_
    refine tp_get (cy := cy) (ci := 12) (v := .ref (r_158 6)) (C := RX12) (T := TX12) (N := 49) hx hb hta inlX12 hown hK hP ho.1 hf_186 rfl 7 (by decide) (hta _ wk_156) (fun _ h9 => h9) rfl dX12_clauseOf_136 ?_
    refine lv_aload_n hx hb dX12_clauseOf_139 rfl (lv_at hl 1 rfl) ?_
    refine tp_get (cy := cy) (ci := 12) (v := .int (v_159 4)) (C := RX12) (T := TX12) (N := 49) hx hb hta inlX12 hown hK hP ho.1 hf_186 rfl 20 (by decide) (hta _ wk_537) (fun _ h9 => h9) rfl dX12_clauseOf_140 ?_
    refine lv_dup2_11 hx hb dX12_clauseOf_143 rfl rfl ?_
    obtain ⟨g_201, hf_200, hg_202⟩ := (show tp_gi cy (22) (Γ_183 (46, 22, 0)) (f_184 (r_158 6)) from hI.at (show tp_r L K 46 22 0 (r_158 6) from hr_161 6 (by decide)))
    have hn_203 : vp_in (v_159 4) (22) := tl_in (by omega) (by omega)
    refine tp_iald (cy := cy) hx hb hK hP (show tp_r L K 46 22 0 (r_158 6) from hr_161 6 (by decide)).1 hf_200 hn_203 dX12_clauseOf_144 ?_
    refine lv_topi (fun z_204 ez_204 => ?_)
    have iz_204 : z_204.toInt = Γ_183 (46, 22, 0) (v_159 4).toInt.toNat := by rw [ez_204]; exact hg_202 _ (tp_pin hn_203)
    have jz_204 : z_204.toInt = Γ_183 (46, 22, 0) t0.toNat := by rw [show t0 = (v_159 4).toInt from by omega]; exact iz_204
    refine lv_iconst (v := 1) hx hb dX12_clauseOf_145 (by decide) ?_
    refine lv_iadd hx hb dX12_clauseOf_146 ?_
    refine lv_topi (fun z_205 ez_205 => ?_)
    try have iz_205 : z_205.toInt = z_204.toInt + (1 : Int) := by rw [ez_205]; exact tl_addN z_204 1 rfl rfl (by omega) (by omega)
    have hn_206 : vp_in (v_159 4) (22) := tl_in (by omega) (by omega)
    have hj_207 : (v_159 4).toNatClampNeg = t0.toNat := by show (v_159 4).toInt.toNat = _; omega
    have hv_208 : z_205.toInt = Γ (46, 22, 0) t0.toNat + 1 := by omega
    obtain ⟨Γ_209, eΓ_209⟩ : ∃ y : tk_G, y = tg Γ_183 (46, 22, 0) t0.toNat (Γ (46, 22, 0) t0.toNat + 1) := ⟨_, rfl⟩
    have hI9 : tp_I cy L K Γ_209 (va_up f_184 (r_158 6) (.inl (cy 0, 22, .inl (upd g_201 (v_159 4).toNatClampNeg z_205)))) := by have q9 : tg Γ_183 (46, 22, 0) t0.toNat (Γ (46, 22, 0) t0.toNat + 1) = tg Γ_183 (46, 22, 0) (v_159 4).toNatClampNeg z_205.toInt := (by rw [hj_207, hv_208]); rw [eΓ_209, q9]; exact hI.setg hU rfl (show tp_r L K 46 22 0 (r_158 6) from hr_161 6 (by decide)) (show tp_gi cy (22) (tgu (Γ_183 (46, 22, 0)) _ _) _ from ⟨_, rfl, tp_gi_upd hg_202⟩)
    have hfr9 : ∀ b, (K b).1 ∉ ([39, 43, 44, 52, 45, 46] : List Nat) → va_up f_184 (r_158 6) (.inl (cy 0, 22, .inl (upd g_201 (v_159 4).toNatClampNeg z_205))) b = f b := tp_fr hfr (show tp_r L K 46 22 0 (r_158 6) from hr_161 6 (by decide)) (by decide)
    refine tp_iast (cy := cy) hx hb hK hP hD hS (show tp_r L K 46 22 0 (r_158 6) from hr_161 6 (by decide)).1 hf_200 hn_206 dX12_clauseOf_147 (fun H locs hP hD hS => ?_)
    have hP : va_P D vwCl (va_pl L (va_up f_184 (r_158 6) (.inl (cy 0, 22, .inl (upd g_201 (v_159 4).toNatClampNeg z_205))))) H := hP
    generalize hfe : va_up f_184 (r_158 6) (.inl (cy 0, 22, .inl (upd g_201 (v_159 4).toNatClampNeg z_205))) = f_210 at hP hI9 hfr9
    have hD : va_D A (va_pl L f_210) := tp_D hL hAL
    have hf_211 := (show f_210 o = _ from by rw [← hfe, va_up_ne _ _ (tp_ne ho (show tp_r L K 46 22 0 (r_158 6) from hr_161 6 (by decide)) (by decide))]).trans hf_186
    have hf_212 := (show f_210 (r_158 4) = _ from by rw [← hfe, va_up_ne _ _ (tp_ne (show tp_r L K 44 22 0 (r_158 4) from hr_161 4 (by decide)) (show tp_r L K 46 22 0 (r_158 6) from hr_161 6 (by decide)) (by decide))]).trans hf_187
    have hf_213 : f_210 (r_158 6) = .inl (cy 0, 22, .inl (upd g_201 (v_159 4).toNatClampNeg z_205)) := by rw [← hfe]; exact va_up_self _ _ _
    clear hfe
    have hI := hI9
    have hfr := hfr9
    clear hI9 hfr9
    have wxΓ_209_MLEN : Γ_209 (44, 22, 0) t0.toNat = Γ_183 (44, 22, 0) t0.toNat := by rw [eΓ_209, tg_r (by decide)]
    have wsΓ_209 : Γ_209 (46, 22, 0) t0.toNat = Γ (46, 22, 0) t0.toNat + 1 := by rw [eΓ_209]; exact tg_s
    have hgr : ∀ κ : tk_K, κ.1 ∉ ([39, 43, 44, 52, 45, 46] : List Nat) → Γ_209 κ = Γ κ := tg_fr hgr eΓ_209 (by decide)
    have hv_214 : ∀ i : Nat, i < 16 → (v_159 i).toInt = Γ_209 (39, 0, 0) i := fun i hi => by rw [eΓ_209, tg_r (by decide)]; exact hv_190 i hi
    have hx_215 : (v_159 0).toInt = Γ_209 (39, 0, 0) 0 := hv_214 0 (by decide)
    have hx_216 : (v_159 1).toInt = Γ_209 (39, 0, 0) 1 := hv_214 1 (by decide)
    have hx_217 : (v_159 3).toInt = Γ_209 (39, 0, 0) 3 := hv_214 3 (by decide)
    have hx_218 : (v_159 4).toInt = Γ_209 (39, 0, 0) 4 := hv_214 4 (by decide)
    have hx_219 : (v_159 5).toInt = Γ_209 (39, 0, 0) 5 := hv_214 5 (by decide)
    have hx_220 : (v_159 6).toInt = Γ_209 (39, 0, 0) 6 := hv_214 6 (by decide)
    have hx_221 : (v_159 7).toInt = Γ_209 (39, 0, 0) 7 := hv_214 7 (by decide)
    have hx_222 : (v_159 8).toInt = Γ_209 (39, 0, 0) 8 := hv_214 8 (by decide)
    have hg_223 : ∀ j : Nat, j < 22 → (g_173 j).toInt = Γ_209 (44, 22, 0) j := fun j hj => by rw [eΓ_209, tg_r (by decide)]; exact hg_199 j hj
    have hO_MCL : Γ_209 (45, 1056, 0) = tgu (tgu (tgu (tgu (tgu (Γ (45, 1056, 0)) ((48 * t0 + 4 * Γ (46, 22, 0) t0.toNat + 0).toNat) (A0)) ((48 * t0 + 4 * Γ (46, 22, 0) t0.toNat + 1).toNat) (A1)) ((48 * t0 + 4 * Γ (46, 22, 0) t0.toNat + 2).toNat) ((-1 : Int))) ((48 * t0 + 4 * Γ (46, 22, 0) t0.toNat + 2).toNat) (A1)) ((48 * t0 + 4 * Γ (46, 22, 0) t0.toNat + 3).toNat) (A3) := by rw [eΓ_209, tg_rf (by decide)]; exact hO_MCL
    have hO_MCLS : Γ_209 (46, 22, 0) = tgu (Γ (46, 22, 0)) t0.toNat (Γ (46, 22, 0) t0.toNat + 1) := by rw [eΓ_209, tg_f, hO_MCLS]
    have hO_SIGN : Γ_209 (43, 8800, 0) = Γ_151 (43, 8800, 0) := by rw [eΓ_209, tg_rf (by decide)]; exact hO_SIGN
    obtain ⟨hpa, hpb, hpc, hpd, _⟩ := id hp
    have hle := congrFun (show Γ_209 (44, 22, 0) = _ from by rw [eΓ_209, tg_rf (by decide)]) t0.toNat
    have hp : ps (Γ_209 (43, 8800, 0)) t0 (Γ_209 (44, 22, 0) t0.toNat) (Γ_209 (39, 0, 0) 1) T0 (Γ_209 (39, 0, 0) 5) a (1) := hp.eq (show Γ_209 (43, 8800, 0) = _ from by rw [eΓ_209, tg_rf (by decide)]) rfl (congrFun (show Γ_209 (44, 22, 0) = _ from by rw [eΓ_209, tg_rf (by decide)]) _) (by omega) rfl (by omega)
    have hz : fz (Γ (43, 8800, 0)) (Γ_209 (43, 8800, 0)) (Γ (44, 22, 0)) (Γ_209 (44, 22, 0)) t0 := by rw [(show Γ_209 (43, 8800, 0) = _ from by rw [eΓ_209, tg_rf (by decide)]), (show Γ_209 (44, 22, 0) = _ from by rw [eΓ_209, tg_rf (by decide)])]; exact hz
    have hfw : fw (Γ (43, 8800, 0)) (Γ_209 (43, 8800, 0)) (Γ (44, 22, 0)) (Γ_209 (44, 22, 0)) t0 := by rw [(show Γ_209 (43, 8800, 0) = _ from by rw [eΓ_209, tg_rf (by decide)]), (show Γ_209 (44, 22, 0) = _ from by rw [eΓ_209, tg_rf (by decide)])]; exact hfw
    obtain ⟨hpa, hpb, hpc, hpd, _⟩ := id hp
    have hq2 : tc (Γ_209 (43, 8800, 0)) (Γ (45, 1056, 0)) (Γ (46, 22, 0)) t0 (Γ (44, 22, 0) t0.toNat) := htc.fz (by omega) hz (Int.le_refl _)
    have hq3 : tc (Γ_209 (43, 8800, 0)) (Γ_209 (45, 1056, 0)) (Γ (46, 22, 0)) t0 (Γ_209 (44, 22, 0) t0.toNat) := (hq2.mono hz.2.1).mc (by omega) (fun i9 q9 => by rw [hO_MCL, tgu_n (by omega), tgu_n (by omega), tgu_n (by omega), tgu_n (by omega), tgu_n (by omega)])
    have hm0 : Γ_209 (45, 1056, 0) (48 * t0 + 4 * Γ (46, 22, 0) t0.toNat + 0).toNat = A0 := by rw [hO_MCL, tgu_n (by omega), tgu_n (by omega), tgu_n (by omega), tgu_n (by omega), tgu_s]
    have hm1 : Γ_209 (45, 1056, 0) (48 * t0 + 4 * Γ (46, 22, 0) t0.toNat + 1).toNat = A1 := by rw [hO_MCL, tgu_n (by omega), tgu_n (by omega), tgu_n (by omega), tgu_s]
    have hm2 : Γ_209 (45, 1056, 0) (48 * t0 + 4 * Γ (46, 22, 0) t0.toNat + 2).toNat = A1 := by rw [hO_MCL, tgu_n (by omega), tgu_s]
    have hm3 : Γ_209 (45, 1056, 0) (48 * t0 + 4 * Γ (46, 22, 0) t0.toNat + 3).toNat = A3 := by rw [hO_MCL, tgu_s]
    have hq4 : tc (Γ_209 (43, 8800, 0)) (Γ_209 (45, 1056, 0)) (Γ_209 (46, 22, 0)) t0 (Γ_209 (44, 22, 0) t0.toNat) := by rw [hO_MCLS]; exact hq3.add ⟨(Or.inr (by rw [hm2, hm3]; exact ⟨by omega, by omega, by omega, by rw [hO_SIGN]; exact hT1⟩)), (fun q9 => by exfalso; omega)⟩
    refine lv_iconst (v := 1) hx hb dX12_clauseOf_148 (by decide) ?_
    have hpo9 : tl_J (1 : Int32) (Γ_209 (46, 22, 0) = tgu (Γ (46, 22, 0)) t0.toNat (Γ (46, 22, 0) t0.toNat + 1) ∧ Γ_209 (44, 22, 0) t0.toNat ≤ Γ_209 (39, 0, 0) 1 ∧ (0 ≤ Γ_209 (39, 0, 0) 5 ∧ Γ_209 (39, 0, 0) 5 ≤ 60) ∧ tc (Γ_209 (43, 8800, 0)) (Γ_209 (45, 1056, 0)) (Γ_209 (46, 22, 0)) t0 (Γ_209 (44, 22, 0) t0.toNat)) ∧ Γ_209 (39, 0, 0) 0 = Γ (39, 0, 0) 0 ∧ Γ_209 (39, 0, 0) 4 = Γ (39, 0, 0) 4 ∧ Γ_209 (39, 0, 0) 7 = Γ (39, 0, 0) 7 ∧ Γ (39, 0, 0) 1 ≤ Γ_209 (39, 0, 0) 1 ∧ Γ_209 (39, 0, 0) 1 ≤ T0 ∧ fw (Γ (43, 8800, 0)) (Γ_209 (43, 8800, 0)) (Γ (44, 22, 0)) (Γ_209 (44, 22, 0)) t0 ∧ (∀ i : Nat, (i : Int) < 48 * t0 ∨ 48 * t0 + 48 ≤ i → Γ_209 (45, 1056, 0) i = Γ (45, 1056, 0) i) ∧ (∀ j : Nat, ¬ j = t0.toNat → Γ_209 (46, 22, 0) j = Γ (46, 22, 0) j) ∧ tc (Γ_209 (43, 8800, 0)) (Γ_209 (45, 1056, 0)) (Γ_209 (46, 22, 0)) t0 (400) ∧ (Γ (46, 22, 0) t0.toNat ≤ Γ_209 (46, 22, 0) t0.toNat ∧ Γ_209 (46, 22, 0) t0.toNat ≤ Γ (46, 22, 0) t0.toNat + 1) := ⟨(Or.inl ⟨rfl, ⟨hO_MCLS, (by omega), (by omega), hq4⟩⟩), ⟨(by omega), (by omega), (by omega), (by omega), (by omega), hfw, (fun i9 q9 => by rw [hO_MCL, tgu_n (by omega), tgu_n (by omega), tgu_n (by omega), tgu_n (by omega), tgu_n (by omega)]), (fun j9 q9 => by rw [hO_MCLS, tgu_n q9]), (hq4.mono (by omega)), (by rw [hO_MCLS, tgu_s]; omega)⟩⟩
    exact W.zret (ty := .boolean) (v := 1) hx hb hr rfl (fun t ht hW => ⟨⟨_, (f_210, Γ_209), rfl, hpo9, by rw [ht]; exact hP, hI, hfr, hgr⟩, hS.F ht⟩) hS.2.2 dX12_clauseOf_149
  · have c_156 := c_156
    refine lv_iconst (v := 0) hx hb dX12_clauseOf_116 (by decide) ?_
    have hpo9 : tl_J (0 : Int32) (Γ_151 (46, 22, 0) = tgu (Γ (46, 22, 0)) t0.toNat (Γ (46, 22, 0) t0.toNat + 1) ∧ Γ_151 (44, 22, 0) t0.toNat ≤ Γ_151 (39, 0, 0) 1 ∧ (0 ≤ Γ_151 (39, 0, 0) 5 ∧ Γ_151 (39, 0, 0) 5 ≤ 60) ∧ tc (Γ_151 (43, 8800, 0)) (Γ_151 (45, 1056, 0)) (Γ_151 (46, 22, 0)) t0 (Γ_151 (44, 22, 0) t0.toNat)) ∧ Γ_151 (39, 0, 0) 0 = Γ (39, 0, 0) 0 ∧ Γ_151 (39, 0, 0) 4 = Γ (39, 0, 0) 4 ∧ Γ_151 (39, 0, 0) 7 = Γ (39, 0, 0) 7 ∧ Γ (39, 0, 0) 1 ≤ Γ_151 (39, 0, 0) 1 ∧ Γ_151 (39, 0, 0) 1 ≤ T0 ∧ fw (Γ (43, 8800, 0)) (Γ_151 (43, 8800, 0)) (Γ (44, 22, 0)) (Γ_151 (44, 22, 0)) t0 ∧ (∀ i : Nat, (i : Int) < 48 * t0 ∨ 48 * t0 + 48 ≤ i → Γ_151 (45, 1056, 0) i = Γ (45, 1056, 0) i) ∧ (∀ j : Nat, ¬ j = t0.toNat → Γ_151 (46, 22, 0) j = Γ (46, 22, 0) j) ∧ tc (Γ_151 (43, 8800, 0)) (Γ_151 (45, 1056, 0)) (Γ_151 (46, 22, 0)) t0 (400) ∧ (Γ (46, 22, 0) t0.toNat ≤ Γ_151 (46, 22, 0) t0.toNat ∧ Γ_151 (46, 22, 0) t0.toNat ≤ Γ (46, 22, 0) t0.toNat + 1) := ⟨(Or.inr rfl), ⟨(by omega), (by omega), (by omega), (by omega), (by omega), hfw, (fun i9 q9 => by rw [hO_MCL, tgu_n (by omega), tgu_n (by omega), tgu_n (by omega), tgu_n (by omega)]), (fun j9 q9 => by rw [hO_MCLS]), (by rw [hO_MCLS]; exact ((htc.fz (by omega) hfw (Int.le_refl _)).mono (by omega)).mc (by omega) (fun i9 q9 => by rw [hO_MCL, tgu_n (by omega), tgu_n (by omega), tgu_n (by omega), tgu_n (by omega)])), (by rw [hO_MCLS]; omega)⟩⟩
    exact W.zret (ty := .boolean) (v := 0) hx hb hr rfl (fun t ht hW => ⟨⟨_, (f_149, Γ_151), rfl, hpo9, by rw [ht]; exact hP, hI, hfr, hgr⟩, hS.F ht⟩) hS.2.2 dX12_clauseOf_117
