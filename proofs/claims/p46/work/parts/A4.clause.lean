/-! ===== clauses of a text ===== -/
def sgm (sg : Nat → Int) (t a b L : Int) : Prop := 0 ≤ a ∧ a ≤ b ∧ b ≤ L ∧ rp sg (400 * t + a).toNat (b - a).toNat 1
def tcc (sg mc : Nat → Int) (t c L : Int) : Prop :=
  (mc (48 * t + 4 * c + 2).toNat < 0 ∨ sgm sg t (mc (48 * t + 4 * c + 2).toNat) (mc (48 * t + 4 * c + 3).toNat) L) ∧
  (t ≤ 5 ∨ 14 ≤ t → sgm sg t (mc (48 * t + 4 * c + 0).toNat) (mc (48 * t + 4 * c + 1).toNat) L)
def tc (sg mc ms : Nat → Int) (t L : Int) : Prop := ∀ c : Nat, (c : Int) < ms t.toNat → tcc sg mc t c L
theorem sgm.mono {sg : Nat → Int} {t a b L L2 : Int} (h : sgm sg t a b L) (hL : L ≤ L2) : sgm sg t a b L2 := ⟨h.1, h.2.1, Int.le_trans h.2.2.1 hL, h.2.2.2⟩
theorem sgm.ext {sg sg2 : Nat → Int} {t a b L : Int} (h : sgm sg t a b L) (ht : 0 ≤ t) (he : ∀ i : Nat, 400 * t ≤ i → (i : Int) < 400 * t + L → sg2 i = sg i) : sgm sg2 t a b L := by
  obtain ⟨h1, h2, h3, h4⟩ := h
  exact ⟨h1, h2, h3, h4.ext (fun j hj => he _ (by omega) (by omega))⟩
theorem tc.mono {sg mc ms : Nat → Int} {t L L2 : Int} (h : tc sg mc ms t L) (hL : L ≤ L2) : tc sg mc ms t L2 := fun c hc => ⟨(h c hc).1.imp id (fun q => q.mono hL), fun q => ((h c hc).2 q).mono hL⟩
theorem tc.ext {sg sg2 mc ms : Nat → Int} {t L : Int} (h : tc sg mc ms t L) (ht : 0 ≤ t) (he : ∀ i : Nat, 400 * t ≤ i → (i : Int) < 400 * t + L → sg2 i = sg i) : tc sg2 mc ms t L := fun c hc => ⟨(h c hc).1.imp id (fun q => q.ext ht he), fun q => ((h c hc).2 q).ext ht he⟩
theorem tc.fz {sg sg2 mc ms lam mu : Nat → Int} {t L : Int} (h : tc sg mc ms t L) (ht : 0 ≤ t) (hz : fz sg sg2 lam mu t) (hL : L ≤ lam t.toNat) : tc sg2 mc ms t L := h.ext ht (fun i _ h2 => hz.2.2 i (Or.inl (by omega)))
theorem tc.mc {sg mc mc2 ms : Nat → Int} {t L : Int} (h : tc sg mc ms t L) (ht : 0 ≤ t) (he : ∀ i : Nat, (i : Int) < 48 * t + 4 * ms t.toNat → mc2 i = mc i) : tc sg mc2 ms t L := by
  intro c hc
  have e : ∀ k : Int, 0 ≤ k → k ≤ 3 → mc2 (48 * t + 4 * (c : Int) + k).toNat = mc (48 * t + 4 * (c : Int) + k).toNat := fun k h1 h2 => he _ (by omega)
  have q := h c hc
  unfold tcc at q ⊢
  rw [e 2 (by omega) (by omega), e 3 (by omega) (by omega), e 0 (by omega) (by omega), e 1 (by omega) (by omega)]
  exact q
theorem tc.add {sg mc ms : Nat → Int} {t L : Int} (h : tc sg mc ms t L) (hn : tcc sg mc t (ms t.toNat) L) : tc sg mc (tgu ms t.toNat (ms t.toNat + 1)) t L := by
  intro c hc
  rw [tgu_s] at hc
  by_cases e : (c : Int) = ms t.toNat
  · rw [e]; exact hn
  · exact h c (by omega)
/-- from one state of the reading to another: what belongs to other texts stays -/
def rg (Γ Δ : tk_G) (t : Int) : Prop := (∀ i : Nat, (i : Int) < 400 * t ∨ 400 * t + 400 ≤ i → Δ (43, 8800, 0) i = Γ (43, 8800, 0) i) ∧ (∀ i : Nat, (i : Int) < 48 * t ∨ 48 * t + 48 ≤ i → Δ (45, 1056, 0) i = Γ (45, 1056, 0) i) ∧ ∀ j : Nat, ¬ (j : Int) = t → Δ (46, 22, 0) j = Γ (46, 22, 0) j ∧ Δ (47, 6, 0) j = Γ (47, 6, 0) j ∧ Δ (48, 22, 0) j = Γ (48, 22, 0) j ∧ Δ (49, 22, 0) j = Γ (49, 22, 0) j ∧ Δ (50, 22, 0) j = Γ (50, 22, 0) j ∧ Δ (51, 22, 0) j = Γ (51, 22, 0) j
/-- bounds of what is read of a text, where its reading fails, too -/
def rb (Γ : tk_G) (t : Int) : Prop := (0 ≤ Γ (46, 22, 0) t.toNat ∧ Γ (46, 22, 0) t.toNat ≤ 12) ∧ tc (Γ (43, 8800, 0)) (Γ (45, 1056, 0)) (Γ (46, 22, 0)) t 400 ∧ (t ≤ 5 → 0 ≤ Γ (47, 6, 0) t.toNat ∧ Γ (47, 6, 0) t.toNat ≤ 12) ∧ (-1 ≤ Γ (48, 22, 0) t.toNat ∧ Γ (48, 22, 0) t.toNat ≤ 40) ∧ (-1 ≤ Γ (49, 22, 0) t.toNat ∧ Γ (49, 22, 0) t.toNat ≤ 299) ∧ (0 ≤ Γ (50, 22, 0) t.toNat ∧ Γ (50, 22, 0) t.toNat ≤ 299) ∧ (-1 ≤ Γ (51, 22, 0) t.toNat ∧ Γ (51, 22, 0) t.toNat ≤ 50)
/-- a text that is read as far as it goes -/
def rq (Γ : tk_G) (t : Int) : Prop := (0 ≤ Γ (44, 22, 0) t.toNat ∧ Γ (44, 22, 0) t.toNat ≤ Γ (39, 0, 0) 1) ∧ (0 ≤ Γ (39, 0, 0) 5 ∧ Γ (39, 0, 0) 5 ≤ 60) ∧ (0 ≤ Γ (39, 0, 0) 7 ∧ Γ (39, 0, 0) 7 ≤ 12) ∧ Γ (46, 22, 0) t.toNat ≤ Γ (39, 0, 0) 7 ∧ (t ≤ 5 → Γ (47, 6, 0) t.toNat ≤ Γ (39, 0, 0) 7) ∧ tc (Γ (43, 8800, 0)) (Γ (45, 1056, 0)) (Γ (46, 22, 0)) t (Γ (44, 22, 0) t.toNat)
theorem rg.refl {Γ : tk_G} {t : Int} : rg Γ Γ t := ⟨fun _ _ => rfl, fun _ _ => rfl, fun _ _ => ⟨rfl, rfl, rfl, rfl, rfl, rfl⟩⟩
theorem rg.trans {Γ Δ Ξ : tk_G} {t : Int} (h : rg Γ Δ t) (h2 : rg Δ Ξ t) : rg Γ Ξ t := by
  refine ⟨fun i hi => (h2.1 i hi).trans (h.1 i hi), fun i hi => (h2.2.1 i hi).trans (h.2.1 i hi), fun j hj => ?_⟩
  obtain ⟨a1, a2, a3, a4, a5, a6⟩ := h.2.2 j hj
  obtain ⟨b1, b2, b3, b4, b5, b6⟩ := h2.2.2 j hj
  exact ⟨b1.trans a1, b2.trans a2, b3.trans a3, b4.trans a4, b5.trans a5, b6.trans a6⟩
theorem rg.same {Γ Δ Ξ : tk_G} {t : Int} (h : rg Γ Δ t) (e : ∀ κ : tk_K, κ.1 ∉ ([39] : List Nat) → Ξ κ = Δ κ) : rg Γ Ξ t :=
  h.trans ⟨fun i _ => by rw [e _ (by decide)], fun i _ => by rw [e _ (by decide)], fun j _ => ⟨by rw [e _ (by decide)], by rw [e _ (by decide)], by rw [e _ (by decide)], by rw [e _ (by decide)], by rw [e _ (by decide)], by rw [e _ (by decide)]⟩⟩
theorem rb.same {Δ Ξ : tk_G} {t : Int} (h : rb Δ t) (e : ∀ κ : tk_K, κ.1 ∉ ([39] : List Nat) → Ξ κ = Δ κ) : rb Ξ t := by
  unfold rb
  rw [e (46, 22, 0) (by decide), e (43, 8800, 0) (by decide), e (45, 1056, 0) (by decide), e (47, 6, 0) (by decide), e (48, 22, 0) (by decide), e (49, 22, 0) (by decide), e (50, 22, 0) (by decide), e (51, 22, 0) (by decide)]
  exact h
theorem tg_M {G : tk_G} {k n w j : Nat} {v : Int} : ∀ κ : tk_K, κ.1 ∉ ([k] : List Nat) → tg G (k, n, w) j v κ = G κ := by
  intro κ h
  funext i
  exact tg_n (fun q => h (by rw [q]; exact List.mem_singleton.mpr rfl))
theorem rg.put {Γ G G2 : tk_G} {k n : Nat} {t v : Int} (h : rg Γ G t) (ht : 0 ≤ t) (e : G2 = tg G (k, n, 0) t.toNat v) (h1 : 43 ≠ k) (h2 : 45 ≠ k) : rg Γ G2 t := by
  subst e
  exact h.trans ⟨fun i _ => tg_r h1, fun i _ => tg_r h2, fun j hj => ⟨tg_i (by omega), tg_i (by omega), tg_i (by omega), tg_i (by omega), tg_i (by omega), tg_i (by omega)⟩⟩
theorem rb.put {G G2 : tk_G} {k n : Nat} {t v : Int} (h : rb G t) (e : G2 = tg G (k, n, 0) t.toNat v) (h0 : 43 ≠ k ∧ 45 ≠ k ∧ 46 ≠ k ∧ 47 ≠ k) (h1 : k = 48 → -1 ≤ v ∧ v ≤ 40) (h2 : k = 49 → -1 ≤ v ∧ v ≤ 299) (h3 : k = 50 → 0 ≤ v ∧ v ≤ 299) (h4 : k = 51 → -1 ≤ v ∧ v ≤ 50) : rb G2 t := by
  subst e
  obtain ⟨a1, a2, a3, a4, a5, a6, a7⟩ := h
  have g : ∀ {P : Int → Prop} (k2 : Nat), (k = k2 → P v) → P (G (k2, 22, 0) t.toNat) → P (tg G (k, n, 0) t.toNat v (k2, 22, 0) t.toNat) := by
    intro P k2 p1 p2
    unfold tg
    by_cases q : (k2, 22, 0) = (k, n, 0) ∧ t.toNat = t.toNat
    · rw [if_pos q]; exact p1 (congrArg Prod.fst q.1).symm
    · rw [if_neg q]; exact p2
  unfold rb
  rw [tg_rf h0.1, tg_rf h0.2.1, tg_rf h0.2.2.1, tg_rf h0.2.2.2]
  exact ⟨a1, a2, a3, g (P := fun x => -1 ≤ x ∧ x ≤ 40) _ h1 a4, g (P := fun x => -1 ≤ x ∧ x ≤ 299) _ h2 a5, g (P := fun x => 0 ≤ x ∧ x ≤ 299) _ h3 a6, g (P := fun x => -1 ≤ x ∧ x ≤ 50) _ h4 a7⟩
/-- the word that a clause begins with, by the text's sort -/
def tr_H (τ : Nat → Int) (T s t : Int) : Prop := (t ≤ 5 ∧ (tr_W τ T s 495672979045 ∨ tr_W τ T s 125797183548517 ∨ tr_W τ T s 474315584357 ∨ tr_W τ T s 1700885619)) ∨ ((6 ≤ t ∧ t ≤ 13) ∧ (tr_W τ T s 422608528499 ∨ tr_W τ T s 6775152 ∨ tr_W τ T s 2003395685 ∨ tr_W τ T s 1936419184)) ∨ (14 ≤ t ∧ tr_W τ T s 444150998387)
theorem tr_H.L {τ : Nat → Int} {T s t : Int} (h : tr_H τ T s t) : tr_L τ T s := by
  rcases h with ⟨_, h | h | h | h⟩ | ⟨_, h | h | h | h⟩ | ⟨_, h⟩ <;> exact h.L
theorem tr_H.eats {τ : Nat → Int} {T s t : Int} (h : tr_H τ T s t) (h2 : tr_W τ T s 1700885619) : t ≤ 5 := by
  rcases h with ⟨q, _⟩ | ⟨_, h | h | h | h⟩ | ⟨_, h⟩
  · exact q
  · exact absurd (h.uniq h2) (by decide)
  · exact absurd (h.uniq h2) (by decide)
  · exact absurd (h.uniq h2) (by decide)
  · exact absurd (h.uniq h2) (by decide)
  · exact absurd (h.uniq h2) (by decide)
theorem tr_H.skip {τ : Nat → Int} {T s t : Int} (h : tr_H τ T s t) (h2 : tr_W τ T s 1936419184) : 6 ≤ t ∧ t ≤ 13 := by
  rcases h with ⟨_, h | h | h | h⟩ | ⟨q, _⟩ | ⟨_, h⟩
  · exact absurd (h.uniq h2) (by decide)
  · exact absurd (h.uniq h2) (by decide)
  · exact absurd (h.uniq h2) (by decide)
  · exact absurd (h.uniq h2) (by decide)
  · exact q
  · exact absurd (h.uniq h2) (by decide)
theorem clx0 {t C : Int} {B : Nat} (h : (B : Int) = 48 * t + 4 * C) : (48 * t + 4 * C + 0).toNat = B + 0 := by omega
theorem clx1 {t C : Int} {B : Nat} (h : (B : Int) = 48 * t + 4 * C) : (48 * t + 4 * C + 1).toNat = B + 1 := by omega
theorem clx2 {t C : Int} {B : Nat} (h : (B : Int) = 48 * t + 4 * C) : (48 * t + 4 * C + 2).toNat = B + 2 := by omega
theorem clx3 {t C : Int} {B : Nat} (h : (B : Int) = 48 * t + 4 * C) : (48 * t + 4 * C + 3).toNat = B + 3 := by omega
