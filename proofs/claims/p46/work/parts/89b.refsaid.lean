/-! ===== what the reference was told: bounds that are kept ===== -/
def ts_said (σ : Nat → Int) (T : Int) : Prop :=
  ((0 ≤ σ 0 ∧ σ 0 ≤ 399) ∧ (0 ≤ σ 1 ∧ σ 1 ≤ 24) ∧ (0 ≤ σ 2 ∧ σ 2 ≤ 40) ∧ (0 ≤ σ 3 ∧ σ 3 ≤ 60) ∧ (0 ≤ σ 4 ∧ σ 4 ≤ 10) ∧ (0 ≤ σ 7665 ∧ σ 7665 ≤ 8)) ∧
  (∀ r : Nat, r < 24 → 0 ≤ σ (9 + 3 * r) ∧ σ (9 + 3 * r) ≤ 3) ∧
  (∀ k : Nat, k < 40 → (0 ≤ σ (82 + 4 * k) ∧ σ (82 + 4 * k) ≤ 299) ∧ (0 ≤ σ (83 + 4 * k) ∧ σ (83 + 4 * k) ≤ 299) ∧ -9999 ≤ σ (84 + 4 * k) ∧ σ (84 + 4 * k) ≤ 9999) ∧
  (∀ l : Nat, l < 60 → 0 ≤ σ (242 + 3 * l) ∧ σ (242 + 3 * l) ≤ 299) ∧
  (∀ l : Nat, (l : Int) < σ 3 → 1 ≤ σ (243 + 3 * l)) ∧
  (∀ c : Nat, c < 10 → 0 ≤ σ (421 + 2 * c) ∧ σ (421 + 2 * c) ≤ 3) ∧
  (∀ k : Nat, k < 7200 → (σ (441 + k) = -1000000 ∨ (-100000 ≤ σ (441 + k) ∧ σ (441 + k) ≤ 100000))) ∧
  ∀ h : Nat, (h : Int) < σ 7665 → 0 ≤ σ (7641 + 3 * h) ∧ σ (7641 + 3 * h) < T
theorem ts_said.ext {σ ρ : Nat → Int} {T : Int} (h : ts_said σ T) (he : ∀ i : Nat, i < 7666 → ρ i = σ i) : ts_said ρ T := by
  obtain ⟨⟨a0, a1, a2, a3, a4, a5⟩, h1, h2, h3, h4, h5, h6, h7⟩ := h
  refine ⟨⟨?_, ?_, ?_, ?_, ?_, ?_⟩, ?_, ?_, ?_, ?_, ?_, ?_, ?_⟩
  · rw [he 0 (by omega)]; exact a0
  · rw [he 1 (by omega)]; exact a1
  · rw [he 2 (by omega)]; exact a2
  · rw [he 3 (by omega)]; exact a3
  · rw [he 4 (by omega)]; exact a4
  · rw [he 7665 (by omega)]; exact a5
  · intro r hr; rw [he _ (by omega)]; exact h1 r hr
  · intro k hk; rw [he (82 + 4 * k) (by omega), he (83 + 4 * k) (by omega), he (84 + 4 * k) (by omega)]; exact h2 k hk
  · intro l hl; rw [he _ (by omega)]; exact h3 l hl
  · intro l hl; rw [he 3 (by omega)] at hl; rw [he _ (by omega)]; exact h4 l hl
  · intro c hc; rw [he _ (by omega)]; exact h5 c hc
  · intro k hk; rw [he _ (by omega)]; exact h6 k hk
  · intro q hq; rw [he 7665 (by omega)] at hq; rw [he _ (by omega)]; exact h7 q hq
theorem ts_said.mono {σ : Nat → Int} {T T2 : Int} (h : ts_said σ T) (hT : T ≤ T2) : ts_said σ T2 :=
  ⟨h.1, h.2.1, h.2.2.1, h.2.2.2.1, h.2.2.2.2.1, h.2.2.2.2.2.1, h.2.2.2.2.2.2.1, fun q hq => ⟨(h.2.2.2.2.2.2.2 q hq).1, Int.lt_of_lt_of_le (h.2.2.2.2.2.2.2 q hq).2 hT⟩⟩
theorem ts_said.put {σ : Nat → Int} {T v : Int} {i : Nat} (h : ts_said σ T) (k0 : i = 0 → 0 ≤ v ∧ v ≤ 399) (k1 : i = 1 → 0 ≤ v ∧ v ≤ 24) (k2 : i = 2 → 0 ≤ v ∧ v ≤ 40) (k3 : i = 3 → (0 ≤ v ∧ v ≤ 60) ∧ ∀ l : Nat, (l : Int) < v → 1 ≤ σ (243 + 3 * l)) (k4 : i = 4 → 0 ≤ v ∧ v ≤ 10) (k5 : i = 7665 → (0 ≤ v ∧ v ≤ 8) ∧ ∀ q : Nat, (q : Int) < v → 0 ≤ σ (7641 + 3 * q) ∧ σ (7641 + 3 * q) < T)
    (r1 : ∀ r : Nat, r < 24 → i = 9 + 3 * r → 0 ≤ v ∧ v ≤ 3) (r2 : ∀ k : Nat, k < 40 → (i = 82 + 4 * k ∨ i = 83 + 4 * k → 0 ≤ v ∧ v ≤ 299) ∧ (i = 84 + 4 * k → -9999 ≤ v ∧ v ≤ 9999)) (r3 : ∀ l : Nat, l < 60 → (i = 242 + 3 * l → 0 ≤ v ∧ v ≤ 299) ∧ (i = 243 + 3 * l → 1 ≤ v)) (r5 : ∀ c : Nat, c < 10 → i = 421 + 2 * c → 0 ≤ v ∧ v ≤ 3) (r6 : ∀ k : Nat, k < 7200 → i = 441 + k → (v = -1000000 ∨ (-100000 ≤ v ∧ v ≤ 100000))) (r7 : ∀ q : Nat, q < 8 → i = 7641 + 3 * q → 0 ≤ v ∧ v < T) : ts_said (tgu σ i v) T := by
  obtain ⟨⟨a0, a1, a2, a3, a4, a5⟩, h1, h2, h3, h4, h5, h6, h7⟩ := h
  have g : ∀ {P : Int → Prop} (j : Nat), (i = j → P v) → P (σ j) → P (tgu σ i v j) := by
    intro P j p1 p2
    by_cases e : j = i
    · rw [e, tgu_s]; exact p1 e.symm
    · rw [tgu_n e]; exact p2
  refine ⟨⟨g (P := fun x => 0 ≤ x ∧ x ≤ 399) 0 k0 a0, g (P := fun x => 0 ≤ x ∧ x ≤ 24) 1 k1 a1, g (P := fun x => 0 ≤ x ∧ x ≤ 40) 2 k2 a2, g (P := fun x => 0 ≤ x ∧ x ≤ 60) 3 (fun e => (k3 e).1) a3, g (P := fun x => 0 ≤ x ∧ x ≤ 10) 4 k4 a4, g (P := fun x => 0 ≤ x ∧ x ≤ 8) 7665 (fun e => (k5 e).1) a5⟩, ?_, ?_, ?_, ?_, ?_, ?_, ?_⟩
  · intro r hr
    exact g (P := fun x => 0 ≤ x ∧ x ≤ 3) _ (r1 r hr) (h1 r hr)
  · intro k hk
    exact ⟨g (P := fun x => 0 ≤ x ∧ x ≤ 299) _ (fun e => (r2 k hk).1 (Or.inl e)) (h2 k hk).1, g (P := fun x => 0 ≤ x ∧ x ≤ 299) _ (fun e => (r2 k hk).1 (Or.inr e)) (h2 k hk).2.1, g (P := fun x => -9999 ≤ x ∧ x ≤ 9999) _ (r2 k hk).2 (h2 k hk).2.2⟩
  · intro l hl
    exact g (P := fun x => 0 ≤ x ∧ x ≤ 299) _ (r3 l hl).1 (h3 l hl)
  · intro l hl
    by_cases e3 : i = 3
    · subst e3
      rw [tgu_s] at hl
      rw [tgu_n (by omega)]
      exact (k3 rfl).2 l hl
    · rw [tgu_n (fun q => e3 q.symm)] at hl
      exact g (P := fun x => 1 ≤ x) _ (r3 l (by omega)).2 (h4 l hl)
  · intro c hc
    exact g (P := fun x => 0 ≤ x ∧ x ≤ 3) _ (r5 c hc) (h5 c hc)
  · intro k hk
    exact g (P := fun x => x = -1000000 ∨ (-100000 ≤ x ∧ x ≤ 100000)) _ (r6 k hk) (h6 k hk)
  · intro q hq
    by_cases e3 : i = 7665
    · subst e3
      rw [tgu_s] at hq
      rw [tgu_n (by omega)]
      exact (k5 rfl).2 q hq
    · rw [tgu_n (fun z => e3 z.symm)] at hq
      exact g (P := fun x => 0 ≤ x ∧ x < T) _ (r7 q (by omega)) (h7 q hq)
theorem ts_said.fill {σ : Nat → Int} {T : Int} {a b : Nat} (h : ts_said σ T) (ha : 441 ≤ a) (hb : b ≤ 7641) : ts_said (tm_fill σ a b (-1000000)) T := by
  have g : ∀ j : Nat, (j < 441 ∨ 7641 ≤ j) → tm_fill σ a b (-1000000) j = σ j := fun j hj => if_neg (by omega)
  obtain ⟨⟨a0, a1, a2, a3, a4, a5⟩, h1, h2, h3, h4, h5, h6, h7⟩ := h
  refine ⟨⟨?_, ?_, ?_, ?_, ?_, ?_⟩, ?_, ?_, ?_, ?_, ?_, ?_, ?_⟩
  · rw [g 0 (by omega)]; exact a0
  · rw [g 1 (by omega)]; exact a1
  · rw [g 2 (by omega)]; exact a2
  · rw [g 3 (by omega)]; exact a3
  · rw [g 4 (by omega)]; exact a4
  · rw [g 7665 (by omega)]; exact a5
  · intro r hr; rw [g _ (by omega)]; exact h1 r hr
  · intro k hk; rw [g (82 + 4 * k) (by omega), g (83 + 4 * k) (by omega), g (84 + 4 * k) (by omega)]; exact h2 k hk
  · intro l hl; rw [g _ (by omega)]; exact h3 l hl
  · intro l hl; rw [g 3 (by omega)] at hl; rw [g _ (by omega)]; exact h4 l hl
  · intro c hc; rw [g _ (by omega)]; exact h5 c hc
  · intro k hk
    unfold tm_fill
    by_cases e : a ≤ 441 + k ∧ 441 + k < b
    · rw [if_pos e]; exact Or.inl rfl
    · rw [if_neg e]; exact h6 k hk
  · intro q hq; rw [g 7665 (by omega)] at hq; rw [g _ (by omega)]; exact h7 q hq
/-! ===== texts that stand ===== -/
def tx_t (sg mc ms er be gf gt wi : Nat → Int) (t : Int) : Prop :=
  (0 ≤ ms t.toNat ∧ ms t.toNat ≤ 12) ∧
  (∀ c : Nat, (c : Int) < ms t.toNat → (mc (48 * t + 4 * (c : Int) + 2).toNat < 0 ∨ (0 ≤ mc (48 * t + 4 * (c : Int) + 2).toNat ∧ mc (48 * t + 4 * (c : Int) + 2).toNat ≤ mc (48 * t + 4 * (c : Int) + 3).toNat ∧ mc (48 * t + 4 * (c : Int) + 3).toNat ≤ 400 ∧ rp sg (400 * t + mc (48 * t + 4 * (c : Int) + 2).toNat).toNat (mc (48 * t + 4 * (c : Int) + 3).toNat - mc (48 * t + 4 * (c : Int) + 2).toNat).toNat 1))) ∧
  (t ≤ 5 ∨ 14 ≤ t → ∀ c : Nat, (c : Int) < ms t.toNat → (0 ≤ mc (48 * t + 4 * (c : Int) + 0).toNat ∧ mc (48 * t + 4 * (c : Int) + 0).toNat ≤ mc (48 * t + 4 * (c : Int) + 1).toNat ∧ mc (48 * t + 4 * (c : Int) + 1).toNat ≤ 400 ∧ rp sg (400 * t + mc (48 * t + 4 * (c : Int) + 0).toNat).toNat (mc (48 * t + 4 * (c : Int) + 1).toNat - mc (48 * t + 4 * (c : Int) + 0).toNat).toNat 1)) ∧
  (t ≤ 5 → 0 ≤ er t.toNat ∧ er t.toNat ≤ 12) ∧
  (0 ≤ be t.toNat ∧ be t.toNat ≤ 40) ∧ ((0 ≤ gf t.toNat ∧ gf t.toNat ≤ 299) ∧ 0 ≤ gt t.toNat ∧ gt t.toNat ≤ 299) ∧ (0 ≤ wi t.toNat ∧ wi t.toNat ≤ 50)
def tx_ok (sg mc ms er be gf gt wi : Nat → Int) (tx : Nat → Int) : Prop :=
  ((0 ≤ tx 0 ∧ tx 0 ≤ 6) ∧ (0 ≤ tx 1 ∧ tx 1 ≤ 8) ∧ (0 ≤ tx 2 ∧ tx 2 ≤ 8) ∧ ∀ j : Nat, j < 22 → 0 ≤ gt j ∧ gt j ≤ 299) ∧
  ∀ t : Int, ((0 ≤ t ∧ t < tx 0) ∨ (6 ≤ t ∧ t < 6 + tx 1) ∨ (14 ≤ t ∧ t < 14 + tx 2)) → tx_t sg mc ms er be gf gt wi t
theorem ts_hs {σ : Nat → Int} {T : Int} (h : ts_said σ T) : (0 ≤ σ 1 ∧ σ 1 ≤ 24) ∧ (0 ≤ σ 2 ∧ σ 2 ≤ 40) ∧ (0 ≤ σ 3 ∧ σ 3 ≤ 60) ∧ (0 ≤ σ 4 ∧ σ 4 ≤ 10) ∧ (0 ≤ σ 7665 ∧ σ 7665 ≤ 8) := h.1.2
theorem ts_gl {σ : Nat → Int} {T : Int} (h : ts_said σ T) : ∀ r : Nat, r < 24 → 0 ≤ σ (9 + 3 * r) ∧ σ (9 + 3 * r) ≤ 3 := h.2.1
theorem ts_sl {σ : Nat → Int} {T : Int} (h : ts_said σ T) : ∀ k : Nat, k < 40 → (0 ≤ σ (82 + 4 * k) ∧ σ (82 + 4 * k) ≤ 299) ∧ (0 ≤ σ (83 + 4 * k) ∧ σ (83 + 4 * k) ≤ 299) := fun k hk => ⟨(h.2.2.1 k hk).1, (h.2.2.1 k hk).2.1⟩
theorem ts_slp {σ : Nat → Int} {T : Int} (h : ts_said σ T) : ∀ k : Nat, k < 40 → -9999 ≤ σ (84 + 4 * k) ∧ σ (84 + 4 * k) ≤ 9999 := fun k hk => (h.2.2.1 k hk).2.2
theorem ts_ln {σ : Nat → Int} {T : Int} (h : ts_said σ T) : ∀ l : Nat, l < 60 → 0 ≤ σ (242 + 3 * l) ∧ σ (242 + 3 * l) ≤ 299 := h.2.2.2.1
theorem ts_dp {σ : Nat → Int} {T : Int} (h : ts_said σ T) : ∀ l : Nat, (l : Int) < σ 3 → 1 ≤ σ (243 + 3 * l) := h.2.2.2.2.1
theorem ts_cd {σ : Nat → Int} {T : Int} (h : ts_said σ T) : ∀ c : Nat, c < 10 → 0 ≤ σ (421 + 2 * c) ∧ σ (421 + 2 * c) ≤ 3 := h.2.2.2.2.2.1
theorem ts_raw {σ : Nat → Int} {T : Int} (h : ts_said σ T) : ∀ k : Nat, k < 7200 → (σ (441 + k) = -1000000 ∨ (-100000 ≤ σ (441 + k) ∧ σ (441 + k) ≤ 100000)) := h.2.2.2.2.2.2.1
theorem ts_ho {σ : Nat → Int} {T : Int} (h : ts_said σ T) : ∀ q : Nat, (q : Int) < σ 7665 → 0 ≤ σ (7641 + 3 * q) ∧ σ (7641 + 3 * q) < T := h.2.2.2.2.2.2.2
