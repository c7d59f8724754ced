/-! ===== what class and reference have alike ===== -/
def rel (Γ : tk_G) (w : Nat) (σ : Nat → Int) : Prop :=
  (Γ (1, 0, w) 0 = σ 0 ∧ Γ (3, 0, w) 0 = σ 1 ∧ Γ (7, 40, w) 0 = σ 2 ∧ Γ (7, 60, w) 0 = σ 3 ∧ Γ (7, 10, w) 0 = σ 4) ∧
  (∀ j : Nat, j < 4 → Γ (2, 4, w) j = σ (5 + j)) ∧
  (∀ k : Nat, (k : Int) < σ 2 → Γ (8, 4 * 40, w) (4 * k + 3) = σ (84 + 4 * k)) ∧
  ∀ k : Nat, (k : Int) < σ 3 → Γ (8, 4 * 60, w) (4 * k) = σ (241 + 3 * k) ∧ Γ (8, 4 * 60, w) (4 * k + 1) = σ (242 + 3 * k)
theorem rel.congr {Γ Γ2 : tk_G} {w w2 : Nat} {σ ρ : Nat → Int} (h : rel Γ w σ) (hb : σ 2 ≤ 40 ∧ σ 3 ≤ 60) (e1 : ∀ k n, k < 39 → Γ2 (k, n, w2) = Γ (k, n, w)) (e2 : ∀ i : Nat, i < 441 → ρ i = σ i) : rel Γ2 w2 ρ := by
  obtain ⟨⟨a0, a1, a2, a3, a4⟩, h5, h6, h7⟩ := h
  refine ⟨⟨?_, ?_, ?_, ?_, ?_⟩, fun j hj => ?_, fun k hk => ?_, fun k hk => ?_⟩
  · rw [e1 _ _ (by decide), e2 _ (by omega)]; exact a0
  · rw [e1 _ _ (by decide), e2 _ (by omega)]; exact a1
  · rw [e1 _ _ (by decide), e2 _ (by omega)]; exact a2
  · rw [e1 _ _ (by decide), e2 _ (by omega)]; exact a3
  · rw [e1 _ _ (by decide), e2 _ (by omega)]; exact a4
  · rw [e1 _ _ (by decide), e2 _ (by omega)]; exact h5 j hj
  · rw [e2 2 (by omega)] at hk
    rw [e1 _ _ (by decide), e2 _ (by omega)]; exact h6 k hk
  · rw [e2 3 (by omega)] at hk
    rw [e1 _ _ (by decide), e2 _ (by omega), e2 _ (by omega)]; exact h7 k hk
def lqi (Γ : tk_G) (k : Nat) : Nat → Int := fun i => Γ (70, 30664, 0) (7666 * k + i)
def lq (Γ : tk_G) : Prop :=
  rel Γ 0 (Γ (40, 7666, 0)) ∧
  (∀ k : Nat, k < 4 → (Γ (12, 4, 0) k = 0 ∧ Γ (71, 4, 0) k = 0) ∨ ((Γ (12, 4, 0) k = 1 ∧ Γ (71, 4, 0) k = 1) ∧ rel Γ (k + 1) (lqi Γ k))) ∧
  ts_said (Γ (40, 7666, 0)) (Γ (42, 3, 0) 1) ∧ (∀ k : Nat, k < 4 → ts_said (lqi Γ k) (Γ (42, 3, 0) 1)) ∧
  tx_ok (Γ (43, 8800, 0)) (Γ (45, 1056, 0)) (Γ (46, 22, 0)) (Γ (47, 6, 0)) (Γ (48, 22, 0)) (Γ (49, 22, 0)) (Γ (50, 22, 0)) (Γ (51, 22, 0)) (Γ (42, 3, 0)) ∧ (0 ≤ Γ (39, 0, 0) 0 ∧ Γ (39, 0, 0) 0 ≤ 400)
theorem ts_said.b {σ : Nat → Int} {T : Int} (h : ts_said σ T) : σ 2 ≤ 40 ∧ σ 3 ≤ 60 := ⟨h.1.2.2.1.2, h.1.2.2.2.1.2⟩
/-- images stay -/
theorem lq.step {Γ G : tk_G} (h : lq Γ) (hc : ∀ k n w, k < 39 → (1 ≤ w ∨ k = 12) → G (k, n, w) = Γ (k, n, w)) (hmi : G (70, 30664, 0) = Γ (70, 30664, 0)) (hmd : G (71, 4, 0) = Γ (71, 4, 0)) (hr : rel G 0 (G (40, 7666, 0))) (hs : ts_said (G (40, 7666, 0)) (G (42, 3, 0) 1)) (ht : tx_ok (G (43, 8800, 0)) (G (45, 1056, 0)) (G (46, 22, 0)) (G (47, 6, 0)) (G (48, 22, 0)) (G (49, 22, 0)) (G (50, 22, 0)) (G (51, 22, 0)) (G (42, 3, 0))) (hT : Γ (42, 3, 0) 1 ≤ G (42, 3, 0) 1) (h0 : 0 ≤ G (39, 0, 0) 0 ∧ G (39, 0, 0) 0 ≤ 400) : lq G := by
  obtain ⟨_, h2, _, h4, _, _⟩ := h
  refine ⟨hr, fun k hk => ?_, hs, fun k hk => ?_, ht, h0⟩
  · rw [hc 12 4 0 (by decide) (Or.inr rfl), hmd]
    refine (h2 k hk).imp id (fun q => ⟨q.1, q.2.congr (h4 k hk).b (fun k2 n hk2 => hc k2 n (k + 1) hk2 (Or.inl (by omega))) (fun i _ => ?_)⟩)
    unfold lqi; rw [hmi]
  · have q := (h4 k hk).mono hT
    have e : lqi G k = lqi Γ k := by unfold lqi; rw [hmi]
    rw [e]; exact q
/-- the reference's own rows change, and none that is told -/
theorem lq.quiet {Γ G : tk_G} {ws : List Nat} (h : lq Γ) (hg : ∀ κ : tk_K, κ.1 ∉ ws → G κ = Γ κ) (hW : ∀ x ∈ ws, 39 ≤ x ∧ x ∉ [40, 70, 71, 42, 43, 45, 46, 47, 48, 49, 50, 51]) (h0 : 0 ≤ G (39, 0, 0) 0 ∧ G (39, 0, 0) 0 ≤ 400) : lq G := by
  have c : ∀ k n w, k < 39 → G (k, n, w) = Γ (k, n, w) := fun k n w hk => hg _ (fun q => absurd (hW k q).1 (by omega))
  have r : ∀ k n w, k ∈ [40, 70, 71, 42, 43, 45, 46, 47, 48, 49, 50, 51] → G (k, n, w) = Γ (k, n, w) := fun k n w hk => hg _ (fun q => (hW k q).2 hk)
  obtain ⟨h1, h2, h3, h4, h5, h6⟩ := id h
  have eS := r 40 7666 0 (by decide)
  have eT := r 42 3 0 (by decide)
  refine h.step (fun k n w hk _ => c k n w hk) (r _ _ _ (by decide)) (r _ _ _ (by decide)) ?_ ?_ ?_ ?_ h0
  · exact h1.congr h3.b (fun k n hk => c k n 0 hk) (fun i _ => by rw [eS])
  · rw [eS, eT]; exact h3
  · rw [r 43 8800 0 (by decide), r 45 1056 0 (by decide), r 46 22 0 (by decide), r 47 6 0 (by decide), r 48 22 0 (by decide), r 49 22 0 (by decide), r 50 22 0 (by decide), r 51 22 0 (by decide), eT]
    exact h5
  · rw [eT]; exact Int.le_refl _
/-- what is told changes, and the class's main book -/
theorem lq.told {Γ G1 G : tk_G} {ws : List Nat} (h : lq Γ) (hc : ∀ k n w, (39 ≤ k ∨ 1 ≤ w ∨ k = 12) → G1 (k, n, w) = Γ (k, n, w)) (hg : ∀ κ : tk_K, κ.1 ∉ ws → G κ = G1 κ) (hW : ∀ x ∈ ws, 39 ≤ x ∧ x ∉ [70, 71, 42, 43, 45, 46, 47, 48, 49, 50, 51]) (h0 : G (39, 0, 0) 0 = Γ (39, 0, 0) 0) (hr : rel G1 0 (G (40, 7666, 0))) (hs : ts_said (G (40, 7666, 0)) (Γ (42, 3, 0) 1)) : lq G := by
  have c : ∀ k n w, k < 39 → G (k, n, w) = G1 (k, n, w) := fun k n w hk => hg _ (fun q => absurd (hW k q).1 (by omega))
  have r : ∀ k n w, k ∈ [70, 71, 42, 43, 45, 46, 47, 48, 49, 50, 51] → G (k, n, w) = Γ (k, n, w) := fun k n w hk => (hg _ (fun q => (hW k q).2 hk)).trans (hc k n w (Or.inl (by revert hk; revert k; decide)))
  obtain ⟨h1, h2, h3, h4, h5, h6⟩ := id h
  have eT := r 42 3 0 (by decide)
  refine h.step (fun k n w hk q => (c k n w hk).trans (hc k n w (Or.inr q))) (r _ _ _ (by decide)) (r _ _ _ (by decide)) ?_ ?_ ?_ ?_ ?_
  · exact hr.congr hs.b (fun k n hk => c k n 0 hk) (fun i _ => rfl)
  · rw [eT]; exact hs
  · rw [r 43 8800 0 (by decide), r 45 1056 0 (by decide), r 46 22 0 (by decide), r 47 6 0 (by decide), r 48 22 0 (by decide), r 49 22 0 (by decide), r 50 22 0 (by decide), r 51 22 0 (by decide), eT]
    exact h5
  · rw [eT]; exact Int.le_refl _
  · rw [h0]; exact h6
theorem tg_nf {Γ : tk_G} {κ κ2 : tk_K} {j : Nat} {v : Int} (h : ¬ κ2 = κ) : tg Γ κ j v κ2 = Γ κ2 := funext fun _ => tg_n h
theorem lq_ne {k n w k2 n2 : Nat} (hk2 : k2 < 39 ∧ k2 ≠ 12) (h : 39 ≤ k ∨ 1 ≤ w ∨ k = 12) : ¬ ((k, n, w) : tk_K) = (k2, n2, 0) := by
  intro q
  have e1 : k = k2 := congrArg (fun z : tk_K => z.1) q
  have e2 : w = 0 := congrArg (fun z : tk_K => z.2.2) q
  omega
theorem lq_tg {Γ : tk_G} {k2 n2 j : Nat} {v : Int} (hk2 : k2 < 39 ∧ k2 ≠ 12) : ∀ k n w, (39 ≤ k ∨ 1 ≤ w ∨ k = 12) → tg Γ (k2, n2, 0) j v (k, n, w) = Γ (k, n, w) := fun _ _ _ h => tg_nf (lq_ne hk2 h)
theorem lq_tgc {Γ : tk_G} {k2 n2 : Nat} {γ : Nat → Int} (hk2 : k2 < 39 ∧ k2 ≠ 12) : ∀ k n w, (39 ≤ k ∨ 1 ≤ w ∨ k = 12) → tgc Γ (k2, n2, 0) γ (k, n, w) = Γ (k, n, w) := fun _ _ _ h => tgc_n (lq_ne hk2 h)
theorem lq_add {Γ : tk_G} {n nc : Nat} {m a b c d : Int} : ∀ k n2 w, (39 ≤ k ∨ 1 ≤ w ∨ k = 12) → tm_add Γ (7, n, 0) (8, nc, 0) m a b c d (k, n2, w) = Γ (k, n2, w) := by
  intro k n2 w h
  unfold tm_add
  by_cases q : Γ (7, n, 0) 0 < m
  · rw [if_pos q, lq_tgc (by decide) k n2 w h, lq_tg (by decide) k n2 w h]
  · rw [if_neg q]
theorem tm_if_at {P : Prop} {X Y : tk_G} {κ : tk_K} (h : X κ = Y κ) : tm_if P X Y κ = Y κ := by
  by_cases q : P
  · rw [tm_if_t q]; exact h
  · rw [tm_if_f q]
theorem lq.same {Γ G : tk_G} (h : lq Γ) (e : G = Γ) : lq G := e ▸ h
/-! ===== call by call ===== -/
theorem s_clock {Γ G1 G : tk_G} {p : Int} (h : lq Γ) (e1 : G1 = if 0 ≤ p ∧ p ≤ 399 ∧ Γ (1, 0, 0) 0 ≤ p then tg Γ (1, 0, 0) 0 p else Γ) (hg : ∀ κ : tk_K, κ.1 ∉ ([40] : List Nat) → G κ = G1 κ) (hw : G (40, 7666, 0) = if G1 (40, 7666, 0) 0 ≤ p ∧ p ≤ 399 then tgu (G1 (40, 7666, 0)) 0 p else G1 (40, 7666, 0)) : lq G ∧ ((0 ≤ p ∧ p ≤ 399 ∧ Γ (1, 0, 0) 0 ≤ p) ↔ (G1 (40, 7666, 0) 0 ≤ p ∧ p ≤ 399)) := by
  obtain ⟨⟨⟨a0, a1, a2, a3, a4⟩, r5, r6, r7⟩, h2, h3, h4, h5, h6⟩ := id h
  have hc : ∀ k n w, (39 ≤ k ∨ 1 ≤ w ∨ k = 12) → G1 (k, n, w) = Γ (k, n, w) := by
    intro k n w q
    rw [e1]
    split
    · exact lq_tg (by decide) k n w q
    · rfl
  have eS : G1 (40, 7666, 0) = Γ (40, 7666, 0) := hc _ _ _ (Or.inl (by decide))
  have b0 := h3.1.1
  rw [eS] at hw ⊢
  have h0 : G (39, 0, 0) 0 = Γ (39, 0, 0) 0 := by rw [hg _ (by decide), hc _ _ _ (Or.inl (by decide))]
  by_cases q : Γ (40, 7666, 0) 0 ≤ p ∧ p ≤ 399
  · rw [if_pos (by omega)] at e1
    rw [if_pos q] at hw
    refine ⟨h.told hc hg (by decide) h0 ?_ ?_, by omega⟩
    · rw [hw, e1]
      refine ⟨⟨by rw [tg_s, tgu_s], ?_, ?_, ?_, ?_⟩, fun j hj => ?_, fun k hk => ?_, fun k hk => ?_⟩
      · rw [tg_r (by decide), tgu_n (by decide)]; exact a1
      · rw [tg_r (by decide), tgu_n (by decide)]; exact a2
      · rw [tg_r (by decide), tgu_n (by decide)]; exact a3
      · rw [tg_r (by decide), tgu_n (by decide)]; exact a4
      · rw [tg_r (by decide), tgu_n (by omega)]; exact r5 j hj
      · rw [tgu_n (by decide)] at hk
        rw [tg_r (by decide), tgu_n (by omega)]; exact r6 k hk
      · rw [tgu_n (by decide)] at hk
        rw [tg_r (by decide), tg_r (by decide), tgu_n (by omega), tgu_n (by omega)]; exact r7 k hk
    · rw [hw]
      exact h3.put (fun _ => by omega) (fun q => by omega) (fun q => by omega) (fun q => by omega) (fun q => by omega) (fun q => by omega) (fun _ _ q => by omega) (fun _ _ => ⟨fun q => by omega, fun q => by omega⟩) (fun _ _ => ⟨fun q => by omega, fun q => by omega⟩) (fun _ _ q => by omega) (fun _ _ q => by omega) (fun _ _ q => by omega)
  · rw [if_neg (by omega)] at e1
    rw [if_neg q] at hw
    refine ⟨h.told hc hg (by decide) h0 ?_ ?_, by omega⟩
    · rw [hw, e1]; exact h.1
    · rw [hw]; exact h3
/-- told bounds: a number that says nothing else than what it is -/
theorem ts_any {σ : Nat → Int} {T v : Int} {i : Nat} (h : ts_said σ T) (h1 : 5 ≤ i) (h2 : i < 9 ∨ (9 ≤ i ∧ i < 81 ∧ ¬ i % 3 = 0) ∨ (81 ≤ i ∧ i < 241 ∧ i % 4 = 1) ∨ (241 ≤ i ∧ i < 421 ∧ i % 3 = 1) ∨ (421 ≤ i ∧ i < 441 ∧ i % 2 = 0) ∨ (7641 ≤ i ∧ i < 7665 ∧ ¬ i % 3 = 0)) : ts_said (tgu σ i v) T :=
  h.put (fun q => by omega) (fun q => by omega) (fun q => by omega) (fun q => by omega) (fun q => by omega) (fun q => by omega) (fun _ _ q => by omega) (fun _ _ => ⟨fun q => by omega, fun q => by omega⟩) (fun _ _ => ⟨fun q => by omega, fun q => by omega⟩) (fun _ _ q => by omega) (fun _ _ q => by omega) (fun _ _ q => by omega)
theorem s_told {Γ G1 G : tk_G} {p v : Int} (h : lq Γ) (e1 : G1 = if (0 ≤ p ∧ p ≤ 3) ∧ 0 ≤ v ∧ v ≤ 9999 then tg Γ (2, 4, 0) p.toNat v else Γ) (hg : ∀ κ : tk_K, κ.1 ∉ ([40] : List Nat) → G κ = G1 κ) (hw : G (40, 7666, 0) = if (0 ≤ p ∧ p ≤ 3) ∧ 0 ≤ v ∧ v ≤ 9999 then tgu (G1 (40, 7666, 0)) (5 + p).toNat v else G1 (40, 7666, 0)) : lq G ∧ (if (0 ≤ p ∧ p ≤ 3) ∧ 0 ≤ v ∧ v ≤ 9999 then Γ (2, 4, 0) p.toNat else -1) = (if (0 ≤ p ∧ p ≤ 3) ∧ 0 ≤ v ∧ v ≤ 9999 then G1 (40, 7666, 0) (5 + p).toNat else -1) := by
  obtain ⟨⟨⟨a0, a1, a2, a3, a4⟩, r5, r6, r7⟩, h2, h3, h4, h5, h6⟩ := id h
  have hc : ∀ k n w, (39 ≤ k ∨ 1 ≤ w ∨ k = 12) → G1 (k, n, w) = Γ (k, n, w) := by
    intro k n w q
    rw [e1]
    split
    · exact lq_tg (by decide) k n w q
    · rfl
  have eS : G1 (40, 7666, 0) = Γ (40, 7666, 0) := hc _ _ _ (Or.inl (by decide))
  rw [eS] at hw ⊢
  have h0 : G (39, 0, 0) 0 = Γ (39, 0, 0) 0 := by rw [hg _ (by decide), hc _ _ _ (Or.inl (by decide))]
  have hv : (0 ≤ p ∧ p ≤ 3) ∧ 0 ≤ v ∧ v ≤ 9999 → Γ (2, 4, 0) p.toNat = Γ (40, 7666, 0) (5 + p).toNat := fun q => by rw [show (5 + p).toNat = 5 + p.toNat from by omega]; exact r5 _ (by omega)
  refine ⟨?_, ?_⟩
  rotate_left
  · by_cases q : (0 ≤ p ∧ p ≤ 3) ∧ 0 ≤ v ∧ v ≤ 9999
    · rw [if_pos q, if_pos q]; exact hv q
    · rw [if_neg q, if_neg q]
  by_cases q : (0 ≤ p ∧ p ≤ 3) ∧ 0 ≤ v ∧ v ≤ 9999
  · rw [if_pos q] at e1 hw
    refine h.told hc hg (by decide) h0 ?_ ?_
    · rw [hw, e1]
      refine ⟨⟨?_, ?_, ?_, ?_, ?_⟩, fun j hj => ?_, fun k hk => ?_, fun k hk => ?_⟩
      · rw [tg_r (by decide), tgu_n (by omega)]; exact a0
      · rw [tg_r (by decide), tgu_n (by omega)]; exact a1
      · rw [tg_r (by decide), tgu_n (by omega)]; exact a2
      · rw [tg_r (by decide), tgu_n (by omega)]; exact a3
      · rw [tg_r (by decide), tgu_n (by omega)]; exact a4
      · by_cases e : j = p.toNat
        · rw [e, tg_s, show 5 + p.toNat = (5 + p).toNat from by omega, tgu_s]
        · rw [tg_i e, tgu_n (by omega)]; exact r5 j hj
      · rw [tgu_n (by omega)] at hk
        rw [tg_r (by decide), tgu_n (by omega)]; exact r6 k hk
      · rw [tgu_n (by omega)] at hk
        rw [tg_r (by decide), tg_r (by decide), tgu_n (by omega), tgu_n (by omega)]; exact r7 k hk
    · rw [hw]; exact ts_any h3 (by omega) (Or.inl (by omega))
  · rw [if_neg q] at e1 hw
    refine h.told hc hg (by decide) h0 ?_ ?_
    · rw [hw, e1]; exact h.1
    · rw [hw]; exact h3
theorem s_anew {Γ G1 G : tk_G} {p v : Int} (h : lq Γ) (e1 : G1 = if (0 ≤ p ∧ p < Γ (7, 40, 0) 0) ∧ -9999 ≤ v ∧ v ≤ 9999 then tg Γ (8, 4 * 40, 0) (4 * p + 3).toNat v else Γ) (hg : ∀ κ : tk_K, κ.1 ∉ ([40] : List Nat) → G κ = G1 κ) (hw : G (40, 7666, 0) = if (0 ≤ p ∧ p < G1 (40, 7666, 0) 2) ∧ -9999 ≤ v ∧ v ≤ 9999 then tgu (G1 (40, 7666, 0)) (81 + 4 * p + 3).toNat v else G1 (40, 7666, 0)) : lq G ∧ (if (0 ≤ p ∧ p < Γ (7, 40, 0) 0) ∧ -9999 ≤ v ∧ v ≤ 9999 then Γ (8, 4 * 40, 0) (4 * p + 3).toNat else -2000000) = (if (0 ≤ p ∧ p < G1 (40, 7666, 0) 2) ∧ -9999 ≤ v ∧ v ≤ 9999 then G1 (40, 7666, 0) (81 + 4 * p + 3).toNat else -2000000) := by
  obtain ⟨⟨⟨a0, a1, a2, a3, a4⟩, r5, r6, r7⟩, h2, h3, h4, h5, h6⟩ := id h
  have hc : ∀ k n w, (39 ≤ k ∨ 1 ≤ w ∨ k = 12) → G1 (k, n, w) = Γ (k, n, w) := by
    intro k n w q
    rw [e1]
    split
    · exact lq_tg (by decide) k n w q
    · rfl
  have eS : G1 (40, 7666, 0) = Γ (40, 7666, 0) := hc _ _ _ (Or.inl (by decide))
  have b2 := h3.1.2.2.1
  have b3 := h3.1.2.2.2.1
  rw [eS] at hw ⊢
  have h0 : G (39, 0, 0) 0 = Γ (39, 0, 0) 0 := by rw [hg _ (by decide), hc _ _ _ (Or.inl (by decide))]
  refine ⟨?_, ?_⟩
  · rw [a2] at e1
    by_cases q : (0 ≤ p ∧ p < Γ (40, 7666, 0) 2) ∧ -9999 ≤ v ∧ v ≤ 9999
    · rw [if_pos q] at e1 hw
      refine h.told hc hg (by decide) h0 ?_ ?_
      · rw [hw, e1]
        refine ⟨⟨?_, ?_, ?_, ?_, ?_⟩, fun j hj => ?_, fun k hk => ?_, fun k hk => ?_⟩
        · rw [tg_r (by decide), tgu_n (by omega)]; exact a0
        · rw [tg_r (by decide), tgu_n (by omega)]; exact a1
        · rw [tg_r (by decide), tgu_n (by omega)]; exact a2
        · rw [tg_r (by decide), tgu_n (by omega)]; exact a3
        · rw [tg_r (by decide), tgu_n (by omega)]; exact a4
        · rw [tg_r (by decide), tgu_n (by omega)]; exact r5 j hj
        · rw [tgu_n (by omega)] at hk
          by_cases e : (k : Int) = p
          · rw [show 4 * k + 3 = (4 * p + 3).toNat from by omega, tg_s, show 84 + 4 * k = (81 + 4 * p + 3).toNat from by omega, tgu_s]
          · rw [tg_i (by omega), tgu_n (by omega)]; exact r6 k hk
        · rw [tgu_n (by omega)] at hk
          rw [tg_nf (by decide), tgu_n (by omega), tgu_n (by omega)]; exact r7 k hk
      · rw [hw]
        exact h3.put (fun q => by omega) (fun q => by omega) (fun q => by omega) (fun q => by omega) (fun q => by omega) (fun q => by omega) (fun _ _ q => by omega) (fun _ _ => ⟨fun q => by omega, fun q => by omega⟩) (fun _ _ => ⟨fun q => by omega, fun q => by omega⟩) (fun _ _ q => by omega) (fun _ _ q => by omega) (fun _ _ q => by omega)
    · rw [if_neg q] at e1 hw
      refine h.told hc hg (by decide) h0 ?_ ?_
      · rw [hw, e1]; exact h.1
      · rw [hw]; exact h3
  · rw [a2]
    by_cases q : (0 ≤ p ∧ p < Γ (40, 7666, 0) 2) ∧ -9999 ≤ v ∧ v ≤ 9999
    · have e := r6 p.toNat (by omega)
      rw [show 4 * p.toNat + 3 = (4 * p + 3).toNat from by omega, show 84 + 4 * p.toNat = (81 + 4 * p + 3).toNat from by omega] at e
      rw [if_pos q, if_pos q]; exact e
    · rw [if_neg q, if_neg q]

theorem tm_row_0 {γ : Nat → Int} {x a b c d : Int} (h : 0 ≤ x) : tm_row γ x a b c d (4 * x.toNat) = a := by
  unfold tm_row
  rw [if_neg (by omega), if_neg (by omega), if_neg (by omega), if_pos (by omega)]
theorem tm_row_1 {γ : Nat → Int} {x a b c d : Int} (h : 0 ≤ x) : tm_row γ x a b c d (4 * x.toNat + 1) = b := by
  unfold tm_row
  rw [if_neg (by omega), if_neg (by omega), if_pos (by omega)]
theorem tm_row_3 {γ : Nat → Int} {x a b c d : Int} (h : 0 ≤ x) : tm_row γ x a b c d (4 * x.toNat + 3) = d := by
  unfold tm_row
  rw [if_pos (by omega)]
theorem tm_row_n {γ : Nat → Int} {x a b c d : Int} {i : Nat} (h : (i : Int) < 4 * x ∨ 4 * x + 4 ≤ i) (h0 : 0 ≤ x) : tm_row γ x a b c d i = γ i := by
  unfold tm_row
  rw [if_neg (by omega), if_neg (by omega), if_neg (by omega), if_neg (by omega)]
/-- an entry more in a table of the class -/
theorem tm_add_t {Γ : tk_G} {n nc : Nat} {m a b c d : Int} (h : Γ (7, n, 0) 0 < m) : tm_add Γ (7, n, 0) (8, nc, 0) m a b c d = tgc (tg Γ (7, n, 0) 0 (Γ (7, n, 0) 0 + 1)) (8, nc, 0) (tm_row (Γ (8, nc, 0)) (Γ (7, n, 0) 0) a b c d) := if_pos h
theorem tm_add_f {Γ : tk_G} {κ κc : tk_K} {m a b c d : Int} (h : ¬ Γ κ 0 < m) : tm_add Γ κ κc m a b c d = Γ := if_neg h
theorem s_slip {Γ G1 G : tk_G} {p q v x : Int} (h : lq Γ) (e1 : G1 = if (0 ≤ p ∧ p ≤ 3) ∧ (0 ≤ q ∧ q ≤ 299) ∧ (0 ≤ v ∧ v ≤ 299) ∧ q ≤ v ∧ -9999 ≤ x ∧ x ≤ 9999 then tm_add Γ (7, 40, 0) (8, 4 * 40, 0) 40 p q v x else Γ) (hg : ∀ κ : tk_K, κ.1 ∉ ([40] : List Nat) → G κ = G1 κ)
    (hw : G (40, 7666, 0) = if ¬ G1 (40, 7666, 0) 2 = 40 ∧ (0 ≤ p ∧ p ≤ 3) ∧ (0 ≤ q ∧ q ≤ 299) ∧ (0 ≤ v ∧ v ≤ 299) ∧ q ≤ v ∧ -9999 ≤ x ∧ x ≤ 9999 then tgu (tgu (tgu (tgu (tgu (G1 (40, 7666, 0)) (81 + 4 * G1 (40, 7666, 0) 2 + 0).toNat p) (81 + 4 * G1 (40, 7666, 0) 2 + 1).toNat q) (81 + 4 * G1 (40, 7666, 0) 2 + 2).toNat v) (81 + 4 * G1 (40, 7666, 0) 2 + 3).toNat x) 2 (G1 (40, 7666, 0) 2 + 1) else G1 (40, 7666, 0)) :
    lq G ∧ (if (0 ≤ p ∧ p ≤ 3) ∧ (0 ≤ q ∧ q ≤ 299) ∧ (0 ≤ v ∧ v ≤ 299) ∧ q ≤ v ∧ -9999 ≤ x ∧ x ≤ 9999 then tm_at 40 (Γ (7, 40, 0) 0) else -1) = (if ¬ G1 (40, 7666, 0) 2 = 40 ∧ (0 ≤ p ∧ p ≤ 3) ∧ (0 ≤ q ∧ q ≤ 299) ∧ (0 ≤ v ∧ v ≤ 299) ∧ q ≤ v ∧ -9999 ≤ x ∧ x ≤ 9999 then G1 (40, 7666, 0) 2 else -1) := by
  obtain ⟨⟨⟨a0, a1, a2, a3, a4⟩, r5, r6, r7⟩, h2, h3, h4, h5, h6⟩ := id h
  have hc : ∀ k n w, (39 ≤ k ∨ 1 ≤ w ∨ k = 12) → G1 (k, n, w) = Γ (k, n, w) := by
    intro k n w z
    rw [e1]
    split
    · exact lq_add k n w z
    · rfl
  have eS : G1 (40, 7666, 0) = Γ (40, 7666, 0) := hc _ _ _ (Or.inl (by decide))
  have b2 := h3.1.2.2.1
  have b3 := h3.1.2.2.2.1
  rw [eS] at hw ⊢
  have h0 : G (39, 0, 0) 0 = Γ (39, 0, 0) 0 := by rw [hg _ (by decide), hc _ _ _ (Or.inl (by decide))]
  by_cases z : (0 ≤ p ∧ p ≤ 3) ∧ (0 ≤ q ∧ q ≤ 299) ∧ (0 ≤ v ∧ v ≤ 299) ∧ q ≤ v ∧ -9999 ≤ x ∧ x ≤ 9999
  · by_cases y : Γ (40, 7666, 0) 2 = 40
    · rw [if_pos z, tm_add_f (by rw [a2]; omega)] at e1
      rw [if_neg (by omega)] at hw
      refine ⟨h.told hc hg (by decide) h0 (by rw [hw, e1]; exact h.1) (by rw [hw]; exact h3), ?_⟩
      rw [if_pos z, if_neg (by omega), a2, tm_at_ge (by omega)]
    · rw [if_pos z, tm_add_t (by rw [a2]; omega), a2] at e1
      rw [if_pos ⟨y, z⟩] at hw
      refine ⟨h.told hc hg (by decide) h0 ?_ ?_, by rw [if_pos z, if_pos ⟨y, z⟩, a2, tm_at_lt (by omega)]⟩
      · rw [hw, e1]
        refine ⟨⟨?_, ?_, ?_, ?_, ?_⟩, fun j hj => ?_, fun k hk => ?_, fun k hk => ?_⟩
        · rw [tgc_n (by decide), tg_r (by decide), tgu_n (by omega), tgu_n (by omega), tgu_n (by omega), tgu_n (by omega), tgu_n (by omega)]; exact a0
        · rw [tgc_n (by decide), tg_r (by decide), tgu_n (by omega), tgu_n (by omega), tgu_n (by omega), tgu_n (by omega), tgu_n (by omega)]; exact a1
        · rw [tgc_n (by decide), tg_s, tgu_s]
        · rw [tgc_n (by decide), tg_nf (by decide), tgu_n (by omega), tgu_n (by omega), tgu_n (by omega), tgu_n (by omega), tgu_n (by omega)]; exact a3
        · rw [tgc_n (by decide), tg_nf (by decide), tgu_n (by omega), tgu_n (by omega), tgu_n (by omega), tgu_n (by omega), tgu_n (by omega)]; exact a4
        · rw [tgc_n (by decide), tg_r (by decide), tgu_n (by omega), tgu_n (by omega), tgu_n (by omega), tgu_n (by omega), tgu_n (by omega)]; exact r5 j hj
        · rw [tgu_s] at hk
          rw [tgc_s]
          by_cases e : (k : Int) = Γ (40, 7666, 0) 2
          · rw [show 4 * k + 3 = 4 * (Γ (40, 7666, 0) 2).toNat + 3 from by omega, tm_row_3 (by omega), tgu_n (by omega), show 84 + 4 * k = (81 + 4 * Γ (40, 7666, 0) 2 + 3).toNat from by omega, tgu_s]
          · rw [tm_row_n (by omega) (by omega), tgu_n (by omega), tgu_n (by omega), tgu_n (by omega), tgu_n (by omega), tgu_n (by omega)]; exact r6 k (by omega)
        · rw [tgu_n (by omega), tgu_n (by omega), tgu_n (by omega), tgu_n (by omega), tgu_n (by omega)] at hk
          rw [tgc_n (by decide), tg_r (by decide), tg_r (by decide)]
          rw [tgu_n (by omega), tgu_n (by omega), tgu_n (by omega), tgu_n (by omega), tgu_n (by omega)]
          rw [tgu_n (by omega), tgu_n (by omega), tgu_n (by omega), tgu_n (by omega), tgu_n (by omega)]
          exact r7 k hk
      · rw [hw]
        have k1 : ts_said (tgu (Γ (40, 7666, 0)) (81 + 4 * Γ (40, 7666, 0) 2 + 0).toNat p) (Γ (42, 3, 0) 1) := ts_any h3 (by omega) (by omega)
        have k2 : ts_said (tgu (tgu (Γ (40, 7666, 0)) (81 + 4 * Γ (40, 7666, 0) 2 + 0).toNat p) (81 + 4 * Γ (40, 7666, 0) 2 + 1).toNat q) (Γ (42, 3, 0) 1) := k1.put (fun z => by omega) (fun z => by omega) (fun z => by omega) (fun z => by omega) (fun z => by omega) (fun z => by omega) (fun _ _ z => by omega) (fun _ _ => ⟨fun z => by omega, fun z => by omega⟩) (fun _ _ => ⟨fun z => by omega, fun z => by omega⟩) (fun _ _ z => by omega) (fun _ _ z => by omega) (fun _ _ z => by omega)
        have k3 : ts_said (tgu (tgu (tgu (Γ (40, 7666, 0)) (81 + 4 * Γ (40, 7666, 0) 2 + 0).toNat p) (81 + 4 * Γ (40, 7666, 0) 2 + 1).toNat q) (81 + 4 * Γ (40, 7666, 0) 2 + 2).toNat v) (Γ (42, 3, 0) 1) := k2.put (fun z => by omega) (fun z => by omega) (fun z => by omega) (fun z => by omega) (fun z => by omega) (fun z => by omega) (fun _ _ z => by omega) (fun _ _ => ⟨fun z => by omega, fun z => by omega⟩) (fun _ _ => ⟨fun z => by omega, fun z => by omega⟩) (fun _ _ z => by omega) (fun _ _ z => by omega) (fun _ _ z => by omega)
        have k4 : ts_said (tgu (tgu (tgu (tgu (Γ (40, 7666, 0)) (81 + 4 * Γ (40, 7666, 0) 2 + 0).toNat p) (81 + 4 * Γ (40, 7666, 0) 2 + 1).toNat q) (81 + 4 * Γ (40, 7666, 0) 2 + 2).toNat v) (81 + 4 * Γ (40, 7666, 0) 2 + 3).toNat x) (Γ (42, 3, 0) 1) := k3.put (fun z => by omega) (fun z => by omega) (fun z => by omega) (fun z => by omega) (fun z => by omega) (fun z => by omega) (fun _ _ z => by omega) (fun _ _ => ⟨fun z => by omega, fun z => by omega⟩) (fun _ _ => ⟨fun z => by omega, fun z => by omega⟩) (fun _ _ z => by omega) (fun _ _ z => by omega) (fun _ _ z => by omega)
        exact k4.put (fun z => by omega) (fun z => by omega) (fun _ => by omega) (fun z => by omega) (fun z => by omega) (fun z => by omega) (fun _ _ z => by omega) (fun _ _ => ⟨fun z => by omega, fun z => by omega⟩) (fun _ _ => ⟨fun z => by omega, fun z => by omega⟩) (fun _ _ z => by omega) (fun _ _ z => by omega) (fun _ _ z => by omega)
  · rw [if_neg z] at e1
    rw [if_neg (fun y => z y.2)] at hw
    refine ⟨h.told hc hg (by decide) h0 (by rw [hw, e1]; exact h.1) (by rw [hw]; exact h3), ?_⟩
    rw [if_neg z, if_neg (fun y => z y.2)]
theorem s_candidate {Γ G1 G : tk_G} {p q : Int} (h : lq Γ) (e1 : G1 = if (0 ≤ p ∧ p ≤ 3) ∧ 1 ≤ q ∧ q ≤ 99 then tm_add Γ (7, 10, 0) (8, 4 * 10, 0) 10 p q 0 0 else Γ) (hg : ∀ κ : tk_K, κ.1 ∉ ([40] : List Nat) → G κ = G1 κ)
    (hw : G (40, 7666, 0) = if ¬ G1 (40, 7666, 0) 4 = 10 ∧ (0 ≤ p ∧ p ≤ 3) ∧ 1 ≤ q ∧ q ≤ 99 then tgu (tgu (tgu (G1 (40, 7666, 0)) (421 + 2 * G1 (40, 7666, 0) 4 + 0).toNat p) (421 + 2 * G1 (40, 7666, 0) 4 + 1).toNat q) 4 (G1 (40, 7666, 0) 4 + 1) else G1 (40, 7666, 0)) :
    lq G ∧ (if (0 ≤ p ∧ p ≤ 3) ∧ 1 ≤ q ∧ q ≤ 99 then tm_at 10 (Γ (7, 10, 0) 0) else -1) = (if ¬ G1 (40, 7666, 0) 4 = 10 ∧ (0 ≤ p ∧ p ≤ 3) ∧ 1 ≤ q ∧ q ≤ 99 then G1 (40, 7666, 0) 4 else -1) := by
  obtain ⟨⟨⟨a0, a1, a2, a3, a4⟩, r5, r6, r7⟩, h2, h3, h4, h5, h6⟩ := id h
  have hc : ∀ k n w, (39 ≤ k ∨ 1 ≤ w ∨ k = 12) → G1 (k, n, w) = Γ (k, n, w) := by
    intro k n w z
    rw [e1]
    split
    · exact lq_add k n w z
    · rfl
  have eS : G1 (40, 7666, 0) = Γ (40, 7666, 0) := hc _ _ _ (Or.inl (by decide))
  have b2 := h3.1.2.2.1
  have b3 := h3.1.2.2.2.1
  have b4 := h3.1.2.2.2.2.1
  rw [eS] at hw ⊢
  have h0 : G (39, 0, 0) 0 = Γ (39, 0, 0) 0 := by rw [hg _ (by decide), hc _ _ _ (Or.inl (by decide))]
  by_cases z : (0 ≤ p ∧ p ≤ 3) ∧ 1 ≤ q ∧ q ≤ 99
  · by_cases y : Γ (40, 7666, 0) 4 = 10
    · rw [if_pos z, tm_add_f (by rw [a4]; omega)] at e1
      rw [if_neg (by omega)] at hw
      refine ⟨h.told hc hg (by decide) h0 (by rw [hw, e1]; exact h.1) (by rw [hw]; exact h3), ?_⟩
      rw [if_pos z, if_neg (by omega), a4, tm_at_ge (by omega)]
    · rw [if_pos z, tm_add_t (by rw [a4]; omega), a4] at e1
      rw [if_pos ⟨y, z⟩] at hw
      refine ⟨h.told hc hg (by decide) h0 ?_ ?_, by rw [if_pos z, if_pos ⟨y, z⟩, a4, tm_at_lt (by omega)]⟩
      · rw [hw, e1]
        refine ⟨⟨?_, ?_, ?_, ?_, ?_⟩, fun j hj => ?_, fun k hk => ?_, fun k hk => ?_⟩
        · rw [tgc_n (by decide), tg_r (by decide), tgu_n (by omega), tgu_n (by omega), tgu_n (by omega)]; exact a0
        · rw [tgc_n (by decide), tg_r (by decide), tgu_n (by omega), tgu_n (by omega), tgu_n (by omega)]; exact a1
        · rw [tgc_n (by decide), tg_nf (by decide), tgu_n (by omega), tgu_n (by omega), tgu_n (by omega)]; exact a2
        · rw [tgc_n (by decide), tg_nf (by decide), tgu_n (by omega), tgu_n (by omega), tgu_n (by omega)]; exact a3
        · rw [tgc_n (by decide), tg_s, tgu_s]
        · rw [tgc_n (by decide), tg_r (by decide), tgu_n (by omega), tgu_n (by omega), tgu_n (by omega)]; exact r5 j hj
        · rw [tgu_n (by omega), tgu_n (by omega), tgu_n (by omega)] at hk
          rw [tgc_n (by decide), tg_r (by decide), tgu_n (by omega), tgu_n (by omega), tgu_n (by omega)]; exact r6 k hk
        · rw [tgu_n (by omega), tgu_n (by omega), tgu_n (by omega)] at hk
          rw [tgc_n (by decide), tg_r (by decide), tg_r (by decide)]
          rw [tgu_n (by omega), tgu_n (by omega), tgu_n (by omega)]
          rw [tgu_n (by omega), tgu_n (by omega), tgu_n (by omega)]
          exact r7 k hk
      · rw [hw]
        have k1 : ts_said (tgu (Γ (40, 7666, 0)) (421 + 2 * Γ (40, 7666, 0) 4 + 0).toNat p) (Γ (42, 3, 0) 1) := h3.put (fun z => by omega) (fun z => by omega) (fun z => by omega) (fun z => by omega) (fun z => by omega) (fun z => by omega) (fun _ _ z => by omega) (fun _ _ => ⟨fun z => by omega, fun z => by omega⟩) (fun _ _ => ⟨fun z => by omega, fun z => by omega⟩) (fun _ _ z => by omega) (fun _ _ z => by omega) (fun _ _ z => by omega)
        have k2 : ts_said (tgu (tgu (Γ (40, 7666, 0)) (421 + 2 * Γ (40, 7666, 0) 4 + 0).toNat p) (421 + 2 * Γ (40, 7666, 0) 4 + 1).toNat q) (Γ (42, 3, 0) 1) := ts_any k1 (by omega) (by omega)
        exact k2.put (fun z => by omega) (fun z => by omega) (fun z => by omega) (fun z => by omega) (fun _ => by omega) (fun z => by omega) (fun _ _ z => by omega) (fun _ _ => ⟨fun z => by omega, fun z => by omega⟩) (fun _ _ => ⟨fun z => by omega, fun z => by omega⟩) (fun _ _ z => by omega) (fun _ _ z => by omega) (fun _ _ z => by omega)
  · rw [if_neg z] at e1
    rw [if_neg (fun y => z y.2)] at hw
    refine ⟨h.told hc hg (by decide) h0 (by rw [hw, e1]; exact h.1) (by rw [hw]; exact h3), ?_⟩
    rw [if_neg z, if_neg (fun y => z y.2)]
theorem rel_far {Γ : tk_G} {σ ρ : Nat → Int} {w : Nat} (h : rel Γ w σ) (hb : σ 2 ≤ 40 ∧ σ 3 ≤ 60) (e : ∀ i : Nat, i < 441 → ρ i = σ i) : rel Γ w ρ := h.congr hb (fun _ _ _ => rfl) e
theorem s_house {Γ G : tk_G} {p q v : Int} (h : lq Γ) (hg : ∀ κ : tk_K, κ.1 ∉ ([40] : List Nat) → G κ = Γ κ)
    (hw : G (40, 7666, 0) = if ¬ Γ (40, 7666, 0) 7665 = 8 ∧ (0 ≤ p ∧ p < Γ (42, 3, 0) 1) ∧ (-999999 ≤ q ∧ q ≤ 999999) ∧ 1 ≤ v ∧ v ≤ 15 then tgu (tgu (tgu (tgu (Γ (40, 7666, 0)) (7641 + 3 * Γ (40, 7666, 0) 7665 + 0).toNat p) (7641 + 3 * Γ (40, 7666, 0) 7665 + 1).toNat q) (7641 + 3 * Γ (40, 7666, 0) 7665 + 2).toNat v) 7665 (Γ (40, 7666, 0) 7665 + 1) else Γ (40, 7666, 0)) : lq G := by
  obtain ⟨h1, h2, h3, h4, h5, h6⟩ := id h
  have b5 := h3.1.2.2.2.2.2
  have h7 := h3.2.2.2.2.2.2.2
  have h0 : G (39, 0, 0) 0 = Γ (39, 0, 0) 0 := by rw [hg _ (by decide)]
  by_cases z : ¬ Γ (40, 7666, 0) 7665 = 8 ∧ (0 ≤ p ∧ p < Γ (42, 3, 0) 1) ∧ (-999999 ≤ q ∧ q ≤ 999999) ∧ 1 ≤ v ∧ v ≤ 15
  · rw [if_pos z] at hw
    refine h.told (fun _ _ _ _ => rfl) hg (by decide) h0 ?_ ?_
    · rw [hw]
      exact rel_far h1 h3.b (fun i hi => by rw [tgu_n (by omega), tgu_n (by omega), tgu_n (by omega), tgu_n (by omega)])
    · rw [hw]
      have k1 : ts_said (tgu (Γ (40, 7666, 0)) (7641 + 3 * Γ (40, 7666, 0) 7665 + 0).toNat p) (Γ (42, 3, 0) 1) := h3.put (fun z => by omega) (fun z => by omega) (fun z => by omega) (fun z => by omega) (fun z => by omega) (fun z => by omega) (fun _ _ z => by omega) (fun _ _ => ⟨fun z => by omega, fun z => by omega⟩) (fun _ _ => ⟨fun z => by omega, fun z => by omega⟩) (fun _ _ z => by omega) (fun _ _ z => by omega) (fun _ _ z => by omega)
      have k2 : ts_said (tgu (tgu (Γ (40, 7666, 0)) (7641 + 3 * Γ (40, 7666, 0) 7665 + 0).toNat p) (7641 + 3 * Γ (40, 7666, 0) 7665 + 1).toNat q) (Γ (42, 3, 0) 1) := ts_any k1 (by omega) (by omega)
      have k3 : ts_said (tgu (tgu (tgu (Γ (40, 7666, 0)) (7641 + 3 * Γ (40, 7666, 0) 7665 + 0).toNat p) (7641 + 3 * Γ (40, 7666, 0) 7665 + 1).toNat q) (7641 + 3 * Γ (40, 7666, 0) 7665 + 2).toNat v) (Γ (42, 3, 0) 1) := ts_any k2 (by omega) (by omega)
      refine k3.put (fun z => by omega) (fun z => by omega) (fun z => by omega) (fun z => by omega) (fun z => by omega) (fun _ => ⟨by omega, fun y hy => ?_⟩) (fun _ _ z => by omega) (fun _ _ => ⟨fun z => by omega, fun z => by omega⟩) (fun _ _ => ⟨fun z => by omega, fun z => by omega⟩) (fun _ _ z => by omega) (fun _ _ z => by omega) (fun _ _ z => by omega)
      by_cases e : (y : Int) = Γ (40, 7666, 0) 7665
      · rw [tgu_n (by omega), tgu_n (by omega), show 7641 + 3 * y = (7641 + 3 * Γ (40, 7666, 0) 7665 + 0).toNat from by omega, tgu_s]; exact z.2.1
      · rw [tgu_n (by omega), tgu_n (by omega), tgu_n (by omega)]; exact h7 y (by omega)
  · rw [if_neg z] at hw
    exact h.told (fun _ _ _ _ => rfl) hg (by decide) h0 (by rw [hw]; exact h1) (by rw [hw]; exact h3)
theorem s_raw {Γ G : tk_G} {p q v : Int} (h : lq Γ) (hg : ∀ κ : tk_K, κ.1 ∉ ([40] : List Nat) → G κ = Γ κ)
    (hw : G (40, 7666, 0) = if (0 ≤ p ∧ p < Γ (40, 7666, 0) 1) ∧ (0 ≤ q ∧ q ≤ 299) ∧ (v = -1000000 ∨ (-100000 ≤ v ∧ v ≤ 100000)) then tgu (Γ (40, 7666, 0)) (441 + 300 * p + q).toNat v else Γ (40, 7666, 0)) : lq G := by
  obtain ⟨h1, h2, h3, h4, h5, h6⟩ := id h
  have b1 := h3.1.2.1
  have h0 : G (39, 0, 0) 0 = Γ (39, 0, 0) 0 := by rw [hg _ (by decide)]
  by_cases z : (0 ≤ p ∧ p < Γ (40, 7666, 0) 1) ∧ (0 ≤ q ∧ q ≤ 299) ∧ (v = -1000000 ∨ (-100000 ≤ v ∧ v ≤ 100000))
  · rw [if_pos z] at hw
    refine h.told (fun _ _ _ _ => rfl) hg (by decide) h0 ?_ ?_
    · rw [hw]
      exact rel_far h1 h3.b (fun i hi => by rw [tgu_n (by omega)])
    · rw [hw]
      exact h3.put (fun z => by omega) (fun z => by omega) (fun z => by omega) (fun z => by omega) (fun z => by omega) (fun z => by omega) (fun _ _ z => by omega) (fun _ _ => ⟨fun z => by omega, fun z => by omega⟩) (fun _ _ => ⟨fun z => by omega, fun z => by omega⟩) (fun _ _ z => by omega) (fun _ _ _ => z.2.2) (fun _ _ z => by omega)
  · rw [if_neg z] at hw
    exact h.told (fun _ _ _ _ => rfl) hg (by decide) h0 (by rw [hw]; exact h1) (by rw [hw]; exact h3)
theorem s_make {Γ G : tk_G} {ws : List Nat} (h : lq Γ) (hg : ∀ κ : tk_K, κ.1 ∉ ws → G κ = Γ κ) (hW : ∀ x ∈ ws, 39 ≤ x ∧ x ∉ [70, 71, 42, 43, 45, 46, 47, 48, 49, 50, 51]) (h0 : G (39, 0, 0) 0 = Γ (39, 0, 0) 0) (hs : ts_said (G (40, 7666, 0)) (Γ (42, 3, 0) 1)) (he : ∀ j : Nat, (j < 441 ∨ 7641 ≤ j) → G (40, 7666, 0) j = Γ (40, 7666, 0) j) : lq G :=
  h.told (fun _ _ _ _ => rfl) hg hW h0 (rel_far h.1 h.2.2.1.b (fun i hi => he i (Or.inl hi))) hs
theorem s_text {Γ G : tk_G} {ws : List Nat} (h : lq Γ) (hg : ∀ κ : tk_K, κ.1 ∉ ws → G κ = Γ κ) (hW : ∀ x ∈ ws, 39 ≤ x ∧ x ∉ [40, 70, 71]) (ht : tx_ok (G (43, 8800, 0)) (G (45, 1056, 0)) (G (46, 22, 0)) (G (47, 6, 0)) (G (48, 22, 0)) (G (49, 22, 0)) (G (50, 22, 0)) (G (51, 22, 0)) (G (42, 3, 0))) (h0 : 0 ≤ G (39, 0, 0) 0 ∧ G (39, 0, 0) 0 ≤ 400) (hT : Γ (42, 3, 0) 1 ≤ G (42, 3, 0) 1) : lq G := by
  have c : ∀ k n w, k < 39 → G (k, n, w) = Γ (k, n, w) := fun k n w hk => hg _ (fun q => absurd (hW k q).1 (by omega))
  have r : ∀ k n w, k ∈ [40, 70, 71] → G (k, n, w) = Γ (k, n, w) := fun k n w hk => hg _ (fun q => (hW k q).2 hk)
  have eS := r 40 7666 0 (by decide)
  refine h.step (fun k n w hk _ => c k n w hk) (r _ _ _ (by decide)) (r _ _ _ (by decide)) ?_ ?_ ht hT h0
  · rw [eS]; exact h.1.congr h.2.2.1.b (fun k n hk => c k n 0 hk) (fun i _ => rfl)
  · rw [eS]; exact h.2.2.1.mono hT

theorem s_row {Γ G1 G : tk_G} {p q : Int} (h : lq Γ) (e1 : G1 = if (0 ≤ p ∧ p ≤ 3) ∧ 0 ≤ q ∧ q ≤ 999 then tg Γ (3, 0, 0) 0 (tm_up 24 (Γ (3, 0, 0) 0)) else Γ) (hg : ∀ κ : tk_K, κ.1 ∉ ([40] : List Nat) → G κ = G1 κ)
    (hw : G (40, 7666, 0) = if ¬ G1 (40, 7666, 0) 1 = 24 ∧ (0 ≤ p ∧ p ≤ 3) ∧ 0 ≤ q ∧ q ≤ 999 then tgu (tm_fill (tgu (tgu (tgu (G1 (40, 7666, 0)) (9 + 3 * G1 (40, 7666, 0) 1 + 0).toNat p) (9 + 3 * G1 (40, 7666, 0) 1 + 1).toNat q) (9 + 3 * G1 (40, 7666, 0) 1 + 2).toNat (G1 (40, 7666, 0) 0)) (441 + 300 * G1 (40, 7666, 0) 1).toNat (441 + 300 * G1 (40, 7666, 0) 1 + 300).toNat (-1000000)) 1 (G1 (40, 7666, 0) 1 + 1) else G1 (40, 7666, 0)) :
    lq G ∧ (if (0 ≤ p ∧ p ≤ 3) ∧ 0 ≤ q ∧ q ≤ 999 then tm_at 24 (Γ (3, 0, 0) 0) else -1) = (if ¬ G1 (40, 7666, 0) 1 = 24 ∧ (0 ≤ p ∧ p ≤ 3) ∧ 0 ≤ q ∧ q ≤ 999 then G1 (40, 7666, 0) 1 else -1) := by
  obtain ⟨⟨⟨a0, a1, a2, a3, a4⟩, r5, r6, r7⟩, h2, h3, h4, h5, h6⟩ := id h
  have hc : ∀ k n w, (39 ≤ k ∨ 1 ≤ w ∨ k = 12) → G1 (k, n, w) = Γ (k, n, w) := by
    intro k n w z
    rw [e1]
    split
    · exact lq_tg (by decide) k n w z
    · rfl
  have eS : G1 (40, 7666, 0) = Γ (40, 7666, 0) := hc _ _ _ (Or.inl (by decide))
  have b1 := h3.1.2.1
  have b2 := h3.1.2.2.1
  have b3 := h3.1.2.2.2.1
  rw [eS] at hw ⊢
  have h0 : G (39, 0, 0) 0 = Γ (39, 0, 0) 0 := by rw [hg _ (by decide), hc _ _ _ (Or.inl (by decide))]
  by_cases z : (0 ≤ p ∧ p ≤ 3) ∧ 0 ≤ q ∧ q ≤ 999
  · by_cases y : Γ (40, 7666, 0) 1 = 24
    · rw [if_pos z, a1, tm_up_ge (by omega), tg_id (by rw [a1])] at e1
      rw [if_neg (by omega)] at hw
      refine ⟨h.told hc hg (by decide) h0 (by rw [hw, e1]; exact h.1) (by rw [hw]; exact h3), ?_⟩
      rw [if_pos z, if_neg (by omega), a1, tm_at_ge (by omega)]
    · rw [if_pos z, a1, tm_up_lt (by omega)] at e1
      rw [if_pos ⟨y, z⟩] at hw
      refine ⟨h.told hc hg (by decide) h0 ?_ ?_, by rw [if_pos z, if_pos ⟨y, z⟩, a1, tm_at_lt (by omega)]⟩
      · have en : ∀ i : Nat, i < 441 → ¬ i = 1 → (i < 9 ∨ 81 ≤ i) → G (40, 7666, 0) i = Γ (40, 7666, 0) i := by
          intro i hi hn ho
          rw [hw, tgu_n hn]
          unfold tm_fill
          rw [if_neg (by omega), tgu_n (by omega), tgu_n (by omega), tgu_n (by omega)]
        rw [e1]
        refine ⟨⟨?_, ?_, ?_, ?_, ?_⟩, fun j hj => ?_, fun k hk => ?_, fun k hk => ?_⟩
        · rw [tg_r (by decide), en 0 (by omega) (by omega) (by omega)]; exact a0
        · rw [tg_s, hw, tgu_s]
        · rw [tg_r (by decide), en 2 (by omega) (by omega) (by omega)]; exact a2
        · rw [tg_r (by decide), en 3 (by omega) (by omega) (by omega)]; exact a3
        · rw [tg_r (by decide), en 4 (by omega) (by omega) (by omega)]; exact a4
        · rw [tg_r (by decide), en _ (by omega) (by omega) (by omega)]; exact r5 j hj
        · rw [en 2 (by omega) (by omega) (by omega)] at hk
          rw [tg_r (by decide), en _ (by omega) (by omega) (by omega)]; exact r6 k hk
        · rw [en 3 (by omega) (by omega) (by omega)] at hk
          rw [tg_r (by decide), tg_r (by decide), en _ (by omega) (by omega) (by omega), en _ (by omega) (by omega) (by omega)]; exact r7 k hk
      · rw [hw]
        have k1 : ts_said (tgu (Γ (40, 7666, 0)) (9 + 3 * Γ (40, 7666, 0) 1 + 0).toNat p) (Γ (42, 3, 0) 1) := h3.put (fun z => by omega) (fun z => by omega) (fun z => by omega) (fun z => by omega) (fun z => by omega) (fun z => by omega) (fun _ _ z => by omega) (fun _ _ => ⟨fun z => by omega, fun z => by omega⟩) (fun _ _ => ⟨fun z => by omega, fun z => by omega⟩) (fun _ _ z => by omega) (fun _ _ z => by omega) (fun _ _ z => by omega)
        have k2 : ts_said (tgu (tgu (Γ (40, 7666, 0)) (9 + 3 * Γ (40, 7666, 0) 1 + 0).toNat p) (9 + 3 * Γ (40, 7666, 0) 1 + 1).toNat q) (Γ (42, 3, 0) 1) := ts_any k1 (by omega) (by omega)
        have k3 : ts_said (tgu (tgu (tgu (Γ (40, 7666, 0)) (9 + 3 * Γ (40, 7666, 0) 1 + 0).toNat p) (9 + 3 * Γ (40, 7666, 0) 1 + 1).toNat q) (9 + 3 * Γ (40, 7666, 0) 1 + 2).toNat (Γ (40, 7666, 0) 0)) (Γ (42, 3, 0) 1) := ts_any k2 (by omega) (by omega)
        have k4 := k3.fill (a := (441 + 300 * Γ (40, 7666, 0) 1).toNat) (b := (441 + 300 * Γ (40, 7666, 0) 1 + 300).toNat) (by omega) (by omega)
        exact k4.put (fun z => by omega) (fun _ => by omega) (fun z => by omega) (fun z => by omega) (fun z => by omega) (fun z => by omega) (fun _ _ z => by omega) (fun _ _ => ⟨fun z => by omega, fun z => by omega⟩) (fun _ _ => ⟨fun z => by omega, fun z => by omega⟩) (fun _ _ z => by omega) (fun _ _ z => by omega) (fun _ _ z => by omega)
  · rw [if_neg z] at e1
    rw [if_neg (fun y => z y.2)] at hw
    refine ⟨h.told hc hg (by decide) h0 (by rw [hw, e1]; exact h.1) (by rw [hw]; exact h3), ?_⟩
    rw [if_neg z, if_neg (fun y => z y.2)]
theorem has_LM {Γ : tk_G} {a b : Int} (h : rel Γ 0 (Γ (40, 7666, 0))) (hb : 0 ≤ Γ (40, 7666, 0) 3) : tm_hasL (Γ (8, 4 * 60, 0)) (Γ (7, 60, 0) 0).toNat a b ↔ tm_hasM (Γ (40, 7666, 0)) (Γ (40, 7666, 0) 3).toNat a b := by
  obtain ⟨⟨a0, a1, a2, a3, a4⟩, r5, r6, r7⟩ := h
  rw [a3]
  have e : ∀ j : Nat, j < (Γ (40, 7666, 0) 3).toNat → Γ (8, 4 * 60, 0) (4 * (j : Int) + 0).toNat = Γ (40, 7666, 0) (241 + 3 * (j : Int) + 0).toNat ∧ Γ (8, 4 * 60, 0) (4 * (j : Int) + 1).toNat = Γ (40, 7666, 0) (241 + 3 * (j : Int) + 1).toNat := by
    intro j hj
    obtain ⟨x, y⟩ := r7 j (by omega)
    rw [show (4 * (j : Int) + 0).toNat = 4 * j from by omega, show (4 * (j : Int) + 1).toNat = 4 * j + 1 from by omega, show (241 + 3 * (j : Int) + 0).toNat = 241 + 3 * j from by omega, show (241 + 3 * (j : Int) + 1).toNat = 242 + 3 * j from by omega]
    exact ⟨x, y⟩
  constructor
  · rintro ⟨j, h1, h2, h3⟩
    exact ⟨j, h1, by rw [← (e j h1).1]; exact h2, by rw [← (e j h1).2]; exact h3⟩
  · rintro ⟨j, h1, h2, h3⟩
    exact ⟨j, h1, by rw [(e j h1).1]; exact h2, by rw [(e j h1).2]; exact h3⟩
theorem s_line {Γ G1 G : tk_G} {p q v : Int} (h : lq Γ) (e1 : G1 = tm_if (((0 ≤ p ∧ p ≤ 11) ∧ (0 ≤ q ∧ q ≤ 299) ∧ (1 ≤ v ∧ v ≤ 1000)) ∧ ¬ tm_hasL (Γ (8, 4 * 60, 0)) (Γ (7, 60, 0) 0).toNat p q) (tm_add Γ (7, 60, 0) (8, 4 * 60, 0) 60 p q v 0) Γ) (hg : ∀ κ : tk_K, κ.1 ∉ ([40] : List Nat) → G κ = G1 κ)
    (hw : G (40, 7666, 0) = tm_if ((¬ G1 (40, 7666, 0) 3 = 60 ∧ (0 ≤ p ∧ p ≤ 11) ∧ (0 ≤ q ∧ q ≤ 299) ∧ (1 ≤ v ∧ v ≤ 1000)) ∧ ¬ tm_hasM (G1 (40, 7666, 0)) (G1 (40, 7666, 0) 3).toNat p q) (tgu (tgu (tgu (tgu (G1 (40, 7666, 0)) (241 + 3 * G1 (40, 7666, 0) 3 + 0).toNat p) (241 + 3 * G1 (40, 7666, 0) 3 + 1).toNat q) (241 + 3 * G1 (40, 7666, 0) 3 + 2).toNat v) 3 (G1 (40, 7666, 0) 3 + 1)) (G1 (40, 7666, 0))) :
    lq G ∧ tm_if (((0 ≤ p ∧ p ≤ 11) ∧ (0 ≤ q ∧ q ≤ 299) ∧ (1 ≤ v ∧ v ≤ 1000)) ∧ ¬ tm_hasL (Γ (8, 4 * 60, 0)) (Γ (7, 60, 0) 0).toNat p q ∧ Γ (7, 60, 0) 0 < 60) (Γ (7, 60, 0) 0 + 1) (-1) = tm_if ((¬ G1 (40, 7666, 0) 3 = 60 ∧ (0 ≤ p ∧ p ≤ 11) ∧ (0 ≤ q ∧ q ≤ 299) ∧ (1 ≤ v ∧ v ≤ 1000)) ∧ ¬ tm_hasM (G1 (40, 7666, 0)) (G1 (40, 7666, 0) 3).toNat p q) (G1 (40, 7666, 0) 3 + 1) (-1) := by
  obtain ⟨⟨⟨a0, a1, a2, a3, a4⟩, r5, r6, r7⟩, h2, h3, h4, h5, h6⟩ := id h
  have b2 := h3.1.2.2.1
  have b3 := h3.1.2.2.2.1
  have hLM := has_LM (a := p) (b := q) h.1 b3.1
  rw [hLM] at e1 ⊢
  have hc : ∀ k n w, (39 ≤ k ∨ 1 ≤ w ∨ k = 12) → G1 (k, n, w) = Γ (k, n, w) := by
    intro k n w z
    rw [e1]
    by_cases y : ((0 ≤ p ∧ p ≤ 11) ∧ (0 ≤ q ∧ q ≤ 299) ∧ (1 ≤ v ∧ v ≤ 1000)) ∧ ¬ tm_hasM (Γ (40, 7666, 0)) (Γ (40, 7666, 0) 3).toNat p q
    · rw [tm_if_t y]; exact lq_add k n w z
    · rw [tm_if_f y]
  have eS : G1 (40, 7666, 0) = Γ (40, 7666, 0) := hc _ _ _ (Or.inl (by decide))
  rw [eS] at hw ⊢
  have h0 : G (39, 0, 0) 0 = Γ (39, 0, 0) 0 := by rw [hg _ (by decide), hc _ _ _ (Or.inl (by decide))]
  by_cases z : ((0 ≤ p ∧ p ≤ 11) ∧ (0 ≤ q ∧ q ≤ 299) ∧ (1 ≤ v ∧ v ≤ 1000)) ∧ ¬ tm_hasM (Γ (40, 7666, 0)) (Γ (40, 7666, 0) 3).toNat p q
  · by_cases y : Γ (40, 7666, 0) 3 = 60
    · rw [tm_if_t z, tm_add_f (by rw [a3]; omega)] at e1
      rw [tm_if_f (fun x => x.1.1 y)] at hw
      refine ⟨h.told hc hg (by decide) h0 (by rw [hw, e1]; exact h.1) (by rw [hw]; exact h3), ?_⟩
      rw [tm_if_f (fun x => by have := x.2.2; omega), tm_if_f (fun x => x.1.1 y)]
    · rw [tm_if_t z, tm_add_t (by rw [a3]; omega), a3] at e1
      rw [tm_if_t ⟨⟨y, z.1⟩, z.2⟩] at hw
      refine ⟨h.told hc hg (by decide) h0 ?_ ?_, by rw [tm_if_t ⟨z.1, z.2, by omega⟩, tm_if_t ⟨⟨y, z.1⟩, z.2⟩, a3]⟩
      · rw [hw, e1]
        refine ⟨⟨?_, ?_, ?_, ?_, ?_⟩, fun j hj => ?_, fun k hk => ?_, fun k hk => ?_⟩
        · rw [tgc_n (by decide), tg_r (by decide), tgu_n (by omega), tgu_n (by omega), tgu_n (by omega), tgu_n (by omega)]; exact a0
        · rw [tgc_n (by decide), tg_r (by decide), tgu_n (by omega), tgu_n (by omega), tgu_n (by omega), tgu_n (by omega)]; exact a1
        · rw [tgc_n (by decide), tg_nf (by decide), tgu_n (by omega), tgu_n (by omega), tgu_n (by omega), tgu_n (by omega)]; exact a2
        · rw [tgc_n (by decide), tg_s, tgu_s]
        · rw [tgc_n (by decide), tg_nf (by decide), tgu_n (by omega), tgu_n (by omega), tgu_n (by omega), tgu_n (by omega)]; exact a4
        · rw [tgc_n (by decide), tg_r (by decide), tgu_n (by omega), tgu_n (by omega), tgu_n (by omega), tgu_n (by omega)]; exact r5 j hj
        · rw [tgu_n (by omega), tgu_n (by omega), tgu_n (by omega), tgu_n (by omega)] at hk
          rw [tgc_n (by decide), tg_r (by decide), tgu_n (by omega), tgu_n (by omega), tgu_n (by omega), tgu_n (by omega)]; exact r6 k hk
        · rw [tgu_s] at hk
          rw [tgc_s]
          by_cases e : (k : Int) = Γ (40, 7666, 0) 3
          · rw [show 4 * k = 4 * (Γ (40, 7666, 0) 3).toNat from by omega, tm_row_0 (by omega), tm_row_1 (by omega)]
            rw [show 241 + 3 * k = (241 + 3 * Γ (40, 7666, 0) 3 + 0).toNat from by omega, show 242 + 3 * k = (241 + 3 * Γ (40, 7666, 0) 3 + 1).toNat from by omega]
            refine ⟨?_, ?_⟩
            · rw [tgu_n (by omega), tgu_n (by omega), tgu_n (by omega), tgu_s]
            · rw [tgu_n (by omega), tgu_n (by omega), tgu_s]
          · rw [tm_row_n (by omega) (by omega), tm_row_n (by omega) (by omega)]
            rw [tgu_n (by omega), tgu_n (by omega), tgu_n (by omega), tgu_n (by omega)]
            rw [tgu_n (by omega), tgu_n (by omega), tgu_n (by omega), tgu_n (by omega)]
            exact r7 k (by omega)
      · rw [hw]
        have k1 : ts_said (tgu (Γ (40, 7666, 0)) (241 + 3 * Γ (40, 7666, 0) 3 + 0).toNat p) (Γ (42, 3, 0) 1) := ts_any h3 (by omega) (by omega)
        have k2 : ts_said (tgu (tgu (Γ (40, 7666, 0)) (241 + 3 * Γ (40, 7666, 0) 3 + 0).toNat p) (241 + 3 * Γ (40, 7666, 0) 3 + 1).toNat q) (Γ (42, 3, 0) 1) := k1.put (fun z => by omega) (fun z => by omega) (fun z => by omega) (fun z => by omega) (fun z => by omega) (fun z => by omega) (fun _ _ z => by omega) (fun _ _ => ⟨fun z => by omega, fun z => by omega⟩) (fun _ _ => ⟨fun z => by omega, fun z => by omega⟩) (fun _ _ z => by omega) (fun _ _ z => by omega) (fun _ _ z => by omega)
        have k3 : ts_said (tgu (tgu (tgu (Γ (40, 7666, 0)) (241 + 3 * Γ (40, 7666, 0) 3 + 0).toNat p) (241 + 3 * Γ (40, 7666, 0) 3 + 1).toNat q) (241 + 3 * Γ (40, 7666, 0) 3 + 2).toNat v) (Γ (42, 3, 0) 1) := k2.put (fun z => by omega) (fun z => by omega) (fun z => by omega) (fun z => by omega) (fun z => by omega) (fun z => by omega) (fun _ _ z => by omega) (fun _ _ => ⟨fun z => by omega, fun z => by omega⟩) (fun _ _ => ⟨fun z => by omega, fun z => by omega⟩) (fun _ _ z => by omega) (fun _ _ z => by omega) (fun _ _ z => by omega)
        refine k3.put (fun z => by omega) (fun z => by omega) (fun z => by omega) (fun _ => ⟨by omega, fun y2 hy => ?_⟩) (fun z => by omega) (fun z => by omega) (fun _ _ z => by omega) (fun _ _ => ⟨fun z => by omega, fun z => by omega⟩) (fun _ _ => ⟨fun z => by omega, fun z => by omega⟩) (fun _ _ z => by omega) (fun _ _ z => by omega) (fun _ _ z => by omega)
        by_cases e : (y2 : Int) = Γ (40, 7666, 0) 3
        · rw [show 243 + 3 * y2 = (241 + 3 * Γ (40, 7666, 0) 3 + 2).toNat from by omega, tgu_s]; exact z.1.2.2.1
        · rw [tgu_n (by omega), tgu_n (by omega), tgu_n (by omega)]; exact h3.2.2.2.2.1 y2 (by omega)
  · rw [tm_if_f z] at e1
    rw [tm_if_f (fun y => z ⟨y.1.2, y.2⟩)] at hw
    refine ⟨h.told hc hg (by decide) h0 (by rw [hw, e1]; exact h.1) (by rw [hw]; exact h3), ?_⟩
    rw [tm_if_f (fun y => z ⟨y.1, y.2.1⟩), tm_if_f (fun y => z ⟨y.1.2, y.2⟩)]
/-! ===== books onto one another ===== -/
theorem tgc_r {Γ : tk_G} {k n w k2 n2 w2 : Nat} {γ : Nat → Int} (h : k2 ≠ k) : tgc Γ (k, n, w) γ (k2, n2, w2) = Γ (k2, n2, w2) := tgc_n (fun q => h (congrArg Prod.fst q))
def tk_b (k : Nat) : Prop := k = 1 ∨ k = 2 ∨ k = 3 ∨ k = 7 ∨ k = 8
theorem tk_ne {k n u a b w : Nat} (ha : tk_b a) (h : ¬ u = w ∨ ¬ tk_b k) : ¬ ((k, n, u) : tk_K) = (a, b, w) := by
  intro q
  have e1 : k = a := congrArg (fun z : tk_K => z.1) q
  have e2 : u = w := congrArg (fun z : tk_K => z.2.2) q
  rcases h with h | h
  · exact h e2
  · exact h (e1 ▸ ha)
section CP
variable {Γ : tk_G} {w w2 k n u : Nat}
theorem tmc1_o (h : ¬ u = w ∨ ¬ tk_b k) : tm_c1 Γ w w2 (k, n, u) = Γ (k, n, u) := tg_nf (tk_ne (by unfold tk_b; omega) h)
theorem tmc2_o (h : ¬ u = w ∨ ¬ tk_b k) : tm_c2 Γ w w2 (k, n, u) = Γ (k, n, u) := tgc_n (tk_ne (by unfold tk_b; omega) h)
theorem tmc3_o (h : ¬ u = w ∨ ¬ tk_b k) : tm_c3 Γ w w2 (k, n, u) = Γ (k, n, u) := tg_nf (tk_ne (by unfold tk_b; omega) h)
theorem tmcT_o {m : Nat} (h : ¬ u = w ∨ ¬ tk_b k) : tm_cT Γ m w w2 (k, n, u) = Γ (k, n, u) := (tgc_n (tk_ne (by unfold tk_b; omega) h)).trans (tg_nf (tk_ne (by unfold tk_b; omega) h))
theorem tmc_o (h : ¬ u = w ∨ ¬ tk_b k) : tm_copy Γ w w2 (k, n, u) = Γ (k, n, u) := by
  unfold tm_copy
  rw [tmcT_o h, tmcT_o h, tmcT_o h, tmc3_o h, tmc2_o h, tmc1_o h]
theorem tmcT_r {m : Nat} (h1 : k ≠ 7) (h2 : k ≠ 8) : tm_cT Γ m w w2 (k, n, u) = Γ (k, n, u) := (tgc_r h2).trans (tg_rf h1)
theorem tmcT_n {m : Nat} (h : ¬ n = m) : tm_cT Γ m w w2 (7, n, u) = Γ (7, n, u) := (tgc_r (by decide)).trans (tg_nf (fun q => h (congrArg (fun z : tk_K => z.2.1) q)))
theorem tmcT_c {m : Nat} (h : ¬ 4 * n = 4 * m) : tm_cT Γ m w w2 (8, 4 * n, u) = Γ (8, 4 * n, u) := (tgc_n (fun q => h (congrArg (fun z : tk_K => z.2.1) q))).trans (tg_rf (by decide))
theorem tmcT_s {m : Nat} : tm_cT Γ m w w2 (7, m, w) 0 = Γ (7, m, w2) 0 := by
  unfold tm_cT
  rw [tgc_r (by decide), tg_s]
theorem tmcT_t {m : Nat} : tm_cT Γ m w w2 (8, 4 * m, w) = Γ (8, 4 * m, w2) := tgc_s
theorem tmc_book (h : ¬ w2 = w) : tm_copy Γ w w2 (1, 0, w) 0 = Γ (1, 0, w2) 0 := by
  unfold tm_copy
  rw [tmcT_r (by decide) (by decide), tmcT_r (by decide) (by decide), tmcT_r (by decide) (by decide)]
  unfold tm_c3 tm_c2 tm_c1
  rw [tg_r (by decide), tgc_r (by decide), tg_s]
theorem tmc_rows (h : ¬ w2 = w) : tm_copy Γ w w2 (3, 0, w) 0 = Γ (3, 0, w2) 0 := by
  unfold tm_copy
  rw [tmcT_r (by decide) (by decide), tmcT_r (by decide) (by decide), tmcT_r (by decide) (by decide)]
  unfold tm_c3
  rw [tg_s, tmc2_o (Or.inl h), tmc1_o (Or.inl h)]
theorem tmc_told (h : ¬ w2 = w) : tm_copy Γ w w2 (2, 4, w) = Γ (2, 4, w2) := by
  unfold tm_copy
  rw [tmcT_r (by decide) (by decide), tmcT_r (by decide) (by decide), tmcT_r (by decide) (by decide)]
  unfold tm_c3
  rw [tg_rf (by decide)]
  unfold tm_c2
  rw [tgc_s, tmc1_o (Or.inl h)]
theorem tmc_40 (h : ¬ w2 = w) : tm_copy Γ w w2 (7, 40, w) 0 = Γ (7, 40, w2) 0 := by
  unfold tm_copy
  rw [tmcT_n (by decide), tmcT_n (by decide), tmcT_s, tmc3_o (Or.inl h), tmc2_o (Or.inl h), tmc1_o (Or.inl h)]
theorem tmc_60 (h : ¬ w2 = w) : tm_copy Γ w w2 (7, 60, w) 0 = Γ (7, 60, w2) 0 := by
  unfold tm_copy
  rw [tmcT_n (by decide), tmcT_s, tmcT_o (Or.inl h), tmc3_o (Or.inl h), tmc2_o (Or.inl h), tmc1_o (Or.inl h)]
theorem tmc_10 (h : ¬ w2 = w) : tm_copy Γ w w2 (7, 10, w) 0 = Γ (7, 10, w2) 0 := by
  unfold tm_copy
  rw [tmcT_s, tmcT_o (Or.inl h), tmcT_o (Or.inl h), tmc3_o (Or.inl h), tmc2_o (Or.inl h), tmc1_o (Or.inl h)]
theorem tmc_c40 (h : ¬ w2 = w) : tm_copy Γ w w2 (8, 4 * 40, w) = Γ (8, 4 * 40, w2) := by
  unfold tm_copy
  rw [tmcT_c (by decide), tmcT_c (by decide), tmcT_t, tmc3_o (Or.inl h), tmc2_o (Or.inl h), tmc1_o (Or.inl h)]
theorem tmc_c60 (h : ¬ w2 = w) : tm_copy Γ w w2 (8, 4 * 60, w) = Γ (8, 4 * 60, w2) := by
  unfold tm_copy
  rw [tmcT_c (by decide), tmcT_t, tmcT_o (Or.inl h), tmc3_o (Or.inl h), tmc2_o (Or.inl h), tmc1_o (Or.inl h)]
theorem rel_copy {σ : Nat → Int} (h : ¬ w2 = w) (hr : rel Γ w2 σ) : rel (tm_copy Γ w w2) w σ := by
  unfold rel
  rw [tmc_book h, tmc_rows h, tmc_told h, tmc_40 h, tmc_60 h, tmc_10 h, tmc_c40 h, tmc_c60 h]
  exact hr
end CP
theorem s_back {Γ G1 G : tk_G} {p : Int} (h : lq Γ) (e1 : G1 = if (0 ≤ p ∧ p ≤ 3) ∧ Γ (12, 4, 0) p.toNat = 1 then tm_copy Γ 0 (p.toNat + 1) else Γ) (hg : ∀ κ : tk_K, κ.1 ∉ ([40] : List Nat) → G κ = G1 κ)
    (hw : G (40, 7666, 0) = if (0 ≤ p ∧ p ≤ 3) ∧ ¬ G1 (71, 4, 0) p.toNat = 0 then tm_cp (G1 (40, 7666, 0)) (G1 (70, 30664, 0)) 0 (7666 : Int).toNat (7666 * p).toNat else G1 (40, 7666, 0)) :
    lq G ∧ (if (0 ≤ p ∧ p ≤ 3) ∧ Γ (12, 4, 0) p.toNat = 1 then tm_copy Γ 0 (p.toNat + 1) (3, 0, 0) 0 else -1) = (if (0 ≤ p ∧ p ≤ 3) ∧ ¬ G1 (71, 4, 0) p.toNat = 0 then G (40, 7666, 0) 1 else -1) := by
  obtain ⟨h1, h2, h3, h4, h5, h6⟩ := id h
  have hc : ∀ k n w, (39 ≤ k ∨ 1 ≤ w ∨ k = 12) → G1 (k, n, w) = Γ (k, n, w) := by
    intro k n w z
    rw [e1]
    split
    · exact tmc_o (by unfold tk_b; omega)
    · rfl
  have eS : G1 (40, 7666, 0) = Γ (40, 7666, 0) := hc _ _ _ (Or.inl (by decide))
  have eD : G1 (71, 4, 0) = Γ (71, 4, 0) := hc _ _ _ (Or.inl (by decide))
  have eI : G1 (70, 30664, 0) = Γ (70, 30664, 0) := hc _ _ _ (Or.inl (by decide))
  rw [eS, eI, eD] at hw
  rw [eD]
  have h0 : G (39, 0, 0) 0 = Γ (39, 0, 0) 0 := by rw [hg _ (by decide), hc _ _ _ (Or.inl (by decide))]
  have hk : (0 ≤ p ∧ p ≤ 3) → (Γ (12, 4, 0) p.toNat = 0 ∧ Γ (71, 4, 0) p.toNat = 0) ∨ ((Γ (12, 4, 0) p.toNat = 1 ∧ Γ (71, 4, 0) p.toNat = 1) ∧ rel Γ (p.toNat + 1) (lqi Γ p.toNat)) := fun q => h2 p.toNat (by omega)
  by_cases z : (0 ≤ p ∧ p ≤ 3) ∧ Γ (12, 4, 0) p.toNat = 1
  · have q := (hk z.1).resolve_left (fun q => by have := q.1; omega)
    have z2 : (0 ≤ p ∧ p ≤ 3) ∧ ¬ Γ (71, 4, 0) p.toNat = 0 := ⟨z.1, by omega⟩
    rw [if_pos z] at e1
    rw [if_pos z2] at hw
    have es : ∀ i : Nat, i < 7666 → G (40, 7666, 0) i = lqi Γ p.toNat i := by
      intro i hi
      rw [hw]
      unfold tm_cp lqi
      rw [if_pos ⟨Nat.zero_le _, by omega⟩]
      congr 1; omega
    have hb := (h4 p.toNat (by omega)).b
    refine ⟨h.told hc hg (by decide) h0 ?_ ?_, ?_⟩
    · rw [e1]
      exact rel_far (rel_copy (by omega) q.2) hb (fun i hi => es i (by omega))
    · exact (h4 p.toNat (by omega)).ext es
    · rw [if_pos z, if_pos z2, tmc_rows (by omega), es 1 (by omega)]
      exact q.2.1.2.1
  · have z2 : ¬ ((0 ≤ p ∧ p ≤ 3) ∧ ¬ Γ (71, 4, 0) p.toNat = 0) := fun y => by
      rcases hk y.1 with q | q
      · exact y.2 q.2
      · exact z ⟨y.1, q.1.1⟩
    rw [if_neg z] at e1
    rw [if_neg z2] at hw
    refine ⟨h.told hc hg (by decide) h0 (by rw [hw, e1]; exact h.1) (by rw [hw]; exact h3), ?_⟩
    rw [if_neg z, if_neg z2]

theorem s_image {Γ G1 G : tk_G} {p : Int} (h : lq Γ) (e1 : G1 = if 0 ≤ p ∧ p ≤ 3 then tm_img Γ p.toNat else Γ) (hg : ∀ κ : tk_K, κ.1 ∉ ([71, 70] : List Nat) → G κ = G1 κ)
    (hw1 : G (71, 4, 0) = if 0 ≤ p ∧ p ≤ 3 then tgu (G1 (71, 4, 0)) p.toNat 1 else G1 (71, 4, 0)) (hw2 : G (70, 30664, 0) = if 0 ≤ p ∧ p ≤ 3 then tm_cp (G1 (70, 30664, 0)) (G1 (40, 7666, 0)) (7666 * p).toNat (7666 * p + 7666).toNat 0 else G1 (70, 30664, 0)) :
    lq G ∧ (if 0 ≤ p ∧ p ≤ 3 then tm_img Γ p.toNat (3, 0, 0) 0 else -1) = (if 0 ≤ p ∧ p ≤ 3 then G1 (40, 7666, 0) 1 else -1) := by
  obtain ⟨h1, h2, h3, h4, h5, h6⟩ := id h
  by_cases z : 0 ≤ p ∧ p ≤ 3
  · rw [if_pos z] at e1 hw1 hw2
    obtain ⟨X, hX⟩ : ∃ y : tk_G, y = if Γ (12, 4, 0) p.toNat = 0 then tg (tm_z0 Γ (p.toNat + 1)) (12, 4, 0) p.toNat 1 else Γ := ⟨_, rfl⟩
    have eG1 : G1 = tm_copy X (p.toNat + 1) 0 := by rw [e1, hX]; rfl
    have hXo : ∀ k n u, ¬ u = p.toNat + 1 → ¬ k = 12 → X (k, n, u) = Γ (k, n, u) := by
      intro k n u hu hk
      rw [hX]
      split
      · rw [tg_nf (fun q => hk (congrArg (fun y : tk_K => y.1) q))]
        exact tm_z0_n hu
      · rfl
    have hXi : ∀ j : Nat, X (12, 4, 0) j = if j = p.toNat then 1 else Γ (12, 4, 0) j := by
      intro j
      rw [hX]
      by_cases e : j = p.toNat
      · rw [if_pos e, e]
        by_cases y : Γ (12, 4, 0) p.toNat = 0
        · rw [if_pos y, tg_s]
        · rw [if_neg y]
          have q := (h2 p.toNat (by omega)).resolve_left (fun q => y q.1)
          exact q.1.1
      · rw [if_neg e]
        by_cases y : Γ (12, 4, 0) p.toNat = 0
        · rw [if_pos y, tg_i e]
          exact congrFun (tm_z0_n (by show ¬ 0 = p.toNat + 1; omega)) j
        · rw [if_neg y]
    have hGo : ∀ k n u, ¬ u = p.toNat + 1 → ¬ k = 12 → G1 (k, n, u) = Γ (k, n, u) := fun k n u hu hk => by rw [eG1, tmc_o (Or.inl hu)]; exact hXo k n u hu hk
    have hGi : ∀ j : Nat, G1 (12, 4, 0) j = if j = p.toNat then 1 else Γ (12, 4, 0) j := fun j => by rw [eG1, tmc_o (Or.inl (by omega))]; exact hXi j
    have eS : G1 (40, 7666, 0) = Γ (40, 7666, 0) := hGo _ _ _ (by omega) (by decide)
    have eD : G1 (71, 4, 0) = Γ (71, 4, 0) := hGo _ _ _ (by omega) (by decide)
    have eI : G1 (70, 30664, 0) = Γ (70, 30664, 0) := hGo _ _ _ (by omega) (by decide)
    rw [eS] at hw2 ⊢
    rw [eD] at hw1
    rw [eI] at hw2
    have c : ∀ k n u, k < 39 → G (k, n, u) = G1 (k, n, u) := fun k n u hk => hg _ (by intro q; have := List.mem_cons.mp q; rcases this with y | y; (have y : k = 71 := y; omega); (have y : k = 70 := List.mem_singleton.mp y; omega))
    have o : ∀ k n, ¬ k = 71 → ¬ k = 70 → ¬ k = 12 → G (k, n, 0) = Γ (k, n, 0) := fun k n q1 q2 q3 => by
      rw [hg _ (by intro q; have := List.mem_cons.mp q; rcases this with y | y; (exact q1 y); (exact q2 (List.mem_singleton.mp y)))]
      exact hGo k n 0 (by omega) q3
    have gS : G (40, 7666, 0) = Γ (40, 7666, 0) := o _ _ (by decide) (by decide) (by decide)
    have gT : G (42, 3, 0) = Γ (42, 3, 0) := o _ _ (by decide) (by decide) (by decide)
    have li : ∀ (k i : Nat), i < 7666 → lqi G k i = if k = p.toNat then Γ (40, 7666, 0) i else lqi Γ k i := by
      intro k i hi
      unfold lqi
      rw [hw2]
      unfold tm_cp
      by_cases e : k = p.toNat
      · rw [if_pos (by omega), if_pos e]
        congr 1; omega
      · rw [if_neg (by omega), if_neg e]
    have r0 : rel G1 0 (Γ (40, 7666, 0)) := by
      obtain ⟨⟨a0, a1, a2, a3, a4⟩, r5, r6, r7⟩ := h1
      unfold rel
      rw [hGo 1 0 0 (by omega) (by decide), hGo 3 0 0 (by omega) (by decide), hGo 7 40 0 (by omega) (by decide), hGo 7 60 0 (by omega) (by decide), hGo 7 10 0 (by omega) (by decide), hGo 2 4 0 (by omega) (by decide), hGo 8 (4 * 40) 0 (by omega) (by decide), hGo 8 (4 * 60) 0 (by omega) (by decide)]
      exact ⟨⟨a0, a1, a2, a3, a4⟩, r5, r6, r7⟩
    have rX : rel X 0 (Γ (40, 7666, 0)) := by
      obtain ⟨⟨a0, a1, a2, a3, a4⟩, r5, r6, r7⟩ := h1
      unfold rel
      rw [hXo 1 0 0 (by omega) (by decide), hXo 3 0 0 (by omega) (by decide), hXo 7 40 0 (by omega) (by decide), hXo 7 60 0 (by omega) (by decide), hXo 7 10 0 (by omega) (by decide), hXo 2 4 0 (by omega) (by decide), hXo 8 (4 * 40) 0 (by omega) (by decide), hXo 8 (4 * 60) 0 (by omega) (by decide)]
      exact ⟨⟨a0, a1, a2, a3, a4⟩, r5, r6, r7⟩
    refine ⟨⟨?_, fun k hk => ?_, ?_, fun k hk => ?_, ?_, ?_⟩, ?_⟩
    · rw [gS]; exact r0.congr h3.b (fun k n hk => c k n 0 hk) (fun _ _ => rfl)
    · rw [c 12 4 0 (by decide), hGi, hw1]
      by_cases e : k = p.toNat
      · refine Or.inr ⟨⟨if_pos e, by rw [e, tgu_s]⟩, ?_⟩
        have q := rel_copy (w := p.toNat + 1) (w2 := 0) (by omega) rX
        rw [← eG1] at q
        rw [e]
        exact q.congr h3.b (fun k2 n hk2 => c k2 n _ hk2) (fun i hi => by rw [li _ i (by omega), if_pos rfl])
      · rw [if_neg e, tgu_n e]
        refine (h2 k hk).imp id (fun q => ⟨q.1, ?_⟩)
        have q2 : rel G1 (k + 1) (lqi Γ k) := by
          obtain ⟨⟨a0, a1, a2, a3, a4⟩, r5, r6, r7⟩ := q.2
          unfold rel
          rw [hGo 1 0 (k + 1) (by omega) (by decide), hGo 3 0 (k + 1) (by omega) (by decide), hGo 7 40 (k + 1) (by omega) (by decide), hGo 7 60 (k + 1) (by omega) (by decide), hGo 7 10 (k + 1) (by omega) (by decide), hGo 2 4 (k + 1) (by omega) (by decide), hGo 8 (4 * 40) (k + 1) (by omega) (by decide), hGo 8 (4 * 60) (k + 1) (by omega) (by decide)]
          exact ⟨⟨a0, a1, a2, a3, a4⟩, r5, r6, r7⟩
        exact q2.congr (h4 k hk).b (fun k2 n hk2 => c k2 n _ hk2) (fun i hi => by rw [li _ i (by omega), if_neg e])
    · rw [gS, gT]; exact h3
    · rw [gT]
      by_cases e : k = p.toNat
      · exact h3.ext (fun i hi => by rw [li k i hi, if_pos e])
      · exact (h4 k hk).ext (fun i hi => by rw [li k i hi, if_neg e])
    · rw [o 43 8800 (by decide) (by decide) (by decide), o 45 1056 (by decide) (by decide) (by decide), o 46 22 (by decide) (by decide) (by decide), o 47 6 (by decide) (by decide) (by decide), o 48 22 (by decide) (by decide) (by decide), o 49 22 (by decide) (by decide) (by decide), o 50 22 (by decide) (by decide) (by decide), o 51 22 (by decide) (by decide) (by decide), gT]
      exact h5
    · rw [o 39 0 (by decide) (by decide) (by decide)]; exact h6
    · rw [if_pos z, if_pos z, ← e1, hGo 3 0 0 (by omega) (by decide)]
      exact h1.1.2.1
  · rw [if_neg z] at e1 hw1 hw2
    refine ⟨?_, by rw [if_neg z, if_neg z]⟩
    rw [e1] at hw1 hw2 hg
    have c : ∀ k n u, ¬ k = 71 → ¬ k = 70 → G (k, n, u) = Γ (k, n, u) := fun k n u q1 q2 => hg _ (by intro q; have := List.mem_cons.mp q; rcases this with y | y; (exact q1 y); (exact q2 (List.mem_singleton.mp y)))
    have gS : G (40, 7666, 0) = Γ (40, 7666, 0) := c _ _ _ (by decide) (by decide)
    have gT : G (42, 3, 0) = Γ (42, 3, 0) := c _ _ _ (by decide) (by decide)
    refine h.step (fun k n w hk _ => c k n w (by omega) (by omega)) hw2 hw1 ?_ ?_ ?_ ?_ ?_
    · rw [gS]; exact h1.congr h3.b (fun k n hk => c k n 0 (by omega) (by omega)) (fun _ _ => rfl)
    · rw [gS, gT]; exact h3
    · rw [c 43 8800 0 (by decide) (by decide), c 45 1056 0 (by decide) (by decide), c 46 22 0 (by decide) (by decide), c 47 6 0 (by decide) (by decide), c 48 22 0 (by decide) (by decide), c 49 22 0 (by decide) (by decide), c 50 22 0 (by decide) (by decide), c 51 22 0 (by decide) (by decide), gT]
      exact h5
    · rw [gT]; exact Int.le_refl _
    · rw [c 39 0 0 (by decide) (by decide)]; exact h6
