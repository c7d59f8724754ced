/-! ===== the reference's texts: words on the tape, what a clause's signs do to a stack ===== -/
def tr_L (τ : Nat → Int) (T k : Int) : Prop := k < T ∧ 97 ≤ τ k.toNat ∧ τ k.toNat ≤ 122
def tr_v (τ : Nat → Int) (s : Int) : Nat → Int64
  | 0 => 0
  | n + 1 => if n < 8 then (tr_v τ s n <<< ((8 : Int32).toInt64 &&& 63)) ||| Int64.ofInt (τ (s + n).toNat) else tr_v τ s n
/-- the word w stands at s -/
def tr_W (τ : Nat → Int) (T s : Int) (w : Int64) : Prop := ∃ n : Nat, 0 < n ∧ n < 8 ∧ (∀ j : Nat, j < n → tr_L τ T (s + j)) ∧ ¬ tr_L τ T (s + n) ∧ tr_v τ s n = w
theorem tr_W.L {τ : Nat → Int} {T s : Int} {w : Int64} (h : tr_W τ T s w) : tr_L τ T s := by
  obtain ⟨n, h0, _, h1, _⟩ := h
  have := h1 0 h0
  rwa [show s + ((0 : Nat) : Int) = s from by omega] at this
theorem tr_W.uniq {τ : Nat → Int} {T s : Int} {w w2 : Int64} (h : tr_W τ T s w) (h2 : tr_W τ T s w2) : w = w2 := by
  obtain ⟨n, a1, a2, a3, a4, a5⟩ := h
  obtain ⟨k, b1, b2, b3, b4, b5⟩ := h2
  rcases Nat.lt_trichotomy n k with q | q | q
  · exact absurd (b3 n q) a4
  · subst q; rw [← a5, ← b5]
  · exact absurd (a3 k q) b4
theorem tr_I64 (x : Int32) : x.toInt64 = Int64.ofInt x.toInt := by
  apply Int64.toInt_inj.mp
  have h1 := Int32.le_toInt x
  have h2 := Int32.toInt_lt x
  rw [Int32.toInt_toInt64, Int64.toInt_ofInt_of_le (by omega) (by omega)]
theorem tr_v1 {τ : Nat → Int} {s : Int} {n : Nat} (h : n < 8) : tr_v τ s (n + 1) = (tr_v τ s n <<< ((8 : Int32).toInt64 &&& 63)) ||| Int64.ofInt (τ (s + n).toNat) := if_pos h
theorem tr_v2 {τ : Nat → Int} {s : Int} {n : Nat} (h : ¬ n < 8) : tr_v τ s (n + 1) = tr_v τ s n := if_neg h
theorem tr_step {τ : Nat → Int} {s : Int} {n i : Nat} {v v2 z : Int64} {b : Int32} (hn : n < 8) (hv : v = tr_v τ s n) (e1 : z = v <<< ((8 : Int32).toInt64 &&& 63)) (e2 : v2 = z ||| b.toInt64) (hb : b.toInt = τ i) (hi : i = (s + n).toNat) : v2 = tr_v τ s (n + 1) := by
  rw [tr_v1 hn, e2, e1, hv, tr_I64 b, hb, hi]
theorem tr_Wn {τ : Nat → Int} {T s : Int} {n : Nat} {w : Int64} (h1 : ∀ j : Nat, j < n → tr_L τ T (s + j)) (h2 : ¬ tr_L τ T (s + n)) : tr_W τ T s w ↔ (0 < n ∧ n < 8 ∧ tr_v τ s n = w) := by
  constructor
  · rintro ⟨k, b1, b2, b3, b4, b5⟩
    rcases Nat.lt_trichotomy n k with q | q | q
    · exact absurd (b3 n q) h2
    · subst q; exact ⟨b1, b2, b5⟩
    · exact absurd (h1 k q) b4
  · rintro ⟨a1, a2, a3⟩
    exact ⟨n, a1, a2, h1, h2, a3⟩
/-- what an entry does to the number of things on the stack; when it may stand -/
def rp_d (e : Int) : Int := if e % 16 ≤ 1 then 1 else if e % 16 = 11 then 0 else -1
def rp_ok (e d : Int) : Prop := 0 ≤ e ∧ 0 ≤ d ∧ ((e % 16 = 0 ∧ d < 60) ∨ (e % 16 = 1 ∧ e / 16 ≤ 4 ∧ d < 60) ∨ (e % 16 = 11 ∧ 1 ≤ d) ∨ ((2 ≤ e % 16 ∧ e % 16 ≤ 13 ∧ ¬ e % 16 = 11) ∧ 2 ≤ d))
def rd (σ : Nat → Int) (a : Nat) : Nat → Int
  | 0 => 0
  | n + 1 => rd σ a n + rp_d (σ (a + n))
def rp (σ : Nat → Int) (a n : Nat) (d : Int) : Prop := (∀ j : Nat, j < n → rp_ok (σ (a + j)) (rd σ a j)) ∧ rd σ a n = d
theorem rd_ext {σ ρ : Nat → Int} {a : Nat} : ∀ {n : Nat}, (∀ j : Nat, j < n → ρ (a + j) = σ (a + j)) → rd ρ a n = rd σ a n
  | 0, _ => rfl
  | n + 1, h => by
    show rd ρ a n + _ = rd σ a n + _
    rw [rd_ext (fun j hj => h j (by omega)), h n (by omega)]
theorem rp.ext {σ ρ : Nat → Int} {a n : Nat} {d : Int} (h : rp σ a n d) (he : ∀ j : Nat, j < n → ρ (a + j) = σ (a + j)) : rp ρ a n d :=
  ⟨fun j hj => by rw [he j hj, rd_ext (fun i hi => he i (by omega))]; exact h.1 j hj, by rw [rd_ext he]; exact h.2⟩
theorem rp.put {σ : Nat → Int} {a n : Nat} {d e : Int} (h : rp σ a n d) (he : rp_ok e d) : rp (tgu σ (a + n) e) a (n + 1) (d + rp_d e) := by
  have hx : ∀ j : Nat, j < n → tgu σ (a + n) e (a + j) = σ (a + j) := fun j hj => tgu_n (by omega)
  refine ⟨fun j hj => ?_, ?_⟩
  · by_cases q : j = n
    · subst q
      rw [tgu_s, rd_ext hx, h.2]
      exact he
    · have hj2 : j < n := by omega
      rw [hx j hj2, rd_ext (fun i hi => hx i (by omega))]
      exact h.1 j hj2
  · show rd _ a n + rp_d _ = _
    rw [tgu_s, rd_ext hx, h.2]
theorem rp0 {σ : Nat → Int} {a : Nat} : rp σ a 0 0 := ⟨fun j hj => absurd hj (Nat.not_lt_zero j), rfl⟩
theorem rp.len {σ : Nat → Int} {a n m : Nat} {d : Int} (h : rp σ a n d) (e : m = n) : rp σ a m d := e ▸ h
/-- how many that take two are waiting -/
def cn (ω : Nat → Int) : Nat → Int
  | 0 => 0
  | n + 1 => cn ω n + (if ω n = 12 ∨ ω n = 13 then 1 else 0)
theorem cn_ext {ω ρ : Nat → Int} : ∀ {n : Nat}, (∀ j : Nat, j < n → ρ j = ω j) → cn ρ n = cn ω n
  | 0, _ => rfl
  | n + 1, h => by
    show cn ρ n + _ = cn ω n + _
    rw [cn_ext (fun j hj => h j (by omega)), h n (by omega)]
theorem cn_nn (ω : Nat → Int) : ∀ n : Nat, 0 ≤ cn ω n
  | 0 => Int.le_refl 0
  | n + 1 => by
    have := cn_nn ω n
    show 0 ≤ cn ω n + _
    split <;> omega
theorem cn1 {ω : Nat → Int} {n : Nat} : cn ω (n + 1) = cn ω n + (if ω n = 12 ∨ ω n = 13 then 1 else 0) := rfl
theorem cn_le (ω : Nat → Int) : ∀ n : Nat, cn ω n ≤ n
  | 0 => Int.le_refl 0
  | n + 1 => by
    have := cn_le ω n
    show cn ω n + _ ≤ _
    split <;> omega
/-- a text is being read: t which, ln its length, nx the place, T the tape's end, md what was made; d lies on the stack of the signs from a on -/
def ps (σ : Nat → Int) (t ln nx T md : Int) (a : Nat) (d : Int) : Prop := (0 ≤ t ∧ t ≤ 21) ∧ (0 ≤ ln ∧ ln ≤ nx ∧ nx ≤ T ∧ T ≤ 400) ∧ (0 ≤ d ∧ d ≤ md ∧ md ≤ 60) ∧ (a : Int) ≤ 400 * t + ln ∧ rp σ a ((400 * t + ln).toNat - a) d
theorem ps.put {σ : Nat → Int} {t ln nx T md : Int} {a : Nat} {d e : Int} (h : ps σ t ln nx T md a d) (hl : ln < nx) (he : rp_ok e d) (hm : 0 ≤ d + rp_d e ∧ d + rp_d e ≤ md) : ps (tgu σ (400 * t + ln).toNat e) t (ln + 1) nx T md a (d + rp_d e) := by
  obtain ⟨h1, h2, h3, h4, h5⟩ := h
  refine ⟨h1, by omega, by omega, by omega, ?_⟩
  have h6 := h5.put he
  rw [show a + ((400 * t + ln).toNat - a) = (400 * t + ln).toNat from by omega] at h6
  exact h6.len (by omega)
theorem ps.mv {σ : Nat → Int} {t ln nx nx2 T md md2 : Int} {a : Nat} {d : Int} (h : ps σ t ln nx T md a d) (h1 : nx ≤ nx2 ∧ nx2 ≤ T) (h2 : md ≤ md2 ∧ md2 ≤ 60) : ps σ t ln nx2 T md2 a d := by
  obtain ⟨g1, g2, g3, g4, g5⟩ := h
  exact ⟨g1, by omega, by omega, g4, g5⟩
theorem ps.eq {σ σ2 : Nat → Int} {t t2 ln ln2 nx nx2 T T2 md md2 : Int} {a : Nat} {d : Int} (h : ps σ t ln nx T md a d) (e0 : σ2 = σ) (e1 : t2 = t) (e2 : ln2 = ln) (e3 : nx ≤ nx2 ∧ nx2 ≤ T2) (e4 : T2 = T) (e5 : md ≤ md2 ∧ md2 ≤ 60) : ps σ2 t2 ln2 nx2 T2 md2 a d := by
  subst e0; subst e1; subst e2; subst e4
  exact h.mv e3 e5
theorem rp_push0 {v d : Int} (hv : 0 ≤ v) (hd : 0 ≤ d ∧ d < 60) : rp_ok (0 + 16 * v) d ∧ rp_d (0 + 16 * v) = 1 := by
  have h : (0 + 16 * v) % 16 = 0 := by omega
  refine ⟨⟨by omega, hd.1, Or.inl ⟨h, hd.2⟩⟩, ?_⟩
  unfold rp_d; rw [h]; rfl
theorem rp_push1 {v d : Int} (hv : 0 ≤ v ∧ v ≤ 4) (hd : 0 ≤ d ∧ d < 60) : rp_ok (1 + 16 * v) d ∧ rp_d (1 + 16 * v) = 1 := by
  have h : (1 + 16 * v) % 16 = 1 := by omega
  refine ⟨⟨by omega, hd.1, Or.inr (Or.inl ⟨h, by omega, hd.2⟩)⟩, ?_⟩
  unfold rp_d; rw [h]; rfl
theorem rp_not {s d : Int} (hs : s = 11) (hd : 1 ≤ d) : rp_ok (s + 16 * 0) d ∧ rp_d (s + 16 * 0) = 0 := by
  subst hs
  exact ⟨⟨by omega, by omega, Or.inr (Or.inr (Or.inl ⟨by decide, hd⟩))⟩, rfl⟩
theorem rp_two {s d : Int} (hs : 2 ≤ s ∧ s ≤ 13 ∧ ¬ s = 11) (hd : 2 ≤ d) : rp_ok (s + 16 * 0) d ∧ rp_d (s + 16 * 0) = -1 := by
  have h : (s + 16 * 0) % 16 = s := by omega
  refine ⟨⟨by omega, by omega, Or.inr (Or.inr (Or.inr ⟨by omega, hd⟩))⟩, ?_⟩
  unfold rp_d; rw [h, if_neg (by omega), if_neg (by omega)]
/-- between two states of the reading: lengths grow, signs ahead and of other texts stay -/
def fz (σ ρ lam mu : Nat → Int) (t : Int) : Prop := (∀ j : Nat, ¬ (j : Int) = t → mu j = lam j) ∧ lam t.toNat ≤ mu t.toNat ∧ ∀ i : Nat, (i : Int) < 400 * t + lam t.toNat ∨ 400 * t + 400 ≤ i → ρ i = σ i
theorem fz.rfl {σ lam : Nat → Int} {t : Int} : fz σ σ lam lam t := ⟨fun _ _ => Eq.refl _, Int.le_refl _, fun _ _ => Eq.refl _⟩
theorem fz.trans {σ ρ ς lam mu nu : Nat → Int} {t : Int} (h : fz σ ρ lam mu t) (h2 : fz ρ ς mu nu t) : fz σ ς lam nu t :=
  ⟨fun j hj => (h2.1 j hj).trans (h.1 j hj), Int.le_trans h.2.1 h2.2.1, fun i hi => (h2.2.2 i (hi.elim (fun q => Or.inl (Int.lt_of_lt_of_le q (by have := h.2.1; omega))) Or.inr)).trans (h.2.2 i hi)⟩
theorem fz.put {σ lam : Nat → Int} {t e : Int} (h0 : 0 ≤ t) (hl : 0 ≤ lam t.toNat ∧ lam t.toNat < 400) : fz σ (tgu σ (400 * t + lam t.toNat).toNat e) lam (tgu lam t.toNat (lam t.toNat + 1)) t :=
  ⟨fun j hj => tgu_n (by omega), by rw [tgu_s]; omega, fun i hi => tgu_n (by omega)⟩
def stren (x : Int) : Int := if x = 13 then 1 else if x = 12 then 2 else if x = 11 then 3 else 0
theorem stren_of {x r : Int} (h : (x = 13 ∧ r = 1) ∨ (x = 12 ∧ r = 2) ∨ (x = 11 ∧ r = 3) ∨ ((¬ x = 13 ∧ ¬ x = 12 ∧ ¬ x = 11) ∧ r = 0)) : r = stren x := by
  unfold stren
  rcases h with ⟨rfl, rfl⟩ | ⟨rfl, rfl⟩ | ⟨rfl, rfl⟩ | ⟨⟨h1, h2, h3⟩, rfl⟩
  · rfl
  · rfl
  · rfl
  · rw [if_neg h1, if_neg h2, if_neg h3]
theorem stren_pos {x : Int} (h : 1 ≤ stren x) : x = 11 ∨ x = 12 ∨ x = 13 := by
  unfold stren at h
  by_cases h1 : x = 13
  · exact Or.inr (Or.inr h1)
  · by_cases h2 : x = 12
    · exact Or.inr (Or.inl h2)
    · by_cases h3 : x = 11
      · exact Or.inl h3
      · rw [if_neg h1, if_neg h2, if_neg h3] at h; omega
theorem stren_no {x : Int} (h : stren x < 1) : ¬ x = 11 ∧ ¬ x = 12 ∧ ¬ x = 13 := by
  refine ⟨?_, ?_, ?_⟩ <;> (intro q; subst q; revert h; decide)
theorem rp_pop {w D c : Int} (hw : w = 11 ∨ w = 12 ∨ w = 13) (hc : 0 ≤ c) (hD : D = 1 + (c + (if w = 12 ∨ w = 13 then 1 else 0))) : rp_ok (w + 16 * 0) D ∧ rp_d (w + 16 * 0) = (1 + c) - D := by
  rcases hw with rfl | rfl | rfl
  · rw [if_neg (by omega)] at hD
    obtain ⟨h1, h2⟩ := rp_not (s := 11) (d := D) rfl (by omega)
    exact ⟨h1, by rw [h2]; omega⟩
  · rw [if_pos (by omega)] at hD
    obtain ⟨h1, h2⟩ := rp_two (s := 12) (d := D) (by omega) (by omega)
    exact ⟨h1, by rw [h2]; omega⟩
  · rw [if_pos (by omega)] at hD
    obtain ⟨h1, h2⟩ := rp_two (s := 13) (d := D) (by omega) (by omega)
    exact ⟨h1, by rw [h2]; omega⟩
theorem ps.dd {σ : Nat → Int} {t ln nx T md : Int} {a : Nat} {d d2 : Int} (h : ps σ t ln nx T md a d) (e : d2 = d) : ps σ t ln nx T md a d2 := e ▸ h
theorem cn_put {ω : Nat → Int} {n : Nat} {x : Int} : cn (tgu ω n x) (n + 1) = cn ω n + (if x = 12 ∨ x = 13 then 1 else 0) := by
  rw [cn1, tgu_s, cn_ext (fun j hj => tgu_n (by omega))]
/-- what may wait -/
def ent (x : Int) : Prop := x = 11 ∨ x = 12 ∨ x = 13 ∨ x = 91
theorem ent_put {ω : Nat → Int} {m m2 x : Int} (h0 : 0 ≤ m) (h : ∀ j : Nat, (j : Int) < m → ent (ω j)) (hx : ent x) (hm : m2 = m + 1) : ∀ j : Nat, (j : Int) < m2 → ent (tgu ω m.toNat x j) := by
  intro j hj
  by_cases e : j = m.toNat
  · rw [e, tgu_s]; exact hx
  · rw [tgu_n e]; exact h j (by omega)
theorem tl_J.imp {r : Int32} {P Q : Prop} (h : tl_J r P) (f : P → Q) : tl_J r Q := Or.imp (fun q => ⟨q.1, f q.2⟩) id h
/-- the same, kept where a reading fails, too: lengths grow, signs ahead and of other texts stay -/
def fw (σ ρ lam mu : Nat → Int) (t : Int) : Prop := fz σ ρ lam mu t
theorem fw.same {σ lam : Nat → Int} {t : Int} : fw σ σ lam lam t := fz.rfl
theorem fw.trans {σ ρ ς lam mu nu : Nat → Int} {t : Int} (h : fw σ ρ lam mu t) (h2 : fw ρ ς mu nu t) : fw σ ς lam nu t := fz.trans h h2
theorem fz.fw {σ ρ lam mu : Nat → Int} {t : Int} (h : fz σ ρ lam mu t) (_ : 0 ≤ lam t.toNat) : fw σ ρ lam mu t := h
