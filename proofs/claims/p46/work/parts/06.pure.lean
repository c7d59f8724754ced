def tl_few (p : Int32) : Int32 := if p.toInt = 0 then 0 else -2
theorem tl_few_0 {p : Int32} (h : p.toInt = 0) : tl_few p = 0 := if_pos h
theorem tl_few_p {p : Int32} (h : ¬ p.toInt = 0) : tl_few p = -2 := if_neg h
theorem tl_brief {p : Int32} (h : 0 ≤ p.toInt) : (if p.toInt64 - 0 < (0 : Int64) then (0 : Int64) else p.toInt64 - 0).toInt32 = p := by
  have h1 : p.toInt64 - 0 = p.toInt64 := by simp
  rw [h1]
  have h2 : ¬ p.toInt64 < 0 := by
    rw [Int64.lt_iff_toInt_lt, Int32.toInt_toInt64]
    show ¬ p.toInt < 0
    omega
  rw [if_neg h2]
  simp
theorem tl_fill {f : Nat → Int32} {i z v : Int32} (h0 : 0 ≤ i.toInt) (hz : z.toInt = i.toInt + 1) (h : ∀ j : Nat, (j : Int) < i.toInt → f j = v) : ∀ j : Nat, (j : Int) < z.toInt → upd f i.toNatClampNeg v j = v := by
  intro j hj
  by_cases e : j = i.toNatClampNeg
  · rw [e]; exact pk_us
  · rw [pk_un e]
    refine h j ?_
    have hi : i.toNatClampNeg = i.toInt.toNat := rfl
    rw [hi] at e
    omega
theorem tl_addN (x y : Int32) {a b : Int} (ha : x.toInt = a) (hb : y.toInt = b) (h1 : -2147483648 ≤ a + b) (h2 : a + b < 2147483648) : (x + y).toInt = a + b := by
  subst ha; subst hb; exact tl_addI h1 h2
theorem tl_subN (x y : Int32) {a b : Int} (ha : x.toInt = a) (hb : y.toInt = b) (h1 : -2147483648 ≤ a - b) (h2 : a - b < 2147483648) : (x - y).toInt = a - b := by
  subst ha; subst hb; exact tl_subI h1 h2
theorem tl_mulN (x y : Int32) {a b : Int} (ha : x.toInt = a) (hb : y.toInt = b) (h1 : -2147483648 ≤ a * b) (h2 : a * b < 2147483648) : (x * y).toInt = a * b := by
  subst ha; subst hb; rw [Int32.toInt_mul]; exact tl_bmod h1 h2
theorem tl_ltN {x : Int32} {n : Nat} (h : x.toInt < n) (h0 : 0 < n := by decide) : x.toNatClampNeg < n := by
  have hi : x.toNatClampNeg = x.toInt.toNat := rfl
  omega
theorem tl_sdstep {f : Nat → Int32} {i v : Int32} (h1 : 441 ≤ i.toInt) (h2 : i.toInt < 7641) (h : ∀ k : Nat, (k < 441 ∨ 7641 ≤ k) → f k = 0) : ∀ k : Nat, (k < 441 ∨ 7641 ≤ k) → upd f i.toNatClampNeg v k = 0 := by
  intro k hk
  have hi : i.toNatClampNeg = i.toInt.toNat := rfl
  rw [pk_un (by rw [hi]; omega)]
  exact h k hk
theorem tl_maxF {x y : Int32} : ((if x < y then y else x).toInt = y.toInt ∧ x.toInt ≤ y.toInt) ∨ ((if x < y then y else x).toInt = x.toInt ∧ y.toInt ≤ x.toInt) := by
  by_cases h : x < y
  · rw [if_pos h]; exact Or.inl ⟨rfl, Int.le_of_lt (tl_lt h)⟩
  · rw [if_neg h]; exact Or.inr ⟨rfl, tl_nlt h⟩
theorem tl_ne0 {x : Int32} (h : ¬ x.toInt = 0) : ¬ x = 0 := fun e => h (by rw [e]; rfl)
theorem tl_ne0L {x : Int64} (h : ¬ x.toInt = 0) : ¬ x = 0 := fun e => h (by rw [e]; rfl)
theorem tl_minF {x y : Int32} : ((if y < x then y else x).toInt = y.toInt ∧ y.toInt ≤ x.toInt) ∨ ((if y < x then y else x).toInt = x.toInt ∧ x.toInt ≤ y.toInt) := by
  by_cases h : y < x
  · rw [if_pos h]; exact Or.inl ⟨rfl, Int.le_of_lt (tl_lt h)⟩
  · rw [if_neg h]; exact Or.inr ⟨rfl, tl_nlt h⟩
/-- a yes that says something, or no -/
def tl_J (r : Int32) (P : Prop) : Prop := (r = 1 ∧ P) ∨ r = 0
theorem tl_J.t {r : Int32} {P : Prop} (h : tl_J r P) (h2 : ¬ r = 0) : P := h.elim (fun q => q.2) (fun q => absurd q h2)
theorem tl_J.nar {r : Int32} {P : Prop} (h : tl_J r P) : narrow .boolean (.int r) = .int r := by
  rcases h with ⟨e, _⟩ | e <;> rw [e] <;> rfl
theorem tl_Jor0 {v z : Int32} (h : tl_J v True) (e : z = v ||| 0) : tl_J z True := by
  rcases h with ⟨e2, _⟩ | e2 <;> rw [e2] at e
  · exact Or.inl ⟨e.trans (by decide), trivial⟩
  · exact Or.inr (e.trans (by decide))
theorem tl_Jor1 {v z : Int32} (h : tl_J v True) (e : z = v ||| 1) : tl_J z True := by
  rcases h with ⟨e2, _⟩ | e2 <;> rw [e2] at e
  · exact Or.inl ⟨e.trans (by decide), trivial⟩
  · exact Or.inl ⟨e.trans (by decide), trivial⟩
theorem tl_absF {x : Int32} : ((if 0 ≤ x then x else 0 - x).toInt = x.toInt ∧ 0 ≤ x.toInt) ∨ (x.toInt < 0 ∧ ((if 0 ≤ x then x else 0 - x).toInt = -x.toInt ∨ x.toInt = -2147483648)) := by
  by_cases h : (0 : Int32) ≤ x
  · rw [if_pos h]; exact Or.inl ⟨rfl, tl_le h⟩
  · rw [if_neg h]
    have h2 : x.toInt < 0 := tl_nle h
    by_cases h3 : x.toInt = -2147483648
    · exact Or.inr ⟨h2, Or.inr h3⟩
    · have h4 := Int32.le_toInt x
      have h5 : (0 - x).toInt = (0 : Int) - x.toInt := tl_subN 0 x rfl rfl (by omega) (by omega)
      exact Or.inr ⟨h2, Or.inl (by omega)⟩
/-- as Met.ofW, for a class that isn't plainly named but has no row of its own -/
theorem tl_ofWF {l : Launch} {y : MethodName} {ws ws' : List Cond} {rm : Room} {Pc : Array Value → State → Prop} {Qc : Array Value → State → Outcome → State → Prop} {mc ms : Nat} {free : Addr → Prop} {cc : ByteArray} {maxL : Nat} {ret : Option FieldType}
    (hy : plainFor y = true) (hw : ws = Cond.code y cc maxL ret :: ws')
    (body : ∀ p e s m args below meth c s₁, BodyLoose p l y (headSpec ws rm) cc maxL ret e s m args below meth c s₁ → c.maxLocals = maxL → Pc args s →
      W p l e (headSpec ws rm).room s m args below meth c s.heap [] 0 0 (MQ below Qc args s mc ms free) (entryFrame m args maxL)) : Met l y ws rm Pc Qc mc ms free := by
  refine MetFree.of_bodySF (code := cc) (maxLocals := maxL) (ret := ret) hy ?_ ?_
  · intro args s m h hn
    obtain ⟨meth, c, h1, h2, h3, h4, h5, h6, -, -⟩ := Cond.code_spec hn (atoms_spec (ws := ws) h _ (by rw [hw]; exact List.mem_cons_self))
    exact ⟨meth, c, h1, h2, h3, h4, h5, h6⟩
  · intro p e s m args below meth c s₁ B hml hP _
    have hh0 : s₁.heap = s.heap := by rw [B.state]; rfl
    obtain ⟨t, a1, o, b1, b2, b3⟩ := body p e s m args below meth c s₁ B hml hP s₁ hh0 (Stand.of_body B)
    exact ⟨t, o, a1, b1, b2, ⟨b3.1, b3.2⟩⟩
theorem tl_ne0LI {x : Int32} (h : ¬ x.toInt = 0) : ¬ x.toInt64 = 0 := fun e => h (by rw [← Int32.toInt_toInt64, e]; rfl)
theorem tl_maxFL {x y : Int64} : ((if x < y then y else x).toInt = y.toInt ∧ x.toInt ≤ y.toInt) ∨ ((if x < y then y else x).toInt = x.toInt ∧ y.toInt ≤ x.toInt) := by
  by_cases h : x < y
  · rw [if_pos h]; exact Or.inl ⟨rfl, Int.le_of_lt (Int64.lt_iff_toInt_lt.mp h)⟩
  · rw [if_neg h]; exact Or.inr ⟨rfl, Int.not_lt.mp (fun q => h (Int64.lt_iff_toInt_lt.mpr q))⟩
theorem tl_idivB {x y z : Int32} {B : Int} (e : z = x / y) (hx : 0 ≤ x.toInt) (hy : 0 < y.toInt) (h : x.toInt ≤ B * y.toInt) : 0 ≤ z.toInt ∧ z.toInt ≤ B := by
  have hx2 := Int32.toInt_lt x
  have h1 : z.toInt = x.toInt.tdiv y.toInt := by
    rw [e]
    refine Int32.toInt_div_of_ne_left x y ?_
    intro q
    rw [q] at hx
    exact absurd hx (by decide)
  rw [h1, Int.tdiv_eq_ediv_of_nonneg hx]
  exact ⟨Int.ediv_nonneg hx (Int.le_of_lt hy), by
    have := Int.ediv_le_ediv hy h
    rwa [Int.mul_ediv_cancel _ (Int.ne_of_gt hy)] at this⟩
theorem tl_iremB {x y z : Int32} (e : z = x % y) (hx : 0 ≤ x.toInt) (hy : 0 < y.toInt) : 0 ≤ z.toInt ∧ z.toInt < y.toInt := by
  have h1 : z.toInt = x.toInt.tmod y.toInt := by rw [e]; exact Int32.toInt_mod x y
  rw [h1]
  exact ⟨Int.tmod_nonneg _ hx, Int.tmod_lt_of_pos _ hy⟩
theorem tl_odd {x : Int32} {z1 z2 : Int64} (e1 : z1 = 2 * x.toInt64) (e2 : z2 = z1 + 1) : ¬ z2 = 0 := by
  intro h
  have hx1 := Int32.le_toInt x
  have hx2 := Int32.toInt_lt x
  have h1 : z2.toInt = 2 * x.toInt + 1 := by
    rw [e2, e1, Int64.toInt_add, Int64.toInt_mul, Int32.toInt_toInt64]
    show (((2 : Int) * x.toInt).bmod (2 ^ 64) + 1).bmod (2 ^ 64) = _
    rw [Int.bmod_add_bmod, Int.bmod_eq_of_le (by omega) (by omega)]
  rw [h] at h1
  have h2 : (0 : Int64).toInt = 0 := rfl
  omega
theorem tl_Eor0 {v z : Int32} {P Q : Prop} (h : tl_E v P 1 0) (e : z = v ||| 0) (hq : Q ↔ P) : tl_E z Q 1 0 := by
  rcases h with ⟨p, e2⟩ | ⟨p, e2⟩ <;> rw [e2] at e
  · exact Or.inl ⟨hq.mpr p, e.trans (by decide)⟩
  · exact Or.inr ⟨fun q => p (hq.mp q), e.trans (by decide)⟩
theorem tl_Eor1 {v z : Int32} {P Q : Prop} (h : tl_E v P 1 0) (e : z = v ||| 1) (hq : Q) : tl_E z Q 1 0 := by
  rcases h with ⟨p, e2⟩ | ⟨p, e2⟩ <;> rw [e2] at e
  · exact Or.inl ⟨hq, e.trans (by decide)⟩
  · exact Or.inl ⟨hq, e.trans (by decide)⟩
theorem tl_E.nar {r : Int32} {P : Prop} (h : tl_E r P 1 0) : narrow .boolean (.int r) = .int r := by
  rcases h with ⟨_, e⟩ | ⟨_, e⟩ <;> rw [e] <;> rfl
/-- whether a table of fours has these two -/
def tm_hasL (γ : Nat → Int) (n : Nat) (a b : Int) : Prop := ∃ j : Nat, j < n ∧ γ (4 * (j : Int) + 0).toNat = a ∧ γ (4 * (j : Int) + 1).toNat = b
theorem tm_hasL0 {γ : Nat → Int} {a b : Int} : ¬ tm_hasL γ (0 : Int).toNat a b := fun ⟨_, h, _⟩ => absurd h (Nat.not_lt_zero _)
theorem tm_hasLs {γ : Nat → Int} {x y a b : Int} (hx : 0 ≤ x) (hy : y = x + 1) : tm_hasL γ y.toNat a b ↔ tm_hasL γ x.toNat a b ∨ (γ (4 * x + 0).toNat = a ∧ γ (4 * x + 1).toNat = b) := by
  subst hy
  constructor
  · rintro ⟨j, h, h1, h2⟩
    by_cases hj : (j : Int) = x
    · rw [hj] at h1 h2; exact Or.inr ⟨h1, h2⟩
    · exact Or.inl ⟨j, by omega, h1, h2⟩
  · rintro (⟨j, h, h1, h2⟩ | ⟨h1, h2⟩)
    · exact ⟨j, by omega, h1, h2⟩
    · refine ⟨x.toNat, by omega, ?_, ?_⟩
      · rw [show ((x.toNat : Nat) : Int) = x from by omega]; exact h1
      · rw [show ((x.toNat : Nat) : Int) = x from by omega]; exact h2
/-! what is known of a view -/
def tv_gap (e : va_E) : Prop := ∃ (fs : List Value) (a b : Int32), e = .inr (10, fs) ∧ fs[11]? = some (.int a) ∧ fs[12]? = some (.int b) ∧ (0 ≤ a.toInt ∧ a.toInt ≤ 9999) ∧ 0 ≤ b.toInt ∧ b.toInt ≤ 9999
def tv_kn (e : va_E) (x : Int) : Prop := ∃ (fs : List Value) (a : Int32), e = .inr (10, fs) ∧ fs[13]? = some (.int a) ∧ a.toInt ≤ x
def tv_gc (e : va_E) : Prop := ∃ (fs : List Value) (a : Int32), e = .inr (10, fs) ∧ fs[14]? = some (.int a) ∧ 0 < a.toInt
def tv_len (e : va_E) (r : Int32) : Prop := ∀ (fs : List Value) (a b : Int32), e = .inr (10, fs) → fs[11]? = some (.int a) → fs[12]? = some (.int b) → r = b - a + 1
def tv_gx (f u : Nat → va_E) (o : Nat) : Prop := ∀ (fs : List Value) (v : Nat), f o = .inr (11, fs) → fs[9]? = some (.ref v) → tv_gap (u v)
theorem tv_in {k : Nat} {fs fs2 : List Value} {e : va_E} (h : e = .inr (k, fs)) (h2 : e = .inr (k, fs2)) : fs = fs2 := by
  rw [h] at h2
  exact (Prod.mk.inj (Sum.inr.inj h2)).2
theorem tv_int {a b : Int32} (h : some (Value.int a) = some (.int b)) : a = b := by cases h; rfl
theorem tv_gap.use {e : va_E} {fs : List Value} {a b : Int32} (h : tv_gap e) (hf : e = .inr (10, fs)) (ha : fs[11]? = some (.int a)) (hb : fs[12]? = some (.int b)) : (0 ≤ a.toInt ∧ a.toInt ≤ 9999) ∧ 0 ≤ b.toInt ∧ b.toInt ≤ 9999 := by
  obtain ⟨fs2, a2, b2, h1, h2, h3, h4⟩ := h
  obtain rfl := tv_in hf h1
  obtain rfl := tv_int (ha.symm.trans h2)
  obtain rfl := tv_int (hb.symm.trans h3)
  exact h4
theorem tv_kn.use {e : va_E} {fs : List Value} {a : Int32} {x : Int} (h : tv_kn e x) (hf : e = .inr (10, fs)) (ha : fs[13]? = some (.int a)) : a.toInt ≤ x := by
  obtain ⟨fs2, a2, h1, h2, h3⟩ := h
  obtain rfl := tv_in hf h1
  obtain rfl := tv_int (ha.symm.trans h2)
  exact h3
theorem tv_gc.use {e : va_E} {fs : List Value} {a : Int32} (h : tv_gc e) (hf : e = .inr (10, fs)) (ha : fs[14]? = some (.int a)) : 0 < a.toInt := by
  obtain ⟨fs2, a2, h1, h2, h3⟩ := h
  obtain rfl := tv_in hf h1
  obtain rfl := tv_int (ha.symm.trans h2)
  exact h3
theorem tv_gx.of {f u : Nat → va_E} {o v : Nat} {fs : List Value} (hf : f o = .inr (11, fs)) (hv : fs[9]? = some (.ref v)) (h : tv_gap (u v)) : tv_gx f u o := by
  intro fs2 v2 h1 h2
  obtain rfl := tv_in hf h1
  have e : v = v2 := by
    have := hv.symm.trans h2
    cases this; rfl
  rw [← e]; exact h
theorem tl_lenB {a b : Int32} (ha : 0 ≤ a.toInt ∧ a.toInt ≤ 9999) (hb : 0 ≤ b.toInt ∧ b.toInt ≤ 9999) : (b - a + 1).toInt = b.toInt - a.toInt + 1 := by
  have h1 : (b - a).toInt = b.toInt - a.toInt := tl_subN b a rfl rfl (by omega) (by omega)
  exact tl_addN (b - a) 1 h1 rfl (by omega) (by omega)
