def tl_few (p : Int32) : Int32 := if p.toInt = 0 then 0 else -2
theorem tl_few_0 {p : Int32} (h : p.toInt = 0) : tl_few p = 0 := if_pos h
theorem tl_few_p {p : Int32} (h : ¬ p.toInt = 0) : tl_few p = -2 := if_neg h
theorem tl_brief {p : Int32} (h : 0 ≤ p.toInt) : (if p.toInt64 - 0 < (0 : Int64) then (0 : Int64) else p.toInt64 - 0).toInt32 = p := by
  have h1 : p.toInt64 - 0 = p.toInt64 := by simp
  rw [h1]
  have h2 : ¬ p.toInt64 < 0 := by
    rw [Int64.lt_iff_toInt_lt, Int32.toInt_toInt64]
    show ¬ p.toInt < 0
    omega
  rw [if_neg h2]
  simp
theorem tl_fill {f : Nat → Int32} {i z v : Int32} (h0 : 0 ≤ i.toInt) (hz : z.toInt = i.toInt + 1) (h : ∀ j : Nat, (j : Int) < i.toInt → f j = v) : ∀ j : Nat, (j : Int) < z.toInt → upd f i.toNatClampNeg v j = v := by
  intro j hj
  by_cases e : j = i.toNatClampNeg
  · rw [e]; exact pk_us
  · rw [pk_un e]
    refine h j ?_
    have hi : i.toNatClampNeg = i.toInt.toNat := rfl
    rw [hi] at e
    omega
theorem tl_addN (x y : Int32) {a b : Int} (ha : x.toInt = a) (hb : y.toInt = b) (h1 : -2147483648 ≤ a + b) (h2 : a + b < 2147483648) : (x + y).toInt = a + b := by
  subst ha; subst hb; exact tl_addI h1 h2
theorem tl_subN (x y : Int32) {a b : Int} (ha : x.toInt = a) (hb : y.toInt = b) (h1 : -2147483648 ≤ a - b) (h2 : a - b < 2147483648) : (x - y).toInt = a - b := by
  subst ha; subst hb; exact tl_subI h1 h2
theorem tl_mulN (x y : Int32) {a b : Int} (ha : x.toInt = a) (hb : y.toInt = b) (h1 : -2147483648 ≤ a * b) (h2 : a * b < 2147483648) : (x * y).toInt = a * b := by
  subst ha; subst hb; rw [Int32.toInt_mul]; exact tl_bmod h1 h2
theorem tl_ltN {x : Int32} {n : Nat} (h : x.toInt < n) (h0 : 0 < n := by decide) : x.toNatClampNeg < n := by
  have hi : x.toNatClampNeg = x.toInt.toNat := rfl
  omega
theorem tl_sdstep {f : Nat → Int32} {i v : Int32} (h1 : 441 ≤ i.toInt) (h2 : i.toInt < 7641) (h : ∀ k : Nat, (k < 441 ∨ 7641 ≤ k) → f k = 0) : ∀ k : Nat, (k < 441 ∨ 7641 ≤ k) → upd f i.toNatClampNeg v k = 0 := by
  intro k hk
  have hi : i.toNatClampNeg = i.toInt.toNat := rfl
  rw [pk_un (by rw [hi]; omega)]
  exact h k hk
theorem tl_maxF {x y : Int32} : ((if x < y then y else x).toInt = y.toInt ∧ x.toInt ≤ y.toInt) ∨ ((if x < y then y else x).toInt = x.toInt ∧ y.toInt ≤ x.toInt) := by
  by_cases h : x < y
  · rw [if_pos h]; exact Or.inl ⟨rfl, Int.le_of_lt (tl_lt h)⟩
  · rw [if_neg h]; exact Or.inr ⟨rfl, tl_nlt h⟩
theorem tl_ne0 {x : Int32} (h : ¬ x.toInt = 0) : ¬ x = 0 := fun e => h (by rw [e]; rfl)
theorem tl_ne0L {x : Int64} (h : ¬ x.toInt = 0) : ¬ x = 0 := fun e => h (by rw [e]; rfl)
theorem tl_minF {x y : Int32} : ((if y < x then y else x).toInt = y.toInt ∧ y.toInt ≤ x.toInt) ∨ ((if y < x then y else x).toInt = x.toInt ∧ x.toInt ≤ y.toInt) := by
  by_cases h : y < x
  · rw [if_pos h]; exact Or.inl ⟨rfl, Int.le_of_lt (tl_lt h)⟩
  · rw [if_neg h]; exact Or.inr ⟨rfl, tl_nlt h⟩
/-- a yes that says something, or no -/
def tl_J (r : Int32) (P : Prop) : Prop := (r = 1 ∧ P) ∨ r = 0
theorem tl_J.t {r : Int32} {P : Prop} (h : tl_J r P) (h2 : ¬ r = 0) : P := h.elim (fun q => q.2) (fun q => absurd q h2)
theorem tl_J.nar {r : Int32} {P : Prop} (h : tl_J r P) : narrow .boolean (.int r) = .int r := by
  rcases h with ⟨e, _⟩ | e <;> rw [e] <;> rfl
theorem tl_Jor0 {v z : Int32} (h : tl_J v True) (e : z = v ||| 0) : tl_J z True := by
  rcases h with ⟨e2, _⟩ | e2 <;> rw [e2] at e
  · exact Or.inl ⟨e.trans (by decide), trivial⟩
  · exact Or.inr (e.trans (by decide))
theorem tl_Jor1 {v z : Int32} (h : tl_J v True) (e : z = v ||| 1) : tl_J z True := by
  rcases h with ⟨e2, _⟩ | e2 <;> rw [e2] at e
  · exact Or.inl ⟨e.trans (by decide), trivial⟩
  · exact Or.inl ⟨e.trans (by decide), trivial⟩
theorem tl_absF {x : Int32} : ((if 0 ≤ x then x else 0 - x).toInt = x.toInt ∧ 0 ≤ x.toInt) ∨ (x.toInt < 0 ∧ ((if 0 ≤ x then x else 0 - x).toInt = -x.toInt ∨ x.toInt = -2147483648)) := by
  by_cases h : (0 : Int32) ≤ x
  · rw [if_pos h]; exact Or.inl ⟨rfl, tl_le h⟩
  · rw [if_neg h]
    have h2 : x.toInt < 0 := tl_nle h
    by_cases h3 : x.toInt = -2147483648
    · exact Or.inr ⟨h2, Or.inr h3⟩
    · have h4 := Int32.le_toInt x
      have h5 : (0 - x).toInt = (0 : Int) - x.toInt := tl_subN 0 x rfl rfl (by omega) (by omega)
      exact Or.inr ⟨h2, Or.inl (by omega)⟩
/-- as Met.ofW, for a class that isn't plainly named but has no row of its own -/
theorem tl_ofWF {l : Launch} {y : MethodName} {ws ws' : List Cond} {rm : Room} {Pc : Array Value → State → Prop} {Qc : Array Value → State → Outcome → State → Prop} {mc ms : Nat} {free : Addr → Prop} {cc : ByteArray} {maxL : Nat} {ret : Option FieldType}
    (hy : plainFor y = true) (hw : ws = Cond.code y cc maxL ret :: ws')
    (body : ∀ p e s m args below meth c s₁, BodyLoose p l y (headSpec ws rm) cc maxL ret e s m args below meth c s₁ → c.maxLocals = maxL → Pc args s →
      W p l e (headSpec ws rm).room s m args below meth c s.heap [] 0 0 (MQ below Qc args s mc ms free) (entryFrame m args maxL)) : Met l y ws rm Pc Qc mc ms free := by
  refine MetFree.of_bodySF (code := cc) (maxLocals := maxL) (ret := ret) hy ?_ ?_
  · intro args s m h hn
    obtain ⟨meth, c, h1, h2, h3, h4, h5, h6, -, -⟩ := Cond.code_spec hn (atoms_spec (ws := ws) h _ (by rw [hw]; exact List.mem_cons_self))
    exact ⟨meth, c, h1, h2, h3, h4, h5, h6⟩
  · intro p e s m args below meth c s₁ B hml hP _
    have hh0 : s₁.heap = s.heap := by rw [B.state]; rfl
    obtain ⟨t, a1, o, b1, b2, b3⟩ := body p e s m args below meth c s₁ B hml hP s₁ hh0 (Stand.of_body B)
    exact ⟨t, o, a1, b1, b2, ⟨b3.1, b3.2⟩⟩
