def tl_few (p : Int32) : Int32 := if p.toInt = 0 then 0 else -2
theorem tl_few_0 {p : Int32} (h : p.toInt = 0) : tl_few p = 0 := if_pos h
theorem tl_few_p {p : Int32} (h : ¬ p.toInt = 0) : tl_few p = -2 := if_neg h
theorem tl_brief {p : Int32} (h : 0 ≤ p.toInt) : (if p.toInt64 - 0 < (0 : Int64) then (0 : Int64) else p.toInt64 - 0).toInt32 = p := by
  have h1 : p.toInt64 - 0 = p.toInt64 := by simp
  rw [h1]
  have h2 : ¬ p.toInt64 < 0 := by
    rw [Int64.lt_iff_toInt_lt, Int32.toInt_toInt64]
    show ¬ p.toInt < 0
    omega
  rw [if_neg h2]
  simp
theorem tl_fill {f : Nat → Int32} {i z v : Int32} (h0 : 0 ≤ i.toInt) (hz : z.toInt = i.toInt + 1) (h : ∀ j : Nat, (j : Int) < i.toInt → f j = v) : ∀ j : Nat, (j : Int) < z.toInt → upd f i.toNatClampNeg v j = v := by
  intro j hj
  by_cases e : j = i.toNatClampNeg
  · rw [e]; exact pk_us
  · rw [pk_un e]
    refine h j ?_
    have hi : i.toNatClampNeg = i.toInt.toNat := rfl
    rw [hi] at e
    omega
