/-! THE CLAIM OUT OF ONE WALK OF THE LAW'S BODY. Your part is whole_start (and what it stands on); all else here is the same for every law, but numbers. -/
def R_law : String := "ThinLineLaw"
def lw_P (b : Addr) (xs : List Int32) (args : Array Value) (s : State) : Prop := args = #[.ref b] ∧ s.IntsAt b xs ∧ xs.length ≤ 3584 ∧ (Jvm.Cond.and given_1 narrow_1).before args s = true
def lw_Q (_ : Array Value) (s : State) (o : Outcome) (t : State) : Prop := o = .returned (some (.int 1)) ∧ Framed s o t [] 600000 7302249
def lw_Z (below : List Frame) (a : Array Value) (s : State) : State → Prop := fun t => ∃ o, t.status = .running ∧ Ended t below o ∧ lw_Q a s o t
/-- the law's own end, with 1 on the stack, nothing written that was there before, its room as the claim has it -/
theorem lw_ret {p : Program} {l : Launch} {e : Env} {s : State} {m : MethodId} {below : List Frame} {meth : Method} {c : Code} {b : Nat} (hx : p.tables.exec = Jvm.exec) (hb : c.code = code) (hr : meth.sig.returnType = ret) (hlocks : meth.locks = false) {pc : Nat} {H : Heap} {ls : Array Slot} (hdg : decode code pc = .ok (.ireturn, 1)) : W p l e room_1 s m #[Value.ref b] below meth c H [] 600000 7302249 (lw_Z below #[Value.ref b] s) (F0 m pc ls [.int 1]) := by
  intro T hT X
  obtain ⟨fs, hret, hrun, hended, hW, hframe⟩ := X.leave (v := some (.int 1)) (hlocks := hlocks) (fun h => by rw [hr] at h; cases h)
  have hmeth' : T.vm.method? m = some meth := X.method'
  refine ⟨T.setFrames fs, ?_, .returned (some (.int 1)), hrun, hended, rfl, ⟨_, rfl⟩, hW, hframe⟩
  jvm_step X.here [X.here.top, hx, hb, hdg, hmeth', hr, ret, narrow_b1]
  (try refine ⟨rfl, ?_⟩); (try refine ⟨rfl, ?_⟩)
  first | (intro acts; rw [hret _ acts rfl rfl rfl]) | rw [hret _ _ rfl rfl rfl]
  exact Steps.refl _
/-- what holds at the law's entry: the machine, the code, the tables' words (any of lw_tbl by 'hts w (by decide +kernel)'), the script of L ints xs at the cell b, what the Statement gives of the start (any of its parts by flat_of_before) -/
def lw_At (p : Program) (s : State) (m : MethodId) (meth : Method) (c : Code) (b L : Nat) (xs : Nat → Int32) : Prop :=
  p.tables.exec = Jvm.exec ∧ c.code = code ∧ meth.sig.returnType = ret ∧ c.maxLocals = 4 ∧ s.vm.findClass R_law = some m.cls ∧ (∀ w ∈ lw_tbl, w.before #[Value.ref b] s = true) ∧ va_X b L xs s s.heap ∧ b < s.heap.size ∧ meth.locks = false ∧ (Jvm.Cond.and given_1 narrow_1).before #[Value.ref b] s = true
theorem tl_N_in : ∀ w ∈ tl_N, w ∈ lw_tbl := by decide +kernel
section TQX
variable {p : Program} {l : Launch} {e : Env} {R : Room} {s : State} {m : MethodId} {args : Array Value} {below : List Frame} {meth : Method} {c : Code} {H : Heap} {locs : List Loc} {cells slots : Nat} {Q : State → Prop}
variable {cc : ByteArray} {pc : Nat} {ls : Array Slot} {rest st0 As : List Value} {D : va_G} {A : Nat → Prop} {a b : Nat} {H0 : Heap} {cy : Nat → ClassId} {L : List Nat} {K : Nat → tk_K} {f : Nat → va_E} {Γ : tk_G} {mc ms : Nat}
theorem tq_ciX {post : Int32 → tx_S → Prop} {w9 : Nat} {a : Array Value} (hS : va_S A H0 H locs) (hF : ∀ q, tp_A L H.size q → A q)
    (hr : va_Run p l e R s m args below meth c H locs cells slots mc ms (F0 m pc ls st0) rest (va_Qi post (tp_BX D cy L K Γ H.size w9) (tp_A L H.size) a) (tp_A L H.size))
    (kk : ∀ (r : Int32) (L2 : List Nat) (K2 : Nat → tk_K) (f2 : Nat → va_E) (H1 : Heap) (locs1 : List Loc), post r (L2, K2, f2) → va_P D vwCl (va_pl L2 f2) H1 → tp_I cy L2 K2 Γ f2 → L2.Nodup → tp_U L2 K2 → (∀ k n w a, tp_r L K k n w a → tp_r L2 K2 k n w a) → (∀ a ∈ L2, a ∈ L ∨ (H.size ≤ a ∧ (K2 a).2.2 = w9)) → va_S A H0 H1 locs1 → W p l e R s m args below meth c H1 locs1 (cells + mc) (slots + ms) Q (F0 m (pc + 3) ls (.int r :: rest))) : W p l e R s m args below meth c H locs cells slots Q (F0 m pc ls st0) := by
  refine va_calli hr hS (fun q _ h => hF q h) hF (fun r u t H1 locs1 ht hvm hw hB hz1 hk1 hS1 => ?_)
  obtain ⟨h1, h2, h3, h4, h5, h6⟩ := hB
  rw [ht] at h1
  exact kk r u.1 u.2.1 u.2.2 H1 locs1 hw h1 h2 h3 h4 h5 h6 hS1
end TQX
/-- between two calls of the law -/
def lq_S (D : va_G) (cy : Nat → ClassId) (A : Nat → Prop) (s : State) (L : List Nat) (K : Nat → tk_K) (Γ : tk_G) (f : Nat → va_E) (H : Heap) (locs : List Loc) (x y : Nat) : Prop :=
  va_P D vwCl (va_pl L f) H ∧ tp_I cy L K Γ f ∧ L.Nodup ∧ tp_U L K ∧ (∀ q ∈ L, A q) ∧ va_S A s.heap H locs ∧ tp_r L K 0 0 0 x ∧ tp_r L K 39 0 0 y ∧ lq Γ ∧ ∀ j : Nat, Γ (12, 4, 0) j = 0 → ∀ a ∈ L, ¬ (K a).2.2 = j + 1
theorem lq_free {L L2 : List Nat} {K K2 : Nat → tk_K} {Γ G : tk_G} {w9 sz : Nat} (h : ∀ j : Nat, Γ (12, 4, 0) j = 0 → ∀ a ∈ L, ¬ (K a).2.2 = j + 1) (hm : ∀ k n w a, tp_r L K k n w a → tp_r L2 K2 k n w a) (hn : ∀ a ∈ L2, a ∈ L ∨ (sz ≤ a ∧ (K2 a).2.2 = w9)) (hg : ∀ j : Nat, G (12, 4, 0) j = 0 → Γ (12, 4, 0) j = 0) (hw : (∀ a ∈ L2, a ∈ L) ∨ ∀ j : Nat, G (12, 4, 0) j = 0 → ¬ w9 = j + 1) : ∀ j : Nat, G (12, 4, 0) j = 0 → ∀ a ∈ L2, ¬ (K2 a).2.2 = j + 1 := by
  intro j hj a ha
  have old : a ∈ L → ¬ (K2 a).2.2 = j + 1 := fun q => by
    have e := hm (K a).1 (K a).2.1 (K a).2.2 a ⟨q, rfl⟩
    rw [e.2]
    exact h j (hg j hj) a q
  rcases hw with q | q
  · exact old (q a ha)
  · rcases hn a ha with z | z
    · exact old z
    · rw [z.2]; exact q j hj
theorem lq_imgz {Γ G : tk_G} {p : Int} (h : lq Γ) (e : G = if 0 ≤ p ∧ p ≤ 3 then tm_img Γ p.toNat else Γ) : (∀ j : Nat, G (12, 4, 0) j = 0 → Γ (12, 4, 0) j = 0) ∧ ((0 ≤ p ∧ p ≤ 3) → ∀ j : Nat, G (12, 4, 0) j = 0 → ¬ p.toNat + 1 = j + 1) := by
  by_cases z : 0 ≤ p ∧ p ≤ 3
  · rw [if_pos z] at e
    have hXi : ∀ j : Nat, G (12, 4, 0) j = if j = p.toNat then 1 else Γ (12, 4, 0) j := by
      intro j
      rw [e]
      unfold tm_img
      rw [tmc_o (Or.inl (by omega))]
      by_cases q : j = p.toNat
      · rw [if_pos q, q]
        by_cases y : Γ (12, 4, 0) p.toNat = 0
        · rw [if_pos y, tg_s]
        · rw [if_neg y]
          have q := (h.2.1 p.toNat (by omega)).resolve_left (fun q => y q.1)
          exact q.1.1
      · rw [if_neg q]
        by_cases y : Γ (12, 4, 0) p.toNat = 0
        · rw [if_pos y, tg_i q]
          exact congrFun (tm_z0_n (by show ¬ 0 = p.toNat + 1; omega)) j
        · rw [if_neg y]
    refine ⟨fun j hj => ?_, fun _ j hj => ?_⟩
    · rw [hXi] at hj
      by_cases q : j = p.toNat
      · rw [if_pos q] at hj; omega
      · rw [if_neg q] at hj; exact hj
    · intro q
      rw [hXi, if_pos (by omega)] at hj
      omega
  · rw [if_neg z] at e
    exact ⟨fun j hj => by rw [e] at hj; exact hj, fun q => absurd q z⟩
/-- the ghost at the start -/
def tk_0 : tk_G := fun κ i => if κ = (40, 7666, 0) ∧ 441 ≤ i ∧ i < 7641 then -1000000 else 0
theorem tk_0z {k n w i : Nat} (h : k ≠ 40) : tk_0 (k, n, w) i = 0 := if_neg (fun q => h (congrArg (fun z : tk_K => z.1) q.1))
theorem tk_0s {g : Nat → Int32} (h : (∀ k : Nat, (k < 441 ∨ 7641 ≤ k) → g k = 0) ∧ ∀ k : Nat, 441 ≤ k → k < 7641 → g k = -1000000) (j : Nat) : (g j).toInt = tk_0 (40, 7666, 0) j := by
  unfold tk_0
  by_cases q : 441 ≤ j ∧ j < 7641
  · rw [if_pos ⟨rfl, q⟩, h.2 j q.1 q.2]; rfl
  · rw [if_neg (fun z => q z.2), h.1 j (by omega)]; rfl
theorem tk_0l {i : Nat} (h : i < 441 ∨ 7641 ≤ i) : tk_0 (40, 7666, 0) i = 0 := if_neg (fun z => by omega)
theorem lq_0 : lq tk_0 := by
  have zi : ∀ k i : Nat, lqi tk_0 k i = 0 := fun k i => tk_0z (by decide)
  refine ⟨⟨⟨?_, ?_, ?_, ?_, ?_⟩, fun j hj => ?_, fun k hk => ?_, fun k hk => ?_⟩, fun k hk => Or.inl ⟨tk_0z (by decide), tk_0z (by decide)⟩, ?_, fun k hk => ?_, ?_, ?_⟩
  · rw [tk_0z (by decide), tk_0l (by omega)]
  · rw [tk_0z (by decide), tk_0l (by omega)]
  · rw [tk_0z (by decide), tk_0l (by omega)]
  · rw [tk_0z (by decide), tk_0l (by omega)]
  · rw [tk_0z (by decide), tk_0l (by omega)]
  · rw [tk_0z (by decide), tk_0l (by omega)]
  · rw [tk_0l (by omega)] at hk; omega
  · rw [tk_0l (by omega)] at hk; omega
  · refine ⟨⟨?_, ?_, ?_, ?_, ?_, ?_⟩, fun r hr => ?_, fun k hk => ⟨?_, ?_, ?_⟩, fun l hl => ?_, fun l hl => ?_, fun c hc => ?_, fun k hk => ?_, fun q hq => ?_⟩
    · rw [tk_0l (by omega)]; omega
    · rw [tk_0l (by omega)]; omega
    · rw [tk_0l (by omega)]; omega
    · rw [tk_0l (by omega)]; omega
    · rw [tk_0l (by omega)]; omega
    · rw [tk_0l (by omega)]; omega
    · rw [tk_0l (by omega)]; omega
    · rw [tk_0l (by omega)]; omega
    · rw [tk_0l (by omega)]; omega
    · rw [tk_0l (by omega)]; omega
    · rw [tk_0l (by omega)]; omega
    · rw [tk_0l (by omega)] at hl; omega
    · rw [tk_0l (by omega)]; omega
    · exact Or.inl (if_pos ⟨rfl, by omega, by omega⟩)
    · rw [tk_0l (by omega)] at hq; omega
  · refine ⟨⟨?_, ?_, ?_, ?_, ?_, ?_⟩, fun r hr => ?_, fun k hk => ⟨?_, ?_, ?_⟩, fun l hl => ?_, fun l hl => ?_, fun c hc => ?_, fun k hk => ?_, fun q hq => ?_⟩
    · rw [zi]; omega
    · rw [zi]; omega
    · rw [zi]; omega
    · rw [zi]; omega
    · rw [zi]; omega
    · rw [zi]; omega
    · rw [zi]; omega
    · rw [zi]; omega
    · rw [zi]; omega
    · rw [zi]; omega
    · rw [zi]; omega
    · rw [zi] at hl; omega
    · rw [zi]; omega
    · rw [zi]; omega
    · rw [zi] at hq; omega
  · refine ⟨⟨?_, ?_, ?_, fun j hj => ?_⟩, fun t ht => ?_⟩
    · rw [tk_0z (by decide)]; omega
    · rw [tk_0z (by decide)]; omega
    · rw [tk_0z (by decide)]; omega
    · rw [tk_0z (by decide)]; omega
    · rw [tk_0z (by decide), tk_0z (by decide), tk_0z (by decide)] at ht; omega
  · rw [tk_0z (by decide)]; omega
