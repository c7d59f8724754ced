/-! ===== rows for the reference: bytes, truths, ends with a ghost of their own ===== -/
def tp_BG (D : va_G) (cy : Nat → ClassId) (L : List Nat) (K : Nat → tk_K) (Γ : tk_G) (f : Nat → va_E) (ks : List Nat) (u : (Nat → va_E) × tk_G) (t : State) : Prop := va_P D vwCl (va_pl L u.1) t.heap ∧ tp_I cy L K u.2 u.1 ∧ (∀ b, (K b).1 ∉ ks → u.1 b = f b) ∧ ∀ κ : tk_K, κ.1 ∉ ks → u.2 κ = Γ κ
theorem tg_fr {Γ Γ1 Γ2 : tk_G} {ks : List Nat} {k n w j : Nat} {v : Int} (h : ∀ κ : tk_K, κ.1 ∉ ks → Γ1 κ = Γ κ) (e : Γ2 = tg Γ1 (k, n, w) j v) (hk : k ∈ ks) : ∀ κ : tk_K, κ.1 ∉ ks → Γ2 κ = Γ κ := by
  intro κ hκ
  rw [e, ← h κ hκ]
  funext i
  exact tg_n (fun q => hκ (by rw [q]; exact hk))
theorem tg_f {Γ : tk_G} {κ : tk_K} {j : Nat} {v : Int} : tg Γ κ j v κ = tgu (Γ κ) j v := by rw [tg_c, tgc_s]
theorem tg_fr2 {Γ Γ1 Γ2 : tk_G} {ks ks2 : List Nat} (h : ∀ κ : tk_K, κ.1 ∉ ks → Γ1 κ = Γ κ) (h2 : ∀ κ : tk_K, κ.1 ∉ ks2 → Γ2 κ = Γ1 κ) (hk : ∀ k ∈ ks2, k ∈ ks) : ∀ κ : tk_K, κ.1 ∉ ks → Γ2 κ = Γ κ := fun κ hκ => (h2 κ (fun q => hκ (hk _ q))).trans (h κ hκ)
theorem tp_gz_upd {n i : Nat} {g : Nat → Int32} {γ : Nat → Int} {v : Int32} {x : Int} (h : ∀ j : Nat, j < n → (g j).toInt = γ j) (hv : v.toInt = x) : ∀ j : Nat, j < n → (upd g i v j).toInt = tgu γ i x j := by
  intro j hj
  by_cases e : j = i
  · rw [e, pk_us, tgu_s]; exact hv
  · rw [pk_un e, tgu_n e]; exact h j hj
theorem tl_J.narI {r : Int32} {P : Prop} (h : tl_J r P) : (vp_nar .boolean r).toInt = r.toInt := by
  rcases h with ⟨e, _⟩ | e <;> rw [e] <;> rfl
theorem tl_E.narI {r : Int32} {P : Prop} (h : tl_E r P 1 0) : (vp_nar .boolean r).toInt = r.toInt := by
  rcases h with ⟨_, e⟩ | ⟨_, e⟩ <;> rw [e] <;> rfl
section TPB
variable {p : Program} {l : Launch} {e : Env} {R : Room} {s : State} {m : MethodId} {args : Array Value} {below : List Frame} {meth : Method} {c : Code} {H : Heap} {locs : List Loc} {cells slots : Nat} {Q : State → Prop}
variable {cc : ByteArray} {pc : Nat} {ls : Array Slot} {rest st0 As : List Value} {D : va_G} {A : Nat → Prop} {a b : Nat} {H0 : Heap} {cy : Nat → ClassId} {L : List Nat} {K : Nat → tk_K} {f : Nat → va_E} {Γ : tk_G} {mc ms : Nat}
theorem tp_bald (hexec : p.tables.exec = Jvm.exec) (hb : c.code = cc) (hK : va_K D vwCl (tl_T cy) s) (hP : va_P D vwCl (va_pl L f) H) (ha : a ∈ L) {n : Nat} {g : Nat → Int32} (hf : f a = .inl (cy 3, n, .inl g)) {i : Int32} (hin : vp_in i n) (hdg : decode cc pc = .ok (.baload, 1))
    (kk : W p l e R s m args below meth c H locs cells slots Q (F0 m (pc + 1) ls (.int (g i.toNatClampNeg) :: rest))) : W p l e R s m args below meth c H locs cells slots Q (F0 m pc ls (.int i :: .ref a :: rest)) := by
  obtain ⟨q0, h0⟩ := tp_at (f := f) ha
  rw [hf] at h0
  exact va_bald hexec hb hK hP q0 3 h0 rfl hin hdg kk
theorem tp_bast (hexec : p.tables.exec = Jvm.exec) (hb : c.code = cc) (hK : va_K D vwCl (tl_T cy) s) (hP : va_P D vwCl (va_pl L f) H) (hD : va_D A (va_pl L f)) (hS : va_S A H0 H locs) (ha : a ∈ L) {n : Nat} {g : Nat → Int32} (hf : f a = .inl (cy 3, n, .inl g)) {i x : Int32} (hin : vp_in i n) (hdg : decode cc pc = .ok (.bastore, 1))
    (kk : ∀ (H1 : Heap) (locs1 : List Loc), va_P D vwCl (va_pl L (va_up f a (.inl (cy 3, n, .inl (upd g i.toNatClampNeg (vp_nar .byte x)))))) H1 → va_D A (va_pl L (va_up f a (.inl (cy 3, n, .inl (upd g i.toNatClampNeg (vp_nar .byte x)))))) → va_S A H0 H1 locs1 → W p l e R s m args below meth c H1 locs1 cells slots Q (F0 m (pc + 1) ls rest)) : W p l e R s m args below meth c H locs cells slots Q (F0 m pc ls (.int x :: .int i :: .ref a :: rest)) := by
  obtain ⟨q0, h0⟩ := tp_at (f := f) ha
  have hs := tp_set (e := .inl (cy 3, n, .inl (upd g i.toNatClampNeg (vp_nar .byte x)))) hD ha h0
  rw [hf] at h0
  refine va_bast hexec hb hK hP hD hS q0 3 h0 rfl hin hdg (fun H1 locs1 hP1 hD1 hS1 => ?_)
  rw [hs] at hP1 hD1
  exact kk H1 locs1 hP1 hD1 hS1
theorem tq_ciR {post : Int32 → ((Nat → va_E) × tk_G) → Prop} {ks : List Nat} {a : Array Value} (hS : va_S A H0 H locs) (hF : ∀ q, tp_A L H.size q → A q)
    (hr : va_Run p l e R s m args below meth c H locs cells slots mc ms (F0 m pc ls st0) rest (va_Qi post (tp_BG D cy L K Γ f ks) (tp_A L H.size) a) (tp_A L H.size))
    (kk : ∀ (r : Int32) (u : Nat → va_E) (Δ : tk_G) (H1 : Heap) (locs1 : List Loc), post r (u, Δ) → va_P D vwCl (va_pl L u) H1 → tp_I cy L K Δ u → (∀ b, (K b).1 ∉ ks → u b = f b) → (∀ κ : tk_K, κ.1 ∉ ks → Δ κ = Γ κ) → va_S A H0 H1 locs1 → W p l e R s m args below meth c H1 locs1 (cells + mc) (slots + ms) Q (F0 m (pc + 3) ls (.int r :: rest))) : W p l e R s m args below meth c H locs cells slots Q (F0 m pc ls st0) := by
  refine va_calli hr hS (fun q _ h => hF q h) hF (fun r u t H1 locs1 ht hvm hw hB hz1 hk1 hS1 => ?_)
  obtain ⟨h1, h2, h3, h4⟩ := hB
  rw [ht] at h1
  exact kk r u.1 u.2 H1 locs1 hw h1 h2 h3 h4 hS1
theorem tq_clR {post : Int64 → ((Nat → va_E) × tk_G) → Prop} {ks : List Nat} {a : Array Value} (hS : va_S A H0 H locs) (hF : ∀ q, tp_A L H.size q → A q)
    (hr : va_Run p l e R s m args below meth c H locs cells slots mc ms (F0 m pc ls st0) rest (va_Ql post (tp_BG D cy L K Γ f ks) (tp_A L H.size) a) (tp_A L H.size))
    (kk : ∀ (r : Int64) (u : Nat → va_E) (Δ : tk_G) (H1 : Heap) (locs1 : List Loc), post r (u, Δ) → va_P D vwCl (va_pl L u) H1 → tp_I cy L K Δ u → (∀ b, (K b).1 ∉ ks → u b = f b) → (∀ κ : tk_K, κ.1 ∉ ks → Δ κ = Γ κ) → va_S A H0 H1 locs1 → W p l e R s m args below meth c H1 locs1 (cells + mc) (slots + ms) Q (F0 m (pc + 3) ls (.long r :: rest))) : W p l e R s m args below meth c H locs cells slots Q (F0 m pc ls st0) := by
  refine va_calll hr hS (fun q _ h => hF q h) hF (fun r u t H1 locs1 ht hvm hw hB hz1 hk1 hS1 => ?_)
  obtain ⟨h1, h2, h3, h4⟩ := hB
  rw [ht] at h1
  exact kk r u.1 u.2 H1 locs1 hw h1 h2 h3 h4 hS1
theorem tq_cvR {post : ((Nat → va_E) × tk_G) → Prop} {ks : List Nat} {a : Array Value} (hS : va_S A H0 H locs) (hF : ∀ q, tp_A L H.size q → A q)
    (hr : va_Run p l e R s m args below meth c H locs cells slots mc ms (F0 m pc ls st0) rest (va_Qv post (tp_BG D cy L K Γ f ks) (tp_A L H.size) a) (tp_A L H.size))
    (kk : ∀ (u : Nat → va_E) (Δ : tk_G) (H1 : Heap) (locs1 : List Loc), post (u, Δ) → va_P D vwCl (va_pl L u) H1 → tp_I cy L K Δ u → (∀ b, (K b).1 ∉ ks → u b = f b) → (∀ κ : tk_K, κ.1 ∉ ks → Δ κ = Γ κ) → va_S A H0 H1 locs1 → W p l e R s m args below meth c H1 locs1 (cells + mc) (slots + ms) Q (F0 m (pc + 3) ls (rest))) : W p l e R s m args below meth c H locs cells slots Q (F0 m pc ls st0) := by
  refine va_callv hr hS (fun q _ h => hF q h) hF (fun u t H1 locs1 ht hvm hw hB hz1 hk1 hS1 => ?_)
  obtain ⟨h1, h2, h3, h4⟩ := hB
  rw [ht] at h1
  exact kk u.1 u.2 H1 locs1 hw h1 h2 h3 h4 hS1
end TPB
theorem tl_and255 {x z : Int32} (e : z = x &&& 255) : 0 ≤ z.toInt ∧ z.toInt ≤ 255 := by
  obtain ⟨j, hj, e2⟩ := pk_andE x (m := 255) 8 (by decide)
  rw [e, e2]
  have h9 : (nI j).toInt = j := nI_toInt (by omega)
  omega
theorem tl_and15 {x z : Int32} (e : z = x &&& 15) : 0 ≤ z.toInt ∧ z.toInt ≤ 15 := by
  obtain ⟨j, hj, e2⟩ := pk_andE x (m := 15) 4 (by decide)
  rw [e, e2]
  have h9 : (nI j).toInt = j := nI_toInt (by omega)
  omega
