/-- the class ids of the arrays: int, long, boolean, byte, Book, Text, int[] -/
abbrev tl_T (cy : Nat → ClassId) : List (ClassId × FieldType) := [(cy 0, .int), (cy 1, .long), (cy 2, .boolean), (cy 3, .byte), (cy 4, .object "ThinLine$Book"), (cy 5, .object "ThinLine$Text"), (cy 6, .array .int)]
def tl_isN : Cond → Bool
  | .fieldLinkNest .. => true
  | .methodLinkNest .. => true
  | _ => false
def tl_N : List Cond := [.methodLinkNest "ThinLine" 9 ⟨"ThinLine$Book", "<init>", "()V"⟩ "ThinLine", .methodLinkNest "ThinLine$Book" 17 ⟨"ThinLine$Rows", "<init>", "()V"⟩ "ThinLine", .fieldLinkNest "ThinLine" 339 "ThinLine$Rows" "size" "I" "ThinLine", .fieldLinkNest "ThinLine" 488 "ThinLine$Rows" "numbers" "I" "ThinLine", .fieldLinkNest "ThinLine$Sums" 24 "ThinLine$Rows" "glass" "[I" "ThinLine", .fieldLinkNest "ThinLine" 136 "ThinLine$Rows" "glass" "[I" "ThinLine", .fieldLinkNest "ThinLine$Book" 79 "ThinLine$Rows" "glass" "[I" "ThinLine", .fieldLinkNest "ThinLine$Sums" 28 "ThinLine$Rows" "hour" "[I" "ThinLine", .fieldLinkNest "ThinLine" 381 "ThinLine$Rows" "hour" "[I" "ThinLine", .fieldLinkNest "ThinLine" 365 "ThinLine$Rows" "known" "[I" "ThinLine", .fieldLinkNest "ThinLine" 132 "ThinLine$Rows" "raw" "[[I" "ThinLine", .fieldLinkNest "ThinLine$Book" 74 "ThinLine$Rows" "raw" "[[I" "ThinLine", .methodLinkNest "ThinLine$Book" 24 ⟨"ThinLine$Table", "<init>", "(I)V"⟩ "ThinLine", .fieldLinkNest "ThinLine$Maker" 53 "ThinLine$Table" "size" "I" "ThinLine", .fieldLinkNest "ThinLine$Book" 63 "ThinLine$Table" "size" "I" "ThinLine", .fieldLinkNest "ThinLine" 173 "ThinLine$Table" "size" "I" "ThinLine", .fieldLinkNest "ThinLine" 98 "ThinLine$Book" "now" "I" "ThinLine", .fieldLinkNest "ThinLine$Sums" 36 "ThinLine$Book" "now" "I" "ThinLine", .fieldLinkNest "ThinLine$Sums" 31 "ThinLine$Book" "told" "[I" "ThinLine", .fieldLinkNest "ThinLine" 447 "ThinLine$Book" "told" "[I" "ThinLine", .fieldLinkNest "ThinLine" 109 "ThinLine$Book" "rows" "LThinLine$Rows;" "ThinLine", .fieldLinkNest "ThinLine" 147 "ThinLine$Book" "slips" "LThinLine$Table;" "ThinLine", .fieldLinkNest "ThinLine" 170 "ThinLine$Book" "lines" "LThinLine$Table;" "ThinLine", .fieldLinkNest "ThinLine" 429 "ThinLine$Book" "candidates" "LThinLine$Table;" "ThinLine", .fieldLinkNest "ThinLine" 420 "ThinLine$Book" "houses" "LThinLine$Table;" "ThinLine", .fieldLinkNest "ThinLine$Tokens" 25 "ThinLine$Book" "taped" "I" "ThinLine", .fieldLinkNest "ThinLine" 176 "ThinLine$Book" "taped" "I" "ThinLine", .methodLinkNest "ThinLine" 22 ⟨"ThinLine$Texts", "<init>", "(I)V"⟩ "ThinLine", .fieldLinkNest "ThinLine" 470 "ThinLine$Texts" "size" "I" "ThinLine", .methodLinkNest "ThinLine" 37 ⟨"ThinLine$Parser", "<init>", "()V"⟩ "ThinLine", .methodLinkNest "ThinLine$Parser" 11 ⟨"ThinLine$Tokens", "<init>", "()V"⟩ "ThinLine", .fieldLinkNest "ThinLine$Parser" 60 "ThinLine$Tokens" "kind" "[I" "ThinLine", .fieldLinkNest "ThinLine$Parser" 70 "ThinLine$Tokens" "place" "[I" "ThinLine", .fieldLinkNest "ThinLine$Parser" 64 "ThinLine$Tokens" "value" "[I" "ThinLine", .fieldLinkNest "ThinLine$Parser" 57 "ThinLine$Tokens" "size" "I" "ThinLine", .methodLinkNest "ThinLine$Parser" 20 ⟨"ThinLine$Text", "<init>", "()V"⟩ "ThinLine", .fieldLinkNest "ThinLine$View" 40 "ThinLine$Text" "clauses" "I" "ThinLine", .fieldLinkNest "ThinLine$Maker" 47 "ThinLine$Text" "clauses" "I" "ThinLine", .fieldLinkNest "ThinLine$Parser" 76 "ThinLine$Text" "clauses" "I" "ThinLine", .fieldLinkNest "ThinLine" 453 "ThinLine$Text" "clauses" "I" "ThinLine", .fieldLinkNest "ThinLine$View" 46 "ThinLine$Text" "head" "[I" "ThinLine", .fieldLinkNest "ThinLine$Maker" 50 "ThinLine$Text" "head" "[I" "ThinLine", .fieldLinkNest "ThinLine$Parser" 96 "ThinLine$Text" "head" "[I" "ThinLine", .fieldLinkNest "ThinLine$Maker" 63 "ThinLine$Text" "first" "[I" "ThinLine", .fieldLinkNest "ThinLine$Parser" 120 "ThinLine$Text" "first" "[I" "ThinLine", .fieldLinkNest "ThinLine$Maker" 70 "ThinLine$Text" "second" "[I" "ThinLine", .fieldLinkNest "ThinLine$Parser" 127 "ThinLine$Text" "second" "[I" "ThinLine", .fieldLinkNest "ThinLine$Sums" 52 "ThinLine$Text" "sumAt" "[I" "ThinLine", .fieldLinkNest "ThinLine$View" 55 "ThinLine$Text" "testAt" "[I" "ThinLine", .fieldLinkNest "ThinLine$Sums" 40 "ThinLine$Text" "testAt" "[I" "ThinLine", .fieldLinkNest "ThinLine$Parser" 104 "ThinLine$Text" "testAt" "[I" "ThinLine", .fieldLinkNest "ThinLine$View" 58 "ThinLine$Text" "endAt" "[I" "ThinLine", .fieldLinkNest "ThinLine$Sums" 45 "ThinLine$Text" "endAt" "[I" "ThinLine", .fieldLinkNest "ThinLine$Parser" 117 "ThinLine$Text" "endAt" "[I" "ThinLine", .fieldLinkNest "ThinLine$Sums" 61 "ThinLine$Text" "steps" "[I" "ThinLine", .fieldLinkNest "ThinLine$Parser" 107 "ThinLine$Text" "length" "I" "ThinLine", .methodLinkNest "ThinLine" 44 ⟨"ThinLine$Text", "<init>", "()V"⟩ "ThinLine", .methodLinkNest "ThinLine" 51 ⟨"ThinLine$Sums", "<init>", "()V"⟩ "ThinLine", .methodLinkNest "ThinLine" 58 ⟨"ThinLine$Maker", "<init>", "()V"⟩ "ThinLine", .methodLinkNest "ThinLine" 65 ⟨"ThinLine$View", "<init>", "()V"⟩ "ThinLine", .fieldLinkNest "ThinLine" 221 "ThinLine$View" "told" "[Z" "ThinLine", .fieldLinkNest "ThinLine$Rests" 28 "ThinLine$View" "used" "[Z" "ThinLine", .fieldLinkNest "ThinLine$Rests" 34 "ThinLine$View" "seen" "[I" "ThinLine", .fieldLinkNest "ThinLine" 225 "ThinLine$View" "seen" "[I" "ThinLine", .fieldLinkNest "ThinLine$Rests" 37 "ThinLine$View" "height" "[I" "ThinLine", .fieldLinkNest "ThinLine" 255 "ThinLine$View" "height" "[I" "ThinLine", .fieldLinkNest "ThinLine" 292 "ThinLine$View" "gapFrom" "I" "ThinLine", .fieldLinkNest "ThinLine" 324 "ThinLine$View" "gapTo" "I" "ThinLine", .fieldLinkNest "ThinLine" 277 "ThinLine$View" "knots" "I" "ThinLine", .fieldLinkNest "ThinLine" 330 "ThinLine$View" "gapCount" "I" "ThinLine", .fieldLinkNest "ThinLine" 280 "ThinLine$View" "usedCount" "I" "ThinLine", .methodLinkNest "ThinLine" 72 ⟨"ThinLine$Rests", "<init>", "()V"⟩ "ThinLine", .methodLinkNest "ThinLine" 113 ⟨"ThinLine$Rows", "add", "(III)I"⟩ "ThinLine", .methodLinkNest "ThinLine" 122 ⟨"ThinLine$Rows", "has", "(I)Z"⟩ "ThinLine", .methodLinkNest "ThinLine" 129 ⟨"ThinLine$Rows", "put", "(III)I"⟩ "ThinLine", .methodLinkNest "ThinLine$Rows" 41 ⟨"ThinLine", "isColour", "(I)Z"⟩ "ThinLine", .methodLinkNest "ThinLine" 139 ⟨"ThinLine$Book", "slipped", "(II)I"⟩ "ThinLine", .methodLinkNest "ThinLine$Book" 66 ⟨"ThinLine$Table", "cell", "(II)I"⟩ "ThinLine", .methodLinkNest "ThinLine" 151 ⟨"ThinLine$Table", "add", "(IIII)I"⟩ "ThinLine", .methodLinkNest "ThinLine" 156 ⟨"ThinLine$Table", "has", "(I)Z"⟩ "ThinLine", .methodLinkNest "ThinLine" 157 ⟨"ThinLine$Table", "cell", "(II)I"⟩ "ThinLine", .methodLinkNest "ThinLine" 160 ⟨"ThinLine$Table", "set", "(III)V"⟩ "ThinLine", .methodLinkNest "ThinLine" 167 ⟨"ThinLine$Book", "hasLine", "(II)Z"⟩ "ThinLine", .methodLinkNest "ThinLine" 179 ⟨"ThinLine$Book", "append", "(I)V"⟩ "ThinLine", .methodLinkNest "ThinLine" 186 ⟨"ThinLine$Texts", "isFull", "()Z"⟩ "ThinLine", .methodLinkNest "ThinLine" 190 ⟨"ThinLine$Text", "wipe", "()V"⟩ "ThinLine", .methodLinkNest "ThinLine" 193 ⟨"ThinLine$Parser", "parse", "(LThinLine$Book;ILThinLine$Text;)I"⟩ "ThinLine", .methodLinkNest "ThinLine$Parser" 25 ⟨"ThinLine$Tokens", "cut", "(LThinLine$Book;)V"⟩ "ThinLine", .methodLinkNest "ThinLine$Tokens" 30 ⟨"ThinLine$Book", "byteAt", "(I)I"⟩ "ThinLine", .methodLinkNest "ThinLine$Parser" 82 ⟨"ThinLine$Text", "clauseOf", "(I)I"⟩ "ThinLine", .methodLinkNest "ThinLine$Parser" 86 ⟨"ThinLine$Text", "open", "(I)V"⟩ "ThinLine", .methodLinkNest "ThinLine$Parser" 133 ⟨"ThinLine$Text", "step", "(II)V"⟩ "ThinLine", .methodLinkNest "ThinLine" 197 ⟨"ThinLine$Texts", "keep", "(LThinLine$Text;)I"⟩ "ThinLine", .methodLinkNest "ThinLine" 201 ⟨"ThinLine$Texts", "at", "(I)LThinLine$Text;"⟩ "ThinLine", .methodLinkNest "ThinLine" 205 ⟨"ThinLine$Sums", "setRow", "(LThinLine$Rows;I)V"⟩ "ThinLine", .methodLinkNest "ThinLine$Sums" 18 ⟨"ThinLine$Rows", "has", "(I)Z"⟩ "ThinLine", .methodLinkNest "ThinLine" 209 ⟨"ThinLine$Maker", "begin", "(LThinLine$Text;I)V"⟩ "ThinLine", .methodLinkNest "ThinLine$Maker" 15 ⟨"ThinLine$Text", "firstOf", "(II)I"⟩ "ThinLine", .methodLinkNest "ThinLine$Maker" 25 ⟨"ThinLine$Text", "secondOf", "(II)I"⟩ "ThinLine", .methodLinkNest "ThinLine" 213 ⟨"ThinLine$Maker", "eat", "(LThinLine$Text;LThinLine$Table;)V"⟩ "ThinLine", .methodLinkNest "ThinLine$Maker" 60 ⟨"ThinLine$Table", "cell", "(II)I"⟩ "ThinLine", .methodLinkNest "ThinLine$Maker" 66 ⟨"ThinLine", "isColour", "(I)Z"⟩ "ThinLine", .methodLinkNest "ThinLine" 217 ⟨"ThinLine$Maker", "makeAt", "(LThinLine$Text;LThinLine$Sums;I)I"⟩ "ThinLine", .methodLinkNest "ThinLine$Maker" 73 ⟨"ThinLine$Sums", "setColour", "(I)V"⟩ "ThinLine", .methodLinkNest "ThinLine$Maker" 109 ⟨"ThinLine$Sums", "holds", "(LThinLine$Text;I)Z"⟩ "ThinLine", .methodLinkNest "ThinLine$Maker" 113 ⟨"ThinLine$Sums", "sumOf", "(LThinLine$Text;I)J"⟩ "ThinLine", .methodLinkNest "ThinLine$Maker" 87 ⟨"ThinLine", "held", "(JJJ)J"⟩ "ThinLine", .methodLinkNest "ThinLine" 228 ⟨"ThinLine$Book", "readRow", "(II[Z[I)V"⟩ "ThinLine", .methodLinkNest "ThinLine$Book" 70 ⟨"ThinLine$Rows", "has", "(I)Z"⟩ "ThinLine", .methodLinkNest "ThinLine" 232 ⟨"ThinLine$View", "skipBy", "(LThinLine$Text;LThinLine$Sums;)V"⟩ "ThinLine", .methodLinkNest "ThinLine$View" 49 ⟨"ThinLine$Sums", "setColour", "(I)V"⟩ "ThinLine", .methodLinkNest "ThinLine$View" 61 ⟨"ThinLine$Sums", "worked", "(LThinLine$Text;II)J"⟩ "ThinLine", .methodLinkNest "ThinLine" 236 ⟨"ThinLine$View", "frameBy", "(LThinLine$Text;)V"⟩ "ThinLine", .methodLinkNest "ThinLine$View" 65 ⟨"ThinLine$Text", "firstOf", "(II)I"⟩ "ThinLine", .methodLinkNest "ThinLine$View" 78 ⟨"ThinLine$Text", "secondOf", "(II)I"⟩ "ThinLine", .methodLinkNest "ThinLine" 240 ⟨"ThinLine$View", "tally", "()V"⟩ "ThinLine", .methodLinkNest "ThinLine" 243 ⟨"ThinLine$View", "lay", "()V"⟩ "ThinLine", .methodLinkNest "ThinLine" 249 ⟨"ThinLine$View", "isUsed", "(I)Z"⟩ "ThinLine", .methodLinkNest "ThinLine$View" 84 ⟨"ThinLine", "isColour", "(I)Z"⟩ "ThinLine", .methodLinkNest "ThinLine" 252 ⟨"ThinLine$View", "isLaid", "()Z"⟩ "ThinLine", .methodLinkNest "ThinLine" 258 ⟨"ThinLine$View", "leftAt", "(I)I"⟩ "ThinLine", .methodLinkNest "ThinLine" 264 ⟨"ThinLine$View", "deepness", "()I"⟩ "ThinLine", .methodLinkNest "ThinLine" 268 ⟨"ThinLine$View", "noisiness", "()J"⟩ "ThinLine", .methodLinkNest "ThinLine" 274 ⟨"ThinLine$View", "scored", "()J"⟩ "ThinLine", .methodLinkNest "ThinLine" 283 ⟨"ThinLine$View", "gapLength", "()I"⟩ "ThinLine", .methodLinkNest "ThinLine" 286 ⟨"ThinLine$View", "moveTo", "(I)V"⟩ "ThinLine", .methodLinkNest "ThinLine" 289 ⟨"ThinLine$View", "hasDeep", "()Z"⟩ "ThinLine", .methodLinkNest "ThinLine" 300 ⟨"ThinLine$View", "isNotBelow", "(J)Z"⟩ "ThinLine", .methodLinkNest "ThinLine" 306 ⟨"ThinLine$Maker", "eatNothing", "()V"⟩ "ThinLine", .methodLinkNest "ThinLine" 309 ⟨"ThinLine$View", "bendTo", "(I)V"⟩ "ThinLine", .methodLinkNest "ThinLine" 313 ⟨"ThinLine$View", "squares", "()J"⟩ "ThinLine", .methodLinkNest "ThinLine" 327 ⟨"ThinLine$View", "isInGap", "(I)Z"⟩ "ThinLine", .methodLinkNest "ThinLine" 354 ⟨"ThinLine$View", "isTold", "(I)Z"⟩ "ThinLine", .methodLinkNest "ThinLine" 405 ⟨"ThinLine$Rests", "found", "(LThinLine$View;)I"⟩ "ThinLine", .methodLinkNest "ThinLine" 409 ⟨"ThinLine$Rests", "power", "(LThinLine$View;I)J"⟩ "ThinLine", .methodLinkNest "ThinLine" 413 ⟨"ThinLine$Rests", "gather", "(LThinLine$View;I)V"⟩ "ThinLine", .methodLinkNest "ThinLine" 417 ⟨"ThinLine$Rests", "meanAt", "(I)J"⟩ "ThinLine", .methodLinkNest "ThinLine" 449 ⟨"ThinLine$Sums", "setWeather", "(LThinLine$Book;)V"⟩ "ThinLine", .methodLinkNest "ThinLine" 456 ⟨"ThinLine$Sums", "holds", "(LThinLine$Text;I)Z"⟩ "ThinLine", .methodLinkNest "ThinLine" 460 ⟨"ThinLine$Sums", "sumOf", "(LThinLine$Text;I)J"⟩ "ThinLine", .methodLinkNest "ThinLine" 491 ⟨"ThinLine$Book", "copyFrom", "(LThinLine$Book;)V"⟩ "ThinLine", .methodLinkNest "ThinLine$Book" 53 ⟨"ThinLine$Rows", "copyFrom", "(LThinLine$Rows;)V"⟩ "ThinLine", .methodLinkNest "ThinLine$Book" 57 ⟨"ThinLine$Table", "copyFrom", "(LThinLine$Table;)V"⟩ "ThinLine"]
theorem tl_N_all : tl_N.all tl_isN = true := by decide +kernel
theorem tl_N_on {w : Cond} (h : tl_isN w = true) : w.onTables = true := by
  cases w <;> first | rfl | (simp [tl_isN] at h; done)
def tl_ok (U : State) : Prop := (∀ (i : Nat) (w : Cond), tl_N[i]? = some w → va_Nw w U) ∧ va_AO "ThinLine$Book" U ∧ va_AO "ThinLine$Text" U ∧ va_AOA .int U
theorem tl_ok.warm {s U : State} (hW : s.WarmedH U.vm) (h : tl_ok s) : tl_ok U := by
  refine ⟨fun i w hi => ?_, h.2.1.moved hW.alike, h.2.2.1.moved hW.alike, h.2.2.2.moved hW.alike⟩
  have h1 := h.1 i w hi
  have h2 : tl_isN w = true := List.all_eq_true.mp tl_N_all w (List.mem_of_getElem? hi)
  cases w <;> first | exact va_Nw.warmF hW h1 | exact va_Nw.warmM hW h1 | (simp [tl_isN] at h2; done)
theorem tl_ok.same {u U : State} (hv : u.vm = U.vm) (h : tl_ok u) : tl_ok U := by
  have ha : u.vm.Alike U.vm := by rw [hv]; exact Vm.Alike.refl _
  refine ⟨fun i w hi => ?_, h.2.1.moved ha, h.2.2.1.moved ha, h.2.2.2.moved ha⟩
  exact va_Nw.same (tl_N_on (List.all_eq_true.mp tl_N_all w (List.mem_of_getElem? hi))) hv (h.1 i w hi)
/-- a contract's start: the cells ws, the classes, the nest's words -/
def tl_P (D : va_G) (cy : Nat → ClassId) (ws : va_W) (sz : Nat) (U : State) : Prop := U.heap.size = sz ∧ va_P D vwCl ws U.heap ∧ va_K D vwCl (tl_T cy) U ∧ va_D (fun _ => True) ws ∧ tl_ok U
theorem tl_P.blind {D : va_G} {cy : Nat → ClassId} {ws : va_W} {sz : Nat} {As : List Value} : FrameBlind (va_Pc As (tl_P D cy ws sz)) := by
  intro a U g mk q
  obtain ⟨q0, q1, qP, qK, qD, qN⟩ := q
  exact ⟨q0, q1, qP, va_K.moved (u := U) (U := U.calling g mk a) (Vm.Alike.refl U.vm) qK, qD, tl_ok.same (u := U) (U := U.calling g mk a) rfl qN⟩
theorem tl_P.pre {D : va_G} {cy : Nat → ClassId} {wc : va_W} {As : List Value} {s : State} {H : Heap} {A : Nat → Prop} (hK : va_K D vwCl (tl_T cy) s) (hN : tl_ok s) (hP : va_P D vwCl wc H) (hD : va_D A wc) : PreS s H (va_Pc As (tl_P D cy wc H.size)) As :=
  ⟨tl_P.blind, fun U hU hW => ⟨rfl, by rw [hU], by rw [hU]; exact hP, va_K.moved hW.alike hK, hD.weaken (fun _ _ _ _ => trivial), tl_ok.warm hW hN⟩⟩
/-- a contract's end: the cells w1 u -/
def tl_B {S : Type} (D : va_G) (A : Nat → Prop) (w1 : S → va_W) (u : S) (t : State) : Prop := va_P D vwCl (w1 u) t.heap ∧ va_D A (w1 u)
/-- every method's words: its code, and all that the law needs -/
def tl_w (y : MethodName) (b : ByteArray) (n : Nat) (r : Option FieldType) : List Cond := Cond.code y b n r :: tl_L
theorem tl_w_in {y : MethodName} {b : ByteArray} {n : Nat} {r : Option FieldType} (h : Cond.code y b n r ∈ tl_L) : GoodIn tl_L (tl_w y b n r) := by
  intro w hw
  have hm : w ∈ tl_L := by
    rcases List.mem_cons.mp hw with rfl | hw
    · exact h
    · exact hw
  exact ⟨hm, good_of_word (List.mem_filter.mp hm).2⟩
/-- what links a call: static; virtual; to a nest mate -/
def tl_kd (y : MethodName) (n : Nat) : Prop := y.cls ≠ "java/lang/invoke/MethodHandle" ∧ y.cls ≠ "java/lang/invoke/VarHandle" ∧ (parseMethodDescriptor y.desc).map (fun d => d.parameters.length) = some n
def tl_kS (own : String) (idx : Nat) (y : MethodName) (b : ByteArray) (k : Nat) (r : Option FieldType) (n : Nat) : Prop := Cond.code y b k r ∈ tl_L ∧ Cond.methodLink own idx y ∈ tl_L ∧ Cond.static y ∈ tl_L ∧ Cond.initialized y.cls ∈ tl_L ∧ tl_kd y n
def tl_kV (own : String) (idx : Nat) (C : String) (y : MethodName) (b : ByteArray) (k : Nat) (r : Option FieldType) (n : Nat) : Prop := Cond.code y b k r ∈ tl_L ∧ Cond.methodLink own idx y ∈ tl_L ∧ Cond.instanceMethod y ∈ tl_L ∧ Cond.selects C y y ∈ tl_L ∧ Cond.initialized y.cls ∈ tl_L ∧ tl_kd y n
def tl_kI (own : String) (idx : Nat) (y : MethodName) (b : ByteArray) (k : Nat) (n : Nat) : Prop := Cond.code y b k none ∈ tl_L ∧ Cond.methodLink own idx y ∈ tl_L ∧ Cond.instanceMethod y ∈ tl_L ∧ Cond.initialized y.cls ∈ tl_L ∧ y.name = "<init>" ∧ tl_kd y n
def tl_kSN (own : String) (idx : Nat) (y : MethodName) (host : String) (b : ByteArray) (k : Nat) (r : Option FieldType) (n i : Nat) : Prop := Cond.code y b k r ∈ tl_L ∧ tl_N[i]? = some (.methodLinkNest own idx y host) ∧ Cond.static y ∈ tl_L ∧ Cond.initialized y.cls ∈ tl_L ∧ tl_kd y n
def tl_kVN (own : String) (idx : Nat) (C : String) (y : MethodName) (host : String) (b : ByteArray) (k : Nat) (r : Option FieldType) (n i : Nat) : Prop := Cond.code y b k r ∈ tl_L ∧ tl_N[i]? = some (.methodLinkNest own idx y host) ∧ Cond.instanceMethod y ∈ tl_L ∧ Cond.selects C y y ∈ tl_L ∧ Cond.initialized y.cls ∈ tl_L ∧ tl_kd y n
def tl_kIN (own : String) (idx : Nat) (y : MethodName) (host : String) (b : ByteArray) (k : Nat) (n i : Nat) : Prop := Cond.code y b k none ∈ tl_L ∧ tl_N[i]? = some (.methodLinkNest own idx y host) ∧ Cond.instanceMethod y ∈ tl_L ∧ Cond.initialized y.cls ∈ tl_L ∧ y.name = "<init>" ∧ tl_kd y n
section TLC
variable {p : Program} {l : Launch} {e : Env} {R : Room} {s : State} {m : MethodId} {args : Array Value} {below : List Frame} {meth : Method} {c : Code} {H : Heap} {locs : List Loc} {cells slots : Nat} {Q : State → Prop}
variable {cc : ByteArray} {pc : Nat} {ls : Array Slot} {rest st0 As : List Value} {D : va_G} {A : Nat → Prop} {a b : Nat} {ws wc wr : va_W} {H0 : Heap} {cy : Nat → ClassId}
variable {own C host : String} {idx i nL maxL n mc ms : Nat} {y : MethodName} {bytes : ByteArray} {ret : Option FieldType} {rm : Room} {Qc : Array Value → State → Outcome → State → Prop} {free : Addr → Prop}
theorem tl_cb (hta : ∀ w ∈ tl_L, w.before args s = true) (k1 : Cond.code y bytes maxL ret ∈ tl_L) (k2 : Cond.methodLink own idx y ∈ tl_L) (k3 : Cond.initialized y.cls ∈ tl_L) (k4 : tl_kd y n) (hrc : rm.cells = mc) (hrs : rm.slots = ms) (hR : rm.frames + 1 ≤ R.frames ∧ 8 + (maxL + 11) + rm.locals ≤ R.locals) : CallB R s args own idx y bytes maxL ret (tl_w y bytes maxL ret) rm mc ms n :=
  callB_of n hta (tl_w_in k1) rfl hrc hrs (hta _ k3) (hta _ k2) k4 hR
theorem tl_cn (hta : ∀ w ∈ tl_L, w.before args s = true) (hN : tl_ok s) (k1 : Cond.code y bytes maxL ret ∈ tl_L) (k2 : tl_N[i]? = some (.methodLinkNest own idx y host)) (k3 : Cond.initialized y.cls ∈ tl_L) (k4 : tl_kd y n) (hrc : rm.cells = mc) (hrs : rm.slots = ms) (hR : rm.frames + 1 ≤ R.frames ∧ 8 + (maxL + 11) + rm.locals ≤ R.locals) : va_CN R s args own idx y host bytes maxL ret (tl_w y bytes maxL ret) rm mc ms n :=
  va_cnB n hta (tl_w_in k1) rfl hrc hrs (hN.1 i _ k2) (hta _ k3) k4 hR
theorem tl_rS (S : CallFix p m c cc nL s args tl_L own) (hK : va_K D vwCl (tl_T cy) s) (hN : tl_ok s) (hP : va_P D vwCl wc H) (hD : va_D A wc) (k : tl_kS own idx y bytes maxL ret n) (hM : Met l y (tl_w y bytes maxL ret) rm (va_Pc As (tl_P D cy wc H.size)) Qc mc ms free) (hrc : rm.cells = mc) (hrs : rm.slots = ms) (hR : rm.frames + 1 ≤ R.frames ∧ 8 + (maxL + 11) + rm.locals ≤ R.locals)
    (hn : As.length = n) (hsize : ls.size = nL) (hstack : st0 = As.reverse ++ rest) (hW : (rest.map fun v => v.category).sum ≤ 8) (hdg : decode cc pc = .ok (.invokestatic idx, 3)) (hf : cells + mc ≤ R.cells ∧ slots + ms ≤ R.slots) :
    va_Run p l e R s m args below meth c H locs cells slots mc ms (F0 m pc ls st0) rest (Qc As.toArray) free :=
  va_runS S hM ⟨tl_cb S.2.2.2.2 k.1 k.2.1 k.2.2.2.1 k.2.2.2.2 hrc hrs hR, S.2.2.2.2 _ k.2.2.1⟩ (tl_P.pre hK hN hP hD) rfl hn hsize hstack (lv_room hW) hdg hf
theorem tl_rI (S : CallFix p m c cc nL s args tl_L own) (hK : va_K D vwCl (tl_T cy) s) (hN : tl_ok s) (hP : va_P D vwCl wc H) (hD : va_D A wc) (k : tl_kI own idx y bytes maxL n) (hM : Met l y (tl_w y bytes maxL none) rm (va_Pc (.ref b :: As) (tl_P D cy wc H.size)) Qc mc ms free) (hrc : rm.cells = mc) (hrs : rm.slots = ms) (hR : rm.frames + 1 ≤ R.frames ∧ 8 + (maxL + 11) + rm.locals ≤ R.locals)
    (hn : As.length = n) (hsize : ls.size = nL) (hstack : st0 = As.reverse ++ .ref b :: rest) (hW : (rest.map fun v => v.category).sum ≤ 8) (hdg : decode cc pc = .ok (.invokespecial idx, 3)) (hf : cells + mc ≤ R.cells ∧ slots + ms ≤ R.slots) :
    va_Run p l e R s m args below meth c H locs cells slots mc ms (F0 m pc ls st0) rest (Qc (Value.ref b :: As).toArray) free :=
  va_runI S hM ⟨tl_cb S.2.2.2.2 k.1 k.2.1 k.2.2.2.1 k.2.2.2.2.2 hrc hrs hR, k.2.2.2.2.1, S.2.2.2.2 _ k.2.2.1⟩ (tl_P.pre hK hN hP hD) rfl hn hsize hstack (lv_room hW) hdg hf
theorem tl_rIN (S : CallFix p m c cc nL s args tl_L own) (hK : va_K D vwCl (tl_T cy) s) (hN : tl_ok s) (hP : va_P D vwCl wc H) (hD : va_D A wc) (k : tl_kIN own idx y host bytes maxL n i) (hM : Met l y (tl_w y bytes maxL none) rm (va_Pc (.ref b :: As) (tl_P D cy wc H.size)) Qc mc ms free) (hrc : rm.cells = mc) (hrs : rm.slots = ms) (hR : rm.frames + 1 ≤ R.frames ∧ 8 + (maxL + 11) + rm.locals ≤ R.locals)
    (hn : As.length = n) (hsize : ls.size = nL) (hstack : st0 = As.reverse ++ .ref b :: rest) (hW : (rest.map fun v => v.category).sum ≤ 8) (hdg : decode cc pc = .ok (.invokespecial idx, 3)) (hf : cells + mc ≤ R.cells ∧ slots + ms ≤ R.slots) :
    va_Run p l e R s m args below meth c H locs cells slots mc ms (F0 m pc ls st0) rest (Qc (Value.ref b :: As).toArray) free :=
  va_runIN (host := host) S hM ⟨tl_cn S.2.2.2.2 hN k.1 k.2.1 k.2.2.2.1 k.2.2.2.2.2 hrc hrs hR, k.2.2.2.2.1, S.2.2.2.2 _ k.2.2.1⟩ (tl_P.pre hK hN hP hD) rfl hn hsize hstack (lv_room hW) hdg hf
theorem tl_rV {ci : Nat} {T : u_T} {NF : Nat} {fs : List Value} (S : CallFix p m c cc nL s args tl_L own) (hK : va_K D vwCl (tl_T cy) s) (hN : tl_ok s) (hP : va_P D vwCl wc H) (hD : va_D A wc) (hci : vwCl[ci]? = some (C, T, NF)) (q0 : Nat) (he : wc[q0]? = some (b, .inr (ci, fs))) (k : tl_kV own idx C y bytes maxL ret n) (hM : Met l y (tl_w y bytes maxL ret) rm (va_Pc (.ref b :: As) (tl_P D cy wc H.size)) Qc mc ms free) (hrc : rm.cells = mc) (hrs : rm.slots = ms) (hR : rm.frames + 1 ≤ R.frames ∧ 8 + (maxL + 11) + rm.locals ≤ R.locals)
    (hn : As.length = n) (hsize : ls.size = nL) (hstack : st0 = As.reverse ++ .ref b :: rest) (hW : (rest.map fun v => v.category).sum ≤ 8) (hdg : decode cc pc = .ok (.invokevirtual idx, 3)) (hf : cells + mc ≤ R.cells ∧ slots + ms ≤ R.slots) :
    va_Run p l e R s m args below meth c H locs cells slots mc ms (F0 m pc ls st0) rest (Qc (Value.ref b :: As).toArray) free :=
  va_runV S hM ⟨tl_cb S.2.2.2.2 k.1 k.2.1 k.2.2.2.2.1 k.2.2.2.2.2 hrc hrs hR, S.2.2.2.2 _ k.2.2.1, S.2.2.2.2 _ k.2.2.2.1⟩ ⟨tl_P.blind, va_recv hK hP hci he, (tl_P.pre hK hN hP hD).2⟩ rfl hn hsize hstack (lv_room hW) hdg hf
theorem tl_rVN {ci : Nat} {T : u_T} {NF : Nat} {fs : List Value} (S : CallFix p m c cc nL s args tl_L own) (hK : va_K D vwCl (tl_T cy) s) (hN : tl_ok s) (hP : va_P D vwCl wc H) (hD : va_D A wc) (hci : vwCl[ci]? = some (C, T, NF)) (q0 : Nat) (he : wc[q0]? = some (b, .inr (ci, fs))) (k : tl_kVN own idx C y host bytes maxL ret n i) (hM : Met l y (tl_w y bytes maxL ret) rm (va_Pc (.ref b :: As) (tl_P D cy wc H.size)) Qc mc ms free) (hrc : rm.cells = mc) (hrs : rm.slots = ms) (hR : rm.frames + 1 ≤ R.frames ∧ 8 + (maxL + 11) + rm.locals ≤ R.locals)
    (hn : As.length = n) (hsize : ls.size = nL) (hstack : st0 = As.reverse ++ .ref b :: rest) (hW : (rest.map fun v => v.category).sum ≤ 8) (hdg : decode cc pc = .ok (.invokevirtual idx, 3)) (hf : cells + mc ≤ R.cells ∧ slots + ms ≤ R.slots) :
    va_Run p l e R s m args below meth c H locs cells slots mc ms (F0 m pc ls st0) rest (Qc (Value.ref b :: As).toArray) free :=
  va_runVN (host := host) S hM ⟨tl_cn S.2.2.2.2 hN k.1 k.2.1 k.2.2.2.2.1 k.2.2.2.2.2 hrc hrs hR, S.2.2.2.2 _ k.2.2.1, S.2.2.2.2 _ k.2.2.2.1⟩ ⟨tl_P.blind, va_recv hK hP hci he, (tl_P.pre hK hN hP hD).2⟩ rfl hn hsize hstack (lv_room hW) hdg hf
theorem tl_rSN (S : CallFix p m c cc nL s args tl_L own) (hK : va_K D vwCl (tl_T cy) s) (hN : tl_ok s) (hP : va_P D vwCl wc H) (hD : va_D A wc) (k : tl_kSN own idx y host bytes maxL ret n i) (hM : Met l y (tl_w y bytes maxL ret) rm (va_Pc As (tl_P D cy wc H.size)) Qc mc ms free) (hrc : rm.cells = mc) (hrs : rm.slots = ms) (hR : rm.frames + 1 ≤ R.frames ∧ 8 + (maxL + 11) + rm.locals ≤ R.locals)
    (hn : As.length = n) (hsize : ls.size = nL) (hstack : st0 = As.reverse ++ rest) (hW : (rest.map fun v => v.category).sum ≤ 8) (hdg : decode cc pc = .ok (.invokestatic idx, 3)) (hf : cells + mc ≤ R.cells ∧ slots + ms ≤ R.slots) :
    va_Run p l e R s m args below meth c H locs cells slots mc ms (F0 m pc ls st0) rest (Qc As.toArray) free :=
  va_runSN (host := host) S hM ⟨tl_cn S.2.2.2.2 hN k.1 k.2.1 k.2.2.2.1 k.2.2.2.2 hrc hrs hR, S.2.2.2.2 _ k.2.2.1, trivial⟩ (tl_P.pre hK hN hP hD) rfl hn hsize hstack (lv_room hW) hdg hf
theorem tl_ci {S : Type} (post : Int32 → S → Prop) (w1 : S → va_W) (hP : va_P D vwCl ws H) (hD : va_D A ws) (hS : va_S A H0 H locs) (hA : ∀ q, H0.size ≤ q → A q) (isC isR : List Nat) (hC : isC.map (fun i => ws[i]?) = wc.map some) (hR : isR.map (fun i => ws[i]?) = wr.map some) (hn : va_nd isR = true) (hdis : ∀ i ∈ isR, i ∉ isC) {a : Array Value}
    (hr : va_Run p l e R s m args below meth c H locs cells slots mc ms (F0 m pc ls st0) rest (va_Qi post (tl_B D (va_A wc H.size) w1) (va_A wc H.size) a) (va_A wc H.size))
    (kk : ∀ (r : Int32) (u : S) (H1 : Heap) (locs1 : List Loc), post r u → va_P D vwCl (wr ++ w1 u) H1 → va_D A (wr ++ w1 u) → va_S A H0 H1 locs1 → W p l e R s m args below meth c H1 locs1 (cells + mc) (slots + ms) Q (F0 m (pc + 3) ls (.int r :: rest))) : W p l e R s m args below meth c H locs cells slots Q (F0 m pc ls st0) := by
  have hFc := va_free (wc := wc) hD hS hA isC hC
  refine va_calli hr hS (fun q _ h => hFc q h) hFc (fun r u t H1 locs1 ht hvm hw hB hz1 hk1 hS1 => ?_)
  obtain ⟨hP1, hD1⟩ := hB
  rw [ht] at hP1
  obtain ⟨hP2, hD2⟩ := va_join hP hD isC isR hC hR hn hdis hk1 hFc hP1 hD1
  exact kk r u H1 locs1 hw hP2 hD2 hS1
theorem tl_cl {S : Type} (post : Int64 → S → Prop) (w1 : S → va_W) (hP : va_P D vwCl ws H) (hD : va_D A ws) (hS : va_S A H0 H locs) (hA : ∀ q, H0.size ≤ q → A q) (isC isR : List Nat) (hC : isC.map (fun i => ws[i]?) = wc.map some) (hR : isR.map (fun i => ws[i]?) = wr.map some) (hn : va_nd isR = true) (hdis : ∀ i ∈ isR, i ∉ isC) {a : Array Value}
    (hr : va_Run p l e R s m args below meth c H locs cells slots mc ms (F0 m pc ls st0) rest (va_Ql post (tl_B D (va_A wc H.size) w1) (va_A wc H.size) a) (va_A wc H.size))
    (kk : ∀ (r : Int64) (u : S) (H1 : Heap) (locs1 : List Loc), post r u → va_P D vwCl (wr ++ w1 u) H1 → va_D A (wr ++ w1 u) → va_S A H0 H1 locs1 → W p l e R s m args below meth c H1 locs1 (cells + mc) (slots + ms) Q (F0 m (pc + 3) ls (.long r :: rest))) : W p l e R s m args below meth c H locs cells slots Q (F0 m pc ls st0) := by
  have hFc := va_free (wc := wc) hD hS hA isC hC
  refine va_calll hr hS (fun q _ h => hFc q h) hFc (fun r u t H1 locs1 ht hvm hw hB hz1 hk1 hS1 => ?_)
  obtain ⟨hP1, hD1⟩ := hB
  rw [ht] at hP1
  obtain ⟨hP2, hD2⟩ := va_join hP hD isC isR hC hR hn hdis hk1 hFc hP1 hD1
  exact kk r u H1 locs1 hw hP2 hD2 hS1
theorem tl_cv {S : Type} (post : S → Prop) (w1 : S → va_W) (hP : va_P D vwCl ws H) (hD : va_D A ws) (hS : va_S A H0 H locs) (hA : ∀ q, H0.size ≤ q → A q) (isC isR : List Nat) (hC : isC.map (fun i => ws[i]?) = wc.map some) (hR : isR.map (fun i => ws[i]?) = wr.map some) (hn : va_nd isR = true) (hdis : ∀ i ∈ isR, i ∉ isC) {a : Array Value}
    (hr : va_Run p l e R s m args below meth c H locs cells slots mc ms (F0 m pc ls st0) rest (va_Qv post (tl_B D (va_A wc H.size) w1) (va_A wc H.size) a) (va_A wc H.size))
    (kk : ∀ (u : S) (H1 : Heap) (locs1 : List Loc), post u → va_P D vwCl (wr ++ w1 u) H1 → va_D A (wr ++ w1 u) → va_S A H0 H1 locs1 → W p l e R s m args below meth c H1 locs1 (cells + mc) (slots + ms) Q (F0 m (pc + 3) ls (rest))) : W p l e R s m args below meth c H locs cells slots Q (F0 m pc ls st0) := by
  have hFc := va_free (wc := wc) hD hS hA isC hC
  refine va_callv hr hS (fun q _ h => hFc q h) hFc (fun u t H1 locs1 ht hvm hw hB hz1 hk1 hS1 => ?_)
  obtain ⟨hP1, hD1⟩ := hB
  rw [ht] at hP1
  obtain ⟨hP2, hD2⟩ := va_join hP hD isC isR hC hR hn hdis hk1 hFc hP1 hD1
  exact kk u H1 locs1 hw hP2 hD2 hS1
/-- rows of new arrays: the class id is known -/
theorem tl_cA {cA : ClassId} {ty : FieldType} (k : Nat) (hk : (tl_T cy)[k]? = some (cy k, ty)) (hK : va_K D vwCl (tl_T cy ++ [(cA, ty)]) s) : cA = cy k := by
  have h1 := (hK.2 7 (cA, ty) (by simp [tl_T])).2
  have h2 := (hK.2 k (cy k, ty) (by rw [List.getElem?_append_left (by have := (List.getElem?_eq_some_iff.mp hk).1; exact this)]; exact hk)).2
  cases ty with
  | object C =>
    obtain ⟨_, _, _, _, _, f1⟩ := h1
    obtain ⟨_, _, _, _, _, f2⟩ := h2
    exact Option.some.inj (f1.symm.trans f2)
  | _ => exact Option.some.inj (Eq.trans (Eq.symm h1) h2)
theorem tl_nI (hexec : p.tables.exec = Jvm.exec) (hb : c.code = cc) (harr : (Cond.arrayClass .int).before args s = true) (hK : va_K D vwCl (tl_T cy) s) (hP : va_P D vwCl ws H) (hD : va_D A ws) (hS : va_S A H0 H locs) (hA : ∀ q, H0.size ≤ q → A q)
    {n : Int32} {N' : Nat} (hn : ¬ n < 0) (hN : n.toNatClampNeg = N') (hbytes : N' * 4 ≤ 536870912) (hcells : cells + 1 ≤ R.cells) (hslots : slots + N' ≤ R.slots) (hdg : decode cc pc = .ok (.newarray .int, 2))
    (kk : ∀ (q : Nat) (H1 : Heap), va_P D vwCl (ws ++ [(q, .inl (cy 0, N', .inl (fun _ => 0)))]) H1 → va_D A (ws ++ [(q, .inl (cy 0, N', .inl (fun _ => 0)))]) → va_S A H0 H1 locs →
      W p l e R s m args below meth c H1 locs (cells + 1) (slots + N') Q (F0 m (pc + 2) ls (.ref q :: rest))) : W p l e R s m args below meth c H locs cells slots Q (F0 m pc ls (.int n :: rest)) := by
  refine va_newa (atype := .int) (ty := .int) (a0 := (N', .inl (fun _ => 0))) hexec hb harr rfl hK hP hD hS hA (fun cA => rfl) hn hN hbytes hcells hslots hdg (fun q cA H1 hK1 hP1 hD1 hS1 => ?_)
  cases tl_cA 0 rfl hK1
  exact kk q H1 hP1 hD1 hS1
theorem tl_nJ (hexec : p.tables.exec = Jvm.exec) (hb : c.code = cc) (harr : (Cond.arrayClass .long).before args s = true) (hK : va_K D vwCl (tl_T cy) s) (hP : va_P D vwCl ws H) (hD : va_D A ws) (hS : va_S A H0 H locs) (hA : ∀ q, H0.size ≤ q → A q)
    {n : Int32} {N' : Nat} (hn : ¬ n < 0) (hN : n.toNatClampNeg = N') (hbytes : N' * 8 ≤ 536870912) (hcells : cells + 1 ≤ R.cells) (hslots : slots + N' ≤ R.slots) (hdg : decode cc pc = .ok (.newarray .long, 2))
    (kk : ∀ (q : Nat) (H1 : Heap), va_P D vwCl (ws ++ [(q, .inl (cy 1, N', .inr (.inl (fun _ => 0))))]) H1 → va_D A (ws ++ [(q, .inl (cy 1, N', .inr (.inl (fun _ => 0))))]) → va_S A H0 H1 locs →
      W p l e R s m args below meth c H1 locs (cells + 1) (slots + N') Q (F0 m (pc + 2) ls (.ref q :: rest))) : W p l e R s m args below meth c H locs cells slots Q (F0 m pc ls (.int n :: rest)) := by
  refine va_newa (atype := .long) (ty := .long) (a0 := (N', .inr (.inl (fun _ => 0)))) hexec hb harr rfl hK hP hD hS hA (fun cA => rfl) hn hN hbytes hcells hslots hdg (fun q cA H1 hK1 hP1 hD1 hS1 => ?_)
  cases tl_cA 1 rfl hK1
  exact kk q H1 hP1 hD1 hS1
theorem tl_nZ (hexec : p.tables.exec = Jvm.exec) (hb : c.code = cc) (harr : (Cond.arrayClass .boolean).before args s = true) (hK : va_K D vwCl (tl_T cy) s) (hP : va_P D vwCl ws H) (hD : va_D A ws) (hS : va_S A H0 H locs) (hA : ∀ q, H0.size ≤ q → A q)
    {n : Int32} {N' : Nat} (hn : ¬ n < 0) (hN : n.toNatClampNeg = N') (hbytes : N' * 1 ≤ 536870912) (hcells : cells + 1 ≤ R.cells) (hslots : slots + N' ≤ R.slots) (hdg : decode cc pc = .ok (.newarray .boolean, 2))
    (kk : ∀ (q : Nat) (H1 : Heap), va_P D vwCl (ws ++ [(q, .inl (cy 2, N', .inl (fun _ => 0)))]) H1 → va_D A (ws ++ [(q, .inl (cy 2, N', .inl (fun _ => 0)))]) → va_S A H0 H1 locs →
      W p l e R s m args below meth c H1 locs (cells + 1) (slots + N') Q (F0 m (pc + 2) ls (.ref q :: rest))) : W p l e R s m args below meth c H locs cells slots Q (F0 m pc ls (.int n :: rest)) := by
  refine va_newa (atype := .boolean) (ty := .boolean) (a0 := (N', .inl (fun _ => 0))) hexec hb harr rfl hK hP hD hS hA (fun cA => rfl) hn hN hbytes hcells hslots hdg (fun q cA H1 hK1 hP1 hD1 hS1 => ?_)
  cases tl_cA 2 rfl hK1
  exact kk q H1 hP1 hD1 hS1
theorem tl_nB (hexec : p.tables.exec = Jvm.exec) (hb : c.code = cc) (harr : (Cond.arrayClass .byte).before args s = true) (hK : va_K D vwCl (tl_T cy) s) (hP : va_P D vwCl ws H) (hD : va_D A ws) (hS : va_S A H0 H locs) (hA : ∀ q, H0.size ≤ q → A q)
    {n : Int32} {N' : Nat} (hn : ¬ n < 0) (hN : n.toNatClampNeg = N') (hbytes : N' * 1 ≤ 536870912) (hcells : cells + 1 ≤ R.cells) (hslots : slots + N' ≤ R.slots) (hdg : decode cc pc = .ok (.newarray .byte, 2))
    (kk : ∀ (q : Nat) (H1 : Heap), va_P D vwCl (ws ++ [(q, .inl (cy 3, N', .inl (fun _ => 0)))]) H1 → va_D A (ws ++ [(q, .inl (cy 3, N', .inl (fun _ => 0)))]) → va_S A H0 H1 locs →
      W p l e R s m args below meth c H1 locs (cells + 1) (slots + N') Q (F0 m (pc + 2) ls (.ref q :: rest))) : W p l e R s m args below meth c H locs cells slots Q (F0 m pc ls (.int n :: rest)) := by
  refine va_newa (atype := .byte) (ty := .byte) (a0 := (N', .inl (fun _ => 0))) hexec hb harr rfl hK hP hD hS hA (fun cA => rfl) hn hN hbytes hcells hslots hdg (fun q cA H1 hK1 hP1 hD1 hS1 => ?_)
  cases tl_cA 3 rfl hK1
  exact kk q H1 hP1 hD1 hS1
theorem tl_nQ {C : String} (k : Nat) (hk : (tl_T cy)[k]? = some (cy k, .object C)) (hexec : p.tables.exec = Jvm.exec) (hb : c.code = cc) {own : String} {index : Nat} (hown : s.vm.findClass own = some m.cls) (hclink : (Cond.classLink own index C).before args s = true) (hover : va_AO C s) (hK : va_K D vwCl (tl_T cy) s) (hP : va_P D vwCl ws H) (hD : va_D A ws) (hS : va_S A H0 H locs) (hA : ∀ q, H0.size ≤ q → A q)
    {n : Int32} {N' : Nat} (hn : ¬ n < 0) (hN : n.toNatClampNeg = N') (hbytes : N' * 4 ≤ 536870912) (hcells : cells + 1 ≤ R.cells) (hslots : slots + N' ≤ R.slots) (hdg : decode cc pc = .ok (.anewarray index, 3))
    (kk : ∀ (q : Nat) (H1 : Heap), va_P D vwCl (ws ++ [(q, .inl (cy k, N', .inr (.inr (.inr (.inr (fun _ => none))))))]) H1 → va_D A (ws ++ [(q, .inl (cy k, N', .inr (.inr (.inr (.inr (fun _ => none))))))]) → va_S A H0 H1 locs →
      W p l e R s m args below meth c H1 locs (cells + 1) (slots + N') Q (F0 m (pc + 3) ls (.ref q :: rest))) : W p l e R s m args below meth c H locs cells slots Q (F0 m pc ls (.int n :: rest)) := by
  refine va_newq hexec hb hown hclink hover hK hP hD hS hA hn hN hbytes hcells hslots hdg (fun q cA H1 hK1 hP1 hD1 hS1 => ?_)
  cases tl_cA k hk hK1
  exact kk q H1 hP1 hD1 hS1
theorem tl_aldA (hexec : p.tables.exec = Jvm.exec) (hb : c.code = cc) (hK : va_K D vwCl (tl_T cy) s) (hP : va_P D vwCl ws H) (q0 : Nat) {n : Nat} {f : Nat → Option Nat} (ha : ws[q0]? = some (a, .inl (cy 6, n, .inr (.inr (.inr (.inr f)))))) {i : Int32} (hin : vp_in i n) (hdg : decode cc pc = .ok (.aaload, 1))
    (kk : W p l e R s m args below meth c H locs cells slots Q (F0 m (pc + 1) ls (va_rf (f i.toNatClampNeg) :: rest))) : W p l e R s m args below meth c H locs cells slots Q (F0 m pc ls (.int i :: .ref a :: rest)) := by
  have hlt : i.toNatClampNeg < n := Nat.not_le.mp fun q => hin (Or.inr q)
  exact W.aald (v := va_rf (f i.toNatClampNeg)) (ty := .array .int) hexec hb (hP q0 _ ha) ((hK.2 6 _ rfl).1 n (fun j => va_rf (f j))) rfl (fun q => by cases q) (by show ¬ (i < 0 ∨ (arrV _ _ _).slots.size ≤ _); rw [arrV_size]; exact hin) (by show (arrV _ _ _).slots[_]? = _; rw [arrV_read _ _ hlt]) rfl rfl hdg kk
theorem tl_mna (hexec : p.tables.exec = Jvm.exec) (hb : c.code = cc) {own : String} {index : Nat} (hown : s.vm.findClass own = some m.cls) (hclink : (Cond.classLink own index "[[I").before args s = true) (hover : va_AOA .int s) (harr : (Cond.arrayClass .int).before args s = true) (hK : va_K D vwCl (tl_T cy) s) (hP : va_P D vwCl ws H) (hD : va_D A ws) (hS : va_S A H0 H locs) (hA : ∀ q, H0.size ≤ q → A q)
    (hcells : cells + (1 + 24) ≤ R.cells) (hslots : slots + (24 + 24 * 300) ≤ R.slots) (hdg : decode cc pc = .ok (.multianewarray index 2, 4))
    (kk : ∀ (q : Nat) (r : Nat → Nat) (H1 : Heap), va_P D vwCl (ws ++ [(q, .inl (cy 6, 24, .inr (.inr (.inr (.inr (fun i => if i < 24 then some (r i) else none)))))), (r 0, .inl (cy 0, 300, .inl (fun _ => 0)))]) H1 → va_D A (ws ++ [(q, .inl (cy 6, 24, .inr (.inr (.inr (.inr (fun i => if i < 24 then some (r i) else none)))))), (r 0, .inl (cy 0, 300, .inl (fun _ => 0)))]) → va_S A H0 H1 locs →
      W p l e R s m args below meth c H1 locs (cells + 1 + 24) (slots + 24 + 24 * 300) Q (F0 m (pc + 4) ls (.ref q :: rest))) : W p l e R s m args below meth c H locs cells slots Q (F0 m pc ls (.int 300 :: .int 24 :: rest)) := by
  have hcy : s.vm.findClass (FieldType.array .int).toString = some (cy 0) := (hK.2 0 _ rfl).2
  have hP0 : va_P D vwCl (ws ++ va_pl [] (fun _ => .inr (0, []))) H := by simpa [va_pl] using hP
  have hD0 : va_D A (ws ++ va_pl [] (fun _ => .inr (0, []))) := by simpa [va_pl] using hD
  refine va_mna (X := ws) (L := []) (f := fun _ => .inr (0, [])) (ty := .int) (cy := cy 0) (N' := 24) (K' := 300) (z := (300, .inl (fun _ => 0))) hexec hb hown hclink hover harr hcy hK hP0 hD0 hS hA (by decide) (by decide) (by decide) (by decide) (by decide) (by decide) (by decide) rfl rfl hcells hslots (fun c => arrV_new c 300 _) hdg (fun q r cA H1 hri hrn hK1 hP1 hD1 hS1 => ?_)
  cases tl_cA 6 rfl hK1
  have hpl : va_pl ([] ++ (List.range 24).map r) (vr_up (fun _ => .inr (0, [])) ((List.range 24).map r) (.inl (cy 0, (300, .inl (fun _ => 0))))) = (r 0, .inl (cy 0, 300, .inl (fun _ => 0))) :: ((List.range 23).map (fun i => (r (i + 1), .inl (cy 0, (300, .inl (fun _ => 0)))))) := by
    have hm : ∀ a ∈ (List.range 24).map r, vr_up (fun _ => (.inr (0, []) : va_E)) ((List.range 24).map r) (.inl (cy 0, (300, .inl (fun _ => 0)))) a = .inl (cy 0, (300, .inl (fun _ => 0))) := fun a h => vr_up_in h
    rw [List.nil_append]
    unfold va_pl
    rw [List.map_congr_left (g := fun a => (a, (.inl (cy 0, (300, .inl (fun _ => 0))) : va_E))) (fun a h => by rw [hm a h])]
    rfl
  rw [hpl] at hP1 hD1
  generalize ((List.range 23).map (fun i => (r (i + 1), (.inl (cy 0, (300, .inl (fun _ => 0))) : va_E)))) = tl at hP1 hD1
  have hsp : ((ws ++ [(q, (.inl (cy 6, 24, .inr (.inr (.inr (.inr (fun i => if i < 24 then some (r i) else none))))) : va_E))]) ++ ((r 0, (.inl (cy 0, 300, .inl (fun _ => 0)) : va_E)) :: tl)) = (ws ++ [(q, .inl (cy 6, 24, .inr (.inr (.inr (.inr (fun i => if i < 24 then some (r i) else none)))))), (r 0, .inl (cy 0, 300, .inl (fun _ => 0)))]) ++ tl := by simp
  rw [hsp] at hP1 hD1
  exact kk q r H1 (fun k x hx => hP1 k x (by rw [List.getElem?_append_left (List.getElem?_eq_some_iff.mp hx).1]; exact hx)) ⟨fun i j x y hx hy h => hD1.1 i j x y (by rw [List.getElem?_append_left (List.getElem?_eq_some_iff.mp hx).1]; exact hx) (by rw [List.getElem?_append_left (List.getElem?_eq_some_iff.mp hy).1]; exact hy) h, fun k x hx => hD1.2 k x (by rw [List.getElem?_append_left (List.getElem?_eq_some_iff.mp hx).1]; exact hx)⟩ hS1
theorem tl_si {post : Int32 → Prop} {a : Array Value} (hr : va_Run p l e R s m args below meth c H locs cells slots 0 0 (F0 m pc ls st0) rest (vp_Si post a) (fun _ => False))
    (kk : ∀ r : Int32, post r → W p l e R s m args below meth c H locs cells slots Q (F0 m (pc + 3) ls (.int r :: rest))) : W p l e R s m args below meth c H locs cells slots Q (F0 m pc ls st0) := by
  intro T hT X
  obtain ⟨v, st₀, t, T', L, h0, X', hL, e1, -, ⟨r, hv, hp, hh⟩, st⟩ := hr T hT X
  cases hv
  obtain ⟨t2, a1, b1⟩ := kk r hp T' (by rw [e1, hh, h0]) (Stand.forget X' (fun q h => (hL q h).elim))
  exact ⟨t2, st t2 a1, b1⟩
theorem tl_sl {post : Int64 → Prop} {a : Array Value} (hr : va_Run p l e R s m args below meth c H locs cells slots 0 0 (F0 m pc ls st0) rest (vp_Sl post a) (fun _ => False))
    (kk : ∀ r : Int64, post r → W p l e R s m args below meth c H locs cells slots Q (F0 m (pc + 3) ls (.long r :: rest))) : W p l e R s m args below meth c H locs cells slots Q (F0 m pc ls st0) := by
  intro T hT X
  obtain ⟨v, st₀, t, T', L, h0, X', hL, e1, -, ⟨r, hv, hp, hh⟩, st⟩ := hr T hT X
  cases hv
  obtain ⟨t2, a1, b1⟩ := kk r hp T' (by rw [e1, hh, h0]) (Stand.forget X' (fun q h => (hL q h).elim))
  exact ⟨t2, st t2 a1, b1⟩
theorem tl_sq {post : Option Nat → Prop} {a : Array Value} (hr : va_Run p l e R s m args below meth c H locs cells slots 0 0 (F0 m pc ls st0) rest (va_Sq post a) (fun _ => False))
    (kk : ∀ r : Option Nat, post r → W p l e R s m args below meth c H locs cells slots Q (F0 m (pc + 3) ls (va_rf r :: rest))) : W p l e R s m args below meth c H locs cells slots Q (F0 m pc ls st0) := by
  intro T hT X
  obtain ⟨v, st₀, t, T', L, h0, X', hL, e1, -, ⟨r, hv, hp, hh⟩, st⟩ := hr T hT X
  cases hv
  obtain ⟨t2, a1, b1⟩ := kk r hp T' (by rw [e1, hh, h0]) (Stand.forget X' (fun q h => (hL q h).elim))
  exact ⟨t2, st t2 a1, b1⟩
theorem tl_sv {post : Unit → Prop} {a : Array Value} (hr : va_Run p l e R s m args below meth c H locs cells slots 0 0 (F0 m pc ls st0) rest (va_Sv post a) (fun _ => False))
    (kk : ∀ _ : Unit, post () → W p l e R s m args below meth c H locs cells slots Q (F0 m (pc + 3) ls rest)) : W p l e R s m args below meth c H locs cells slots Q (F0 m pc ls st0) := by
  intro T hT X
  obtain ⟨v, st₀, t, T', L, h0, X', hL, e1, -, ⟨hv, hp, hh⟩, st⟩ := hr T hT X
  cases hv
  obtain ⟨t2, a1, b1⟩ := kk () hp T' (by rw [e1, hh, h0]) (Stand.forget X' (fun q h => (hL q h).elim))
  exact ⟨t2, st t2 a1, b1⟩
theorem tl_start (hP : va_P D vwCl ws H) (hD : va_D A ws) (hS : va_S A H0 H locs) {g : JFrame} (kk : ∀ (H : Heap) (locs : List Loc), va_P D vwCl ws H → va_D A ws → va_S A H0 H locs → W p l e R s m args below meth c H locs cells slots Q g) : W p l e R s m args below meth c H locs cells slots Q g := kk H locs hP hD hS
end TLC
theorem tl_hta {y : MethodName} {b : ByteArray} {n : Nat} {r : Option FieldType} {args : Array Value} {s : State} (h : ∀ w ∈ tl_w y b n r, w.before args s = true) : ∀ w ∈ tl_L, w.before args s = true := fun w hw => h w (List.mem_cons_of_mem _ hw)
/-- a loop: a measure falls -/
theorem tl_ind {α : Type} (μ : α → Nat) (Inv : α → Heap → List Loc → Array Slot → Prop) {G : Heap → List Loc → Array Slot → Prop} (step : ∀ a H locs ls, Inv a H locs ls → (∀ a' H' locs' ls', μ a' < μ a → Inv a' H' locs' ls' → G H' locs' ls') → G H locs ls) : ∀ a H locs ls, Inv a H locs ls → G H locs ls := by
  have key : ∀ (n : Nat) a H locs ls, μ a < n → Inv a H locs ls → G H locs ls := by
    intro n
    induction n with
    | zero => intro a H locs ls h; exact absurd h (Nat.not_lt_zero _)
    | succ n ih => intro a H locs ls h hi; exact step a H locs ls hi (fun a' H' locs' ls' h1 h2 => ih a' H' locs' ls' (by omega) h2)
  intro a H locs ls h
  exact key (μ a + 1) a H locs ls (Nat.lt_succ_self _) h
theorem tl_indR {α : Type} (μ : α → Nat) (Inv : α → Array Slot → Prop) {G : Array Slot → Prop} (step : ∀ a ls, Inv a ls → (∀ a' ls', μ a' < μ a → Inv a' ls' → G ls') → G ls) : ∀ a ls, Inv a ls → G ls := by
  have key : ∀ (n : Nat) a ls, μ a < n → Inv a ls → G ls := by
    intro n
    induction n with
    | zero => intro a ls h; exact absurd h (Nat.not_lt_zero _)
    | succ n ih => intro a ls h hi; exact step a ls hi (fun a' ls' h1 h2 => ih a' ls' (by omega) h2)
  intro a ls h
  exact key (μ a + 1) a ls (Nat.lt_succ_self _) h
/-- an answer of two: a where P, else b -/
def tl_E (r : Int32) (P : Prop) (a b : Int32) : Prop := (P ∧ r = a) ∨ (¬ P ∧ r = b)
theorem tl_E.eq {r q a b : Int32} {P : Prop} (h : tl_E r P a b) (h2 : tl_E q P a b) : r = q := by
  rcases h with ⟨h, rfl⟩ | ⟨h, rfl⟩ <;> rcases h2 with ⟨h2, rfl⟩ | ⟨h2, rfl⟩ <;> first | rfl | exact absurd h2 h | exact absurd h h2
theorem tl_E.t {r : Int32} {P : Prop} (h : tl_E r P 1 0) (h2 : ¬ r = 0) : P := by
  rcases h with ⟨h, rfl⟩ | ⟨h, rfl⟩
  · exact h
  · exact absurd rfl h2
theorem tl_E.f {r : Int32} {P : Prop} (h : tl_E r P 1 0) (h2 : r = 0) : ¬ P := by
  rcases h with ⟨h, rfl⟩ | ⟨h, rfl⟩
  · exact absurd h2 (by decide)
  · exact h
theorem tl_E.to {r a b : Int32} {P P2 : Prop} (h : tl_E r P a b) (h2 : P ↔ P2) : tl_E r P2 a b := by
  rcases h with ⟨h, e⟩ | ⟨h, e⟩
  · exact Or.inl ⟨h2.mp h, e⟩
  · exact Or.inr ⟨fun q => h (h2.mpr q), e⟩
theorem tl_le {x y : Int32} (h : x ≤ y) : x.toInt ≤ y.toInt := Int32.le_iff_toInt_le.mp h
theorem tl_nle {x y : Int32} (h : ¬ x ≤ y) : y.toInt < x.toInt := Int.not_le.mp (fun q => h (Int32.le_iff_toInt_le.mpr q))
theorem tl_lt {x y : Int32} (h : x < y) : x.toInt < y.toInt := Int32.lt_iff_toInt_lt.mp h
theorem tl_nlt {x y : Int32} (h : ¬ x < y) : y.toInt ≤ x.toInt := Int.not_lt.mp (fun q => h (Int32.lt_iff_toInt_lt.mpr q))
theorem tl_eq {x y : Int32} (h : x = y) : x.toInt = y.toInt := by rw [h]
theorem tl_neq {x y : Int32} (h : ¬ x = y) : ¬ x.toInt = y.toInt := fun q => h (Int32.toInt_inj.mp q)
theorem tl_rng (x : Int32) : -2147483648 ≤ x.toInt ∧ x.toInt < 2147483648 := ⟨Int32.le_toInt x, Int32.toInt_lt x⟩
theorem tl_bmod {z : Int} (h1 : -2147483648 ≤ z) (h2 : z < 2147483648) : z.bmod (2 ^ 32) = z := by
  rw [Int.bmod_def]; omega
theorem tl_addI {x y : Int32} (h1 : -2147483648 ≤ x.toInt + y.toInt) (h2 : x.toInt + y.toInt < 2147483648) : (x + y).toInt = x.toInt + y.toInt := by
  rw [Int32.toInt_add]; exact tl_bmod h1 h2
theorem tl_subI {x y : Int32} (h1 : -2147483648 ≤ x.toInt - y.toInt) (h2 : x.toInt - y.toInt < 2147483648) : (x - y).toInt = x.toInt - y.toInt := by
  rw [Int32.toInt_sub]; exact tl_bmod h1 h2
theorem tl_addL (x y : Int32) {k : Int} (hk : y.toInt = k) (h1 : -2147483648 ≤ x.toInt + k) (h2 : x.toInt + k < 2147483648) : (x + y).toInt = x.toInt + k := by
  subst hk; exact tl_addI h1 h2
theorem tl_cmp (x y : Int64) : (lg_cmp x y = 1 ∧ y.toInt < x.toInt) ∨ (lg_cmp x y = 0 ∧ x.toInt = y.toInt) ∨ (lg_cmp x y = -1 ∧ x.toInt < y.toInt) := by
  unfold lg_cmp
  by_cases h : x > y
  · exact Or.inl ⟨if_pos h, Int64.lt_iff_toInt_lt.mp h⟩
  · by_cases h2 : x = y
    · exact Or.inr (Or.inl ⟨by rw [if_neg h, if_pos h2], by rw [h2]⟩)
    · refine Or.inr (Or.inr ⟨by rw [if_neg h, if_neg h2], ?_⟩)
      have h3 : ¬ y.toInt < x.toInt := fun q => h (Int64.lt_iff_toInt_lt.mpr q)
      have h4 : ¬ x.toInt = y.toInt := fun q => h2 (Int64.toInt_inj.mp q)
      omega
theorem tl_cmp_eq {x y : Int64} (c : lg_cmp x y = 0) : x.toInt = y.toInt := by
  rcases tl_cmp x y with ⟨e, h⟩ | ⟨e, h⟩ | ⟨e, h⟩ <;> rw [e] at c <;> first | exact absurd c (by decide) | omega
theorem tl_cmp_neq {x y : Int64} (c : ¬ lg_cmp x y = 0) : ¬ x.toInt = y.toInt := by
  rcases tl_cmp x y with ⟨e, h⟩ | ⟨e, h⟩ | ⟨e, h⟩ <;> rw [e] at c <;> first | exact absurd rfl c | omega
theorem tl_cmp_ne {x y : Int64} (c : ¬ lg_cmp x y = 0) : ¬ x.toInt = y.toInt := tl_cmp_neq c
theorem tl_cmp_nne {x y : Int64} (c : lg_cmp x y = 0) : x.toInt = y.toInt := tl_cmp_eq c
theorem tl_cmp_lt {x y : Int64} (c : lg_cmp x y < 0) : x.toInt < y.toInt := by
  rcases tl_cmp x y with ⟨e, h⟩ | ⟨e, h⟩ | ⟨e, h⟩ <;> rw [e] at c <;> first | exact absurd c (by decide) | omega
theorem tl_cmp_nlt {x y : Int64} (c : ¬ lg_cmp x y < 0) : x.toInt ≥ y.toInt := by
  rcases tl_cmp x y with ⟨e, h⟩ | ⟨e, h⟩ | ⟨e, h⟩ <;> rw [e] at c <;> first | exact absurd (by decide) c | omega
theorem tl_cmp_ge {x y : Int64} (c : 0 ≤ lg_cmp x y) : x.toInt ≥ y.toInt := by
  rcases tl_cmp x y with ⟨e, h⟩ | ⟨e, h⟩ | ⟨e, h⟩ <;> rw [e] at c <;> first | exact absurd c (by decide) | omega
theorem tl_cmp_nge {x y : Int64} (c : ¬ 0 ≤ lg_cmp x y) : x.toInt < y.toInt := by
  rcases tl_cmp x y with ⟨e, h⟩ | ⟨e, h⟩ | ⟨e, h⟩ <;> rw [e] at c <;> first | exact absurd (by decide) c | omega
theorem tl_cmp_gt {x y : Int64} (c : 0 < lg_cmp x y) : x.toInt > y.toInt := by
  rcases tl_cmp x y with ⟨e, h⟩ | ⟨e, h⟩ | ⟨e, h⟩ <;> rw [e] at c <;> first | exact absurd c (by decide) | omega
theorem tl_cmp_ngt {x y : Int64} (c : ¬ 0 < lg_cmp x y) : x.toInt ≤ y.toInt := by
  rcases tl_cmp x y with ⟨e, h⟩ | ⟨e, h⟩ | ⟨e, h⟩ <;> rw [e] at c <;> first | exact absurd (by decide) c | omega
theorem tl_cmp_le {x y : Int64} (c : lg_cmp x y ≤ 0) : x.toInt ≤ y.toInt := by
  rcases tl_cmp x y with ⟨e, h⟩ | ⟨e, h⟩ | ⟨e, h⟩ <;> rw [e] at c <;> first | exact absurd c (by decide) | omega
theorem tl_cmp_nle {x y : Int64} (c : ¬ lg_cmp x y ≤ 0) : x.toInt > y.toInt := by
  rcases tl_cmp x y with ⟨e, h⟩ | ⟨e, h⟩ | ⟨e, h⟩ <;> rw [e] at c <;> first | exact absurd (by decide) c | omega
theorem tl_in {x : Int32} {n : Nat} (h1 : 0 ≤ x.toInt) (h2 : x.toInt < n) : vp_in x n := vp_in_iff.mpr ⟨h1, h2⟩
set_option maxRecDepth 20000 in
theorem nf_X0 : ∀ j, j < 9 → defaultValue (tyX0 j) = vp_V [.int 0, .null, .null, .null, .null, .null, .null, .null, .int 0] j := by decide +kernel
set_option maxRecDepth 20000 in
theorem nf_X1 : ∀ j, j < 5 → defaultValue (tyX1 j) = vp_V [.null, .int 0, .int 0, .int 0, .long 0] j := by decide +kernel
set_option maxRecDepth 20000 in
theorem nf_X2 : ∀ j, j < 6 → defaultValue (tyX2 j) = vp_V [.null, .null, .int 0, .int 0, .int 0, .int 0] j := by decide +kernel
set_option maxRecDepth 20000 in
theorem nf_X3 : ∀ j, j < 2 → defaultValue (tyX3 j) = vp_V [.null, .null] j := by decide +kernel
set_option maxRecDepth 20000 in
theorem nf_X4 : ∀ j, j < 6 → defaultValue (tyX4 j) = vp_V [.int 0, .int 0, .null, .null, .null, .null] j := by decide +kernel
set_option maxRecDepth 20000 in
theorem nf_X5 : ∀ j, j < 2 → defaultValue (tyX5 j) = vp_V [.null, .null] j := by decide +kernel
set_option maxRecDepth 20000 in
theorem nf_X6 : ∀ j, j < 3 → defaultValue (tyX6 j) = vp_V [.int 0, .null, .int 0] j := by decide +kernel
set_option maxRecDepth 20000 in
theorem nf_X7 : ∀ j, j < 9 → defaultValue (tyX7 j) = vp_V [.int 0, .null, .null, .null, .null, .null, .null, .null, .int 0] j := by decide +kernel
set_option maxRecDepth 20000 in
theorem nf_X8 : ∀ j, j < 2 → defaultValue (tyX8 j) = vp_V [.null, .int 0] j := by decide +kernel
set_option maxRecDepth 20000 in
theorem nf_X9 : ∀ j, j < 4 → defaultValue (tyX9 j) = vp_V [.null, .null, .null, .int 0] j := by decide +kernel
set_option maxRecDepth 20000 in
theorem nf_X10 : ∀ j, j < 18 → defaultValue (tyX10 j) = vp_V [.null, .null, .null, .null, .null, .null, .null, .null, .null, .int 0, .int 0, .int 0, .int 0, .int 0, .int 0, .int 0, .long 0, .long 0] j := by decide +kernel
set_option maxRecDepth 20000 in
theorem nf_X11 : ∀ j, j < 16 → defaultValue (tyX11 j) = vp_V [.null, .null, .null, .null, .null, .null, .null, .null, .null, .null, .null, .null, .null, .null, .null, .null] j := by decide +kernel
set_option maxRecDepth 20000 in
theorem nf_X12 : ∀ j, j < 49 → defaultValue (tyX12 j) = vp_V [.null, .null, .int 0, .null, .null, .null, .null, .null, .null, .null, .null, .null, .null, .null, .null, .null, .null, .int 0, .int 0, .int 0, .int 0, .int 0, .int 0, .int 0, .null, .int 0, .null, .int 0, .null, .long 0, .null, .null, .int 0, .int 0, .int 0, .null, .null, .int 0, .null, .int 0, .int 0, .null, .null, .null, .null, .null, .null, .null, .null] j := by decide +kernel
