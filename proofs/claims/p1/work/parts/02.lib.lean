/-! ONE FORM FOR ALL CONTRACTS: 'kM l y ws fr lo mc ms D tys e0 wc av post px': from every state that holds the cells wc, y called with av returns with what 'post' says of its answer and of the cells behind it, or throws what 'px' names. -/
section KLIB
/-- a class that can be cast to another one -/
def kYc (C T : String) (U : State) : Prop := ∃ c t : ClassId, U.vm.findClass C = some c ∧ U.vm.findClass T = some t ∧ U.vm.assignable c t = true
theorem kYc.moved {C T : String} {u U : State} (hvm : u.vm.Alike U.vm) (h : kYc C T u) : kYc C T U := by
  obtain ⟨c, t, h1, h2, h3⟩ := h
  exact ⟨c, t, by rw [hvm.findClass]; exact h1, by rw [hvm.findClass]; exact h2, by rw [hvm.assignable]; exact h3⟩
theorem kYc.of {args : Array Value} {s : State} {C T : String} (h : (Cond.castable C T).before args s = true) : kYc C T s := by
  obtain ⟨c3, c4, hc3, hc4, hasg⟩ := Cond.castable_spec h
  exact ⟨c3, c4, hc3, hc4, hasg⟩
theorem kYc.word {args : Array Value} {s : State} {C T : String} (h : kYc C T s) : (Cond.castable C T).before args s = true := by
  obtain ⟨c, t, h1, h2, h3⟩ := h
  simp [Cond.before, Cond.holds, h1, h2, h3]
def kEs : List String := ["java/lang/IndexOutOfBoundsException", "java/lang/IllegalArgumentException", "java/lang/UnsupportedOperationException", "java/util/NoSuchElementException", "java/lang/ArithmeticException", "java/lang/IllegalStateException"]
def kNs : List (String × String) := [("java/lang/UnsupportedOperationException", "java/lang/IllegalArgumentException"), ("java/util/NoSuchElementException", "java/lang/IllegalArgumentException"), ("java/util/NoSuchElementException", "java/lang/UnsupportedOperationException")]
def kAs : List String := ["Segueworks$Reel", "Segueworks$Piece", "Segueworks$Edition", "Segueworks$Item", "java/lang/Object"]
abbrev kDE : String := "DEFAULTCAPACITY_EMPTY_ELEMENTDATA"
abbrev kDd : String := "[Ljava/lang/Object;"
abbrev kHN : MethodName := ⟨"java/util/Iterator", "hasNext", "()Z"⟩
abbrev kHT : MethodName := ⟨"java/util/ArrayList$Itr", "hasNext", "()Z"⟩
/-- what throws and lists read beside the world, off the area A; e0: ArrayList's shared empty array -/
def kS (str : List (Nat × String)) (e0 : Nat) (A : Nat → Prop) (U : State) (H : Heap) : Prop :=
  vx_Zq Bundle.tN "UNASSIGNED_STACK" Bundle.steD A U H ∧ vx_Zq Bundle.tN "SUPPRESSED_SENTINEL" Bundle.listD A U H ∧
  va_Z "java/util/ArrayList" kDE kDd (.ref e0) A U H ∧ va_T (.object "java/lang/Object") e0 0 (fun _ => .null) A U H ∧
  (∀ E ∈ kEs, kYc E E U) ∧ (∀ q ∈ kNs, va_Nc q.1 q.2 U) ∧ (∀ q ∈ str, ∃ sa : Nat, vk_R RX6 q.1 q.2 sa U) ∧ (∀ C ∈ kAs, va_AO C U) ∧ va_Fw "java/util/ArrayList$Itr" kHN kHT U
theorem kAO_moved {C : String} {u U : State} (hW : u.WarmedH U.vm) (h : va_AO C u) : va_AO C U := by
  unfold va_AO at h ⊢
  exact word_at hW (Or.inl (by simp [Cond.onTables, Cond.keeps, Cond.steady])) h
theorem kS.same {str : List (Nat × String)} {e0 : Nat} {A : Nat → Prop} {u U : State} (hv : U.vm = u.vm) (hh : U.heap = u.heap) (h : kS str e0 A u u.heap) : kS str e0 A U U.heap := by
  obtain ⟨h1, h2, h3, h4, h5, h6, h7, h8, h9⟩ := h
  have hal : u.vm.Alike U.vm := by rw [hv]; exact Vm.Alike.refl _
  rw [hh]
  refine ⟨h1.moved hal, h2.moved hal, h3.moved hal, h4.moved hal, fun E hE => (h5 E hE).moved hal, fun q hq => (h6 q hq).moved hal, fun q hq => ?_, fun C hC => ?_, h9.moved (by decide) hal⟩
  · obtain ⟨sa, hs⟩ := h7 q hq
    exact ⟨sa, hs.same hv⟩
  · have := h8 C hC
    unfold va_AO at this ⊢
    exact va_tabs rfl hv.symm this
theorem kS.call {str : List (Nat × String)} {e0 : Nat} {A B : Nat → Prop} {s U : State} {H : Heap} {locs : List Loc} (h : kS str e0 A s s.heap) (hS : va_S A s.heap H locs) (hAB : ∀ q, B q → A q) (hW : s.WarmedH U.vm) : kS str e0 B U H := by
  obtain ⟨h1, h2, h3, h4, h5, h6, h7, h8, h9⟩ := h
  have hal := hW.alike
  exact ⟨((h1.moved hal).kept hS.2.1).narrow hAB, ((h2.moved hal).kept hS.2.1).narrow hAB, ((h3.moved hal).kept hS.2.1).narrow hAB, ((h4.moved hal).kept hS.2.1).narrow hAB, fun E hE => (h5 E hE).moved hal, fun q hq => (h6 q hq).moved hal,
    fun q hq => by
      obtain ⟨sa, hs⟩ := h7 q hq
      exact ⟨sa, hs.warm hW⟩, fun C hC => kAO_moved hW (h8 C hC), h9.moved (by decide) hal⟩
end KLIB
