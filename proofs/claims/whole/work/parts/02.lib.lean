/-! ONE FORM FOR ALL CONTRACTS: 'kM l y ws fr lo mc ms D tys e0 wc av post px': from every state that holds the cells wc, y called with av returns with what 'post' says of its answer and of the cells behind it, or throws what 'px' names. -/
section KLIB
/-- a class that can be cast to another one -/
def kYc (C T : String) (U : State) : Prop := ∃ c t : ClassId, U.vm.findClass C = some c ∧ U.vm.findClass T = some t ∧ U.vm.assignable c t = true
theorem kYc.moved {C T : String} {u U : State} (hvm : u.vm.Alike U.vm) (h : kYc C T u) : kYc C T U := by
  obtain ⟨c, t, h1, h2, h3⟩ := h
  exact ⟨c, t, by rw [hvm.findClass]; exact h1, by rw [hvm.findClass]; exact h2, by rw [hvm.assignable]; exact h3⟩
theorem kYc.of {args : Array Value} {s : State} {C T : String} (h : (Cond.castable C T).before args s = true) : kYc C T s := by
  obtain ⟨c3, c4, hc3, hc4, hasg⟩ := Cond.castable_spec h
  exact ⟨c3, c4, hc3, hc4, hasg⟩
theorem kYc.word {args : Array Value} {s : State} {C T : String} (h : kYc C T s) : (Cond.castable C T).before args s = true := by
  obtain ⟨c, t, h1, h2, h3⟩ := h
  simp [Cond.before, Cond.holds, Cond.value, h1, h2, h3]
def kEs : List String := ["java/lang/IndexOutOfBoundsException", "java/lang/IllegalArgumentException", "java/lang/UnsupportedOperationException", "java/util/NoSuchElementException", "java/lang/ArithmeticException", "java/lang/IllegalStateException"]
def kNs : List (String × String) := [("java/lang/UnsupportedOperationException", "java/lang/IllegalArgumentException"), ("java/util/NoSuchElementException", "java/lang/IllegalArgumentException"), ("java/util/NoSuchElementException", "java/lang/UnsupportedOperationException")]
def kAs : List String := ["Segueworks$Reel", "Segueworks$Piece", "Segueworks$Edition", "Segueworks$Item", "java/lang/Object"]
abbrev kDE : String := "DEFAULTCAPACITY_EMPTY_ELEMENTDATA"
abbrev kDd : String := "[Ljava/lang/Object;"
abbrev kHN : MethodName := ⟨"java/util/Iterator", "hasNext", "()Z"⟩
abbrev kHT : MethodName := ⟨"java/util/ArrayList$Itr", "hasNext", "()Z"⟩
def kNl : List (Nat × String × String × String) := [(86, "SegueworksModel$Piece", "row", "[I"), (139, "SegueworksModel$Piece", "kind", "C"), (147, "SegueworksModel$Item", "gap", "I"), (150, "SegueworksModel$Item", "piece", "I"), (171, "SegueworksModel$Item", "isLocked", "Z"), (200, "SegueworksModel$Plate", "failed", "I"), (203, "SegueworksModel$Plate", "gave", "I"), (234, "SegueworksModel$Edition", "row", "[I"), (235, "SegueworksModel$Edition", "isOut", "[Z"), (280, "SegueworksModel$Item", "splits", "[I"), (285, "SegueworksModel$Item", "plays", "I"), (294, "SegueworksModel$Edition", "marks", "[I")]
abbrev kNw (q : Nat × String × String × String) : Cond := .fieldLinkNest RX11 q.1 q.2.1 q.2.2.1 q.2.2.2 RX11
def kDs : List MethodName := [Bundle.initS "java/lang/RuntimeException", Bundle.initS "java/lang/Exception", Bundle.initS Bundle.tN]
def kOs : List String := ["java/util/ArrayList", "SegueworksModel$Piece", "java/lang/Integer", "SegueworksModel$Item"]
abbrev kIC : String := "java/lang/Integer$IntegerCache"
/-- ArrayList's shared empty array, the cache of small Integers, its Integers of 0 and 4 -/
abbrev kE : Type := Nat × Nat × Nat × Nat
/-- what throws and lists read beside the world, off the area A; e0: ArrayList's shared empty array -/
def kS (str : List (Nat × String)) (e0 : kE) (A : Nat → Prop) (U : State) (H : Heap) : Prop :=
  vx_Zq Bundle.tN "UNASSIGNED_STACK" Bundle.steD A U H ∧ vx_Zq Bundle.tN "SUPPRESSED_SENTINEL" Bundle.listD A U H ∧
  va_Z "java/util/ArrayList" kDE kDd (.ref e0.1) A U H ∧ va_T (.object "java/lang/Object") e0.1 0 (fun _ => .null) A U H ∧
  (∀ E ∈ kEs, kYc E E U) ∧ (∀ q ∈ kNs, va_Nc q.1 q.2 U) ∧ (∀ q ∈ str, ∃ sa : Nat, vk_R RX6 q.1 q.2 sa U) ∧ (∀ C ∈ kAs, va_AO C U) ∧ va_Fw "java/util/ArrayList$Itr" kHN kHT U ∧ (∀ q ∈ kNl, va_Nw (kNw q) U) ∧ (∀ x ∈ kDs, va_Nw (.declares x) U) ∧
  (∀ C ∈ kOs, kYc C "java/lang/Object" U) ∧ va_Z kIC "high" "I" (.int 127) A U H ∧ va_Z kIC "cache" "[Ljava/lang/Integer;" (.ref e0.2.1) A U H ∧ (∃ f : Nat → Value, (f 128 = .ref e0.2.2.1 ∧ f 132 = .ref e0.2.2.2) ∧ va_T (.object "java/lang/Integer") e0.2.1 256 f A U H) ∧ va_O "java/lang/Integer" e0.2.2.1 A U H ∧ va_O "java/lang/Integer" e0.2.2.2 A U H
theorem kS.same {str : List (Nat × String)} {e0 : kE} {A : Nat → Prop} {u U : State} (hv : U.vm = u.vm) (hh : U.heap = u.heap) (h : kS str e0 A u u.heap) : kS str e0 A U U.heap := by
  obtain ⟨h1, h2, h3, h4, h5, h6, h7, h8, h9, h10, h11, h12, h13, h14, ⟨f, h15a, h15⟩, h16, h17⟩ := h
  have hal : u.vm.Alike U.vm := by rw [hv]; exact Vm.Alike.refl _
  rw [hh]
  refine ⟨h1.moved hal, h2.moved hal, h3.moved hal, h4.moved hal, fun E hE => (h5 E hE).moved hal, fun q hq => (h6 q hq).moved hal, fun q hq => ?_, fun C hC => (h8 C hC).moved hal, h9.moved (by decide) hal, fun q hq => (h10 q hq).same rfl hv.symm, fun x hx => (h11 x hx).same rfl hv.symm, fun C hC => (h12 C hC).moved hal, h13.moved hal, h14.moved hal, ⟨f, h15a, h15.moved hal⟩, h16.moved hal, h17.moved hal⟩
  obtain ⟨sa, hs⟩ := h7 q hq
  exact ⟨sa, hs.same hv⟩
theorem kS.call {str : List (Nat × String)} {e0 : kE} {A B : Nat → Prop} {s U : State} {H : Heap} {locs : List Loc} (h : kS str e0 A s s.heap) (hS : va_S A s.heap H locs) (hAB : ∀ q, B q → A q) (hW : s.WarmedH U.vm) : kS str e0 B U H := by
  obtain ⟨h1, h2, h3, h4, h5, h6, h7, h8, h9, h10, h11, h12, h13, h14, ⟨f, h15a, h15⟩, h16, h17⟩ := h
  have hal := hW.alike
  exact ⟨((h1.moved hal).kept hS.2.1).narrow hAB, ((h2.moved hal).kept hS.2.1).narrow hAB, ((h3.moved hal).kept hS.2.1).narrow hAB, ((h4.moved hal).kept hS.2.1).narrow hAB, fun E hE => (h5 E hE).moved hal, fun q hq => (h6 q hq).moved hal,
    fun q hq => by
      obtain ⟨sa, hs⟩ := h7 q hq
      exact ⟨sa, hs.warm hW⟩, fun C hC => (h8 C hC).moved hal, h9.moved (by decide) hal, fun q hq => (h10 q hq).warmF hW, fun x hx => (h11 x hx).warmD hW, fun C hC => (h12 C hC).moved hal, ((h13.moved hal).kept hS.2.1).narrow hAB, ((h14.moved hal).kept hS.2.1).narrow hAB, ⟨f, h15a, ((h15.moved hal).kept hS.2.1).narrow hAB⟩, ((h16.moved hal).kept hS.2.1).narrow hAB, ((h17.moved hal).kept hS.2.1).narrow hAB⟩
end KLIB
def kStr : List (Nat × String) := [(47, "there are 6 reels"), (64, "the reel is full"), (70, "the reel has no room for the wave"), (77, "the reel has no such samples"), (82, "a piece has a sample at least"), (136, "there are 12 items"), (184, "there are 8 lacquers"), (205, "the lacquer failed or is gone"), (214, "the father gave 3 mothers"), (222, "the mother gave 4 stampers"), (230, "a stamper presses 500 discs at most"), (235, "the program has no items"), (240, "there are 5 editions"), (256, "the sample is not read"), (275, "they do not differ"), (278, "the first one is below 0"), (299, "all would have more than 100 hundredths"), (320, "no edition has marks"), (327, "no disc was pressed"), (333, "no judge gave a mark"), (354, "there is no such number"), (356, "there is none there"), (358, "a number is out of range"), (360, "a piece has 800 samples at most"), (362, "the program has 3000 samples at most"), (364, "there are 24 pieces"), (373, "items do not fit"), (378, "it does not match")]
section KLIB2
/-- the world at a point of a method: the cells ws, the array classes tys, apart, in A; what was written since the entry -/
def kH (D : va_G) (str : List (Nat × String)) (e0 : kE) (A : Nat → Prop) (s : State) (H : Heap) (ws : va_W) (tys : List (ClassId × FieldType)) (locs : List Loc) : Prop :=
  va_P D vwCl ws H ∧ va_D A ws ∧ va_K D vwCl tys s ∧ va_S A s.heap H locs ∧ (∀ q, s.heap.size ≤ q → A q) ∧ kS str e0 A s s.heap
/-- .. at a callee's entry -/
def kB (D : va_G) (str : List (Nat × String)) (e0 : kE) (tys : List (ClassId × FieldType)) (wc : va_W) (sz : Nat) : State → Prop := fun U => U.heap.size = sz ∧ va_P D vwCl wc U.heap ∧ va_K D vwCl tys U ∧ va_D (fun _ => True) wc ∧ kS str e0 (va_A wc sz) U U.heap
def kQ (D : va_G) (post : Option Value → va_W → List (ClassId × FieldType) → Prop) (A : Nat → Prop) : Array Value → State → Outcome → State → Prop := fun _ st oc t =>
  (∃ (v : Option Value) (w : va_W) (ty1 : List (ClassId × FieldType)), oc = .returned v ∧ post v w ty1 ∧ va_P D vwCl w t.heap ∧ va_D A w ∧ va_K D vwCl ty1 t) ∧ va_F A st t
def kX (px : String → Prop) (A : Nat → Prop) : String → State → State → Prop := fun E st t => px E ∧ va_F A st t
abbrev kRm (fr lo mc ms : Nat) : Room := { frames := fr, cells := mc, slots := ms, locals := lo }
def kM (l : Launch) (y : MethodName) (ws : List Cond) (fr lo mc ms : Nat) (D : va_G) (str : List (Nat × String)) (e0 : kE) (tys : List (ClassId × FieldType)) (wc : va_W) (av : List Value) (post : Option Value → va_W → List (ClassId × FieldType) → Prop) (px : String → Prop) : Prop :=
  ∀ sz : Nat, vx_Met l y ws (kRm fr lo mc ms) (va_Pc av (kB D str e0 tys wc sz)) (kQ D post (va_A wc sz)) (kX px (va_A wc sz)) mc ms (va_A wc sz)
/-- a constructor's contract: it returns -/
def kI (l : Launch) (y : MethodName) (ws : List Cond) (fr lo mc ms : Nat) (D : va_G) (str : List (Nat × String)) (e0 : kE) (tys : List (ClassId × FieldType)) (wc : va_W) (av : List Value) (post : Option Value → va_W → List (ClassId × FieldType) → Prop) : Prop :=
  ∀ sz : Nat, Met l y ws (kRm fr lo mc ms) (va_Pc av (kB D str e0 tys wc sz)) (kQ D post (va_A wc sz)) mc ms (va_A wc sz)
theorem k_fm {α : Type} {f : Nat → Option α} {is : List Nat} {w : List α} (h : is.map f = w.map some) : is.filterMap f = w := by
  have h1 : is.filterMap f = (is.map f).filterMap id := by rw [List.filterMap_map]; rfl
  rw [h1, h, List.filterMap_map]
  simp
variable {p : Program} {l : Launch} {e : Env} {R : Room} {s : State} {m : MethodId} {args : Array Value} {below : List Frame} {meth : Method} {c : Code} {H : Heap} {locs : List Loc} {cells slots : Nat} {Q : State → Prop}
variable {D : va_G} {str : List (Nat × String)} {e0 : kE} {A : Nat → Prop} {ws wc wr w1 : va_W} {tys tysC : List (ClassId × FieldType)} {post : Option Value → va_W → List (ClassId × FieldType) → Prop} {px px' : String → Prop}
variable {fr lo mc ms pc nL : Nat} {ls : Array Slot} {st0 rest As : List Value} {cc bytes : ByteArray} {y : MethodName} {wsy wsy' Ts : List Cond} {own C : String} {index n maxL : Nat} {ret : Option FieldType}
theorem kB.blind {wc : va_W} {sz : Nat} {av : List Value} : FrameBlind (va_Pc av (kB D str e0 tys wc sz)) := by
  intro a U g mk hq
  obtain ⟨q0, q1, qP, qK, qD, qS⟩ := hq
  exact ⟨q0, q1, qP, va_K.moved (u := U) (U := U.calling g mk a) (Vm.Alike.refl U.vm) qK, qD, kS.same (u := U) (U := U.calling g mk a) rfl rfl qS⟩
theorem k_pre (hh : kH D str e0 A s H ws tys locs) (isC isT : List Nat) (hC : isC.map (fun i => ws[i]?) = wc.map some) (hnC : va_nd isC = true) (hT : isT.filterMap (fun i => tys[i]?) = tysC) (As : List Value) : PreS s H (va_Pc As (kB D str e0 tysC wc H.size)) As := by
  obtain ⟨hP, hD, hK, hS, hA, hk⟩ := hh
  have hFc := va_free (wc := wc) hD hS hA isC hC
  refine ⟨kB.blind, fun U hU hW => ⟨rfl, by rw [hU], ?_, ?_, ?_, ?_⟩⟩
  · rw [hU]; exact hP.sub isC (k_fm hC)
  · exact va_K.moved hW.alike (hK.sub isT hT)
  · exact (hD.sub isC hnC hC).weaken (fun _ _ _ _ => trivial)
  · rw [hU]; exact hk.call hS hFc hW
theorem kH.frame (hh : kH D str e0 A s H ws tys locs) {H1 : Heap} {locs1 : List Loc} (isR isC : List Nat) (hC : isC.map (fun i => ws[i]?) = wc.map some) (hR : isR.map (fun i => ws[i]?) = wr.map some) (hn : va_nd isR = true) (hdis : ∀ i ∈ isR, i ∉ isC)
    (hk1 : ∀ q : Nat, q < H.size → ¬ va_A wc H.size q → H1[q]? = H[q]?) (hS1 : va_S A s.heap H1 locs1) {ty1 : List (ClassId × FieldType)} (hP1 : va_P D vwCl w1 H1) (hD1 : va_D (va_A wc H.size) w1) (hK1 : va_K D vwCl ty1 s) : kH D str e0 A s H1 (wr ++ w1) (tys ++ ty1) locs1 := by
  obtain ⟨hP, hD, hK, hS, hA, hk⟩ := hh
  have hFc := va_free (wc := wc) hD hS hA isC hC
  obtain ⟨h1, h2⟩ := va_join hP hD isC isR hC hR hn hdis hk1 hFc hP1 hD1
  exact ⟨h1, h2, hK.app hK1, hS1, hA, hk⟩
theorem kH.sub (hh : kH D str e0 A s H ws tys locs) {ws' : va_W} {tys' : List (ClassId × FieldType)} (is isT : List Nat) (h1 : is.map (fun i => ws[i]?) = ws'.map some) (hn : va_nd is = true) (hT : isT.filterMap (fun i => tys[i]?) = tys') : kH D str e0 A s H ws' tys' locs :=
  ⟨hh.1.sub is (k_fm h1), hh.2.1.sub is hn h1, hh.2.2.1.sub isT hT, hh.2.2.2⟩
theorem k_go {a : Array Value} (hr : vx_Run p l e R s m args below meth c H locs cells slots mc ms (F0 m pc ls st0) rest (kQ D post (va_A wc H.size) a) (kX px (va_A wc H.size)) (va_A wc H.size)) (hh : kH D str e0 A s H ws tys locs)
    (isC isR : List Nat) (hC : isC.map (fun i => ws[i]?) = wc.map some) (hR : isR.map (fun i => ws[i]?) = wr.map some) (hn : va_nd isR = true) (hdis : ∀ i ∈ isR, i ∉ isC)
    (kx : ∀ (E : String) (ce : Cell) (q9 : Addr) (H1 : Heap) (locs1 : List Loc), px E → kH D str e0 A s H1 wr tys locs1 → H1[q9]? = some ce → ce.vm = .none → s.vm.findClass E = some ce.cls → vx_W p l e R s m args below meth c H1 locs1 (cells + mc) (slots + ms) Q (F0 m pc ls rest) q9)
    (kk : ∀ (v : Option Value) (w : va_W) (ty1 : List (ClassId × FieldType)) (H1 : Heap) (locs1 : List Loc), post v w ty1 → kH D str e0 A s H1 (wr ++ w) (tys ++ ty1) locs1 → W p l e R s m args below meth c H1 locs1 (cells + mc) (slots + ms) Q (F0 m (pc + 3) ls (v.toList ++ rest))) :
    W p l e R s m args below meth c H locs cells slots Q (F0 m pc ls st0) := by
  intro T hT X
  have hS := hh.2.2.2.1
  have hFc := va_free (wc := wc) hh.2.1 hS hh.2.2.2.2.1 isC hC
  rcases hr T hT X with ⟨v, st₀, t, T', L, h0, X', hL, e1, e2, ⟨⟨v', w, ty1, hv, hp, hP1, hD1, hK1⟩, hF⟩, st⟩ | ⟨q, st₀, t, T', L, E, ce, h0, X', hL, e1, e2, ⟨hp, hF⟩, hce, hcv, hcl, st⟩
  · cases hv
    obtain ⟨k1, k2, k3⟩ := vx_keep h0 e1 hS (fun q _ h => hFc q h) hFc hL hF
    have hal : t.vm.Alike s.vm := by rw [← e2]; exact X'.warmed.alike.symm
    obtain ⟨t2, a1, b1⟩ := kk v w ty1 T'.heap (locs ++ L) hp (hh.frame isR isC hC hR hn hdis k2 k3 (by rw [e1]; exact hP1) hD1 (va_K.moved hal hK1)) T' rfl X'
    exact ⟨t2, st t2 a1, b1⟩
  · obtain ⟨k1, k2, k3⟩ := vx_keep h0 e1 hS (fun q _ h => hFc q h) hFc hL hF
    have h9 := hh.frame (w1 := []) (ty1 := []) isR isC hC hR hn hdis k2 k3 (fun k q h => by simp at h) ⟨fun i j p q h => by simp at h, fun k q h => by simp at h⟩ ⟨hh.2.2.1.1, fun k q h => by simp at h⟩
    rw [List.append_nil, List.append_nil] at h9
    obtain ⟨t2, a1, b1⟩ := kx E ce q T'.heap (locs ++ L) hp h9 (by rw [e1]; exact hce) hcv hcl T' rfl X'
    exact ⟨t2, st.trans a1, b1⟩
theorem k_run {g : JFrame} {Qa : State → Outcome → State → Prop} {XC : String → State → State → Prop} {free : Addr → Prop} (h : va_Run p l e R s m args below meth c H locs cells slots mc ms g rest Qa free) : vx_Run p l e R s m args below meth c H locs cells slots mc ms g rest Qa XC free := fun T hT X => Or.inl (h T hT X)
/-- a static call -/
theorem k_callS (S : CallFix p m c cc nL s args Ts own) (hM : kM l y wsy fr lo mc ms D str e0 tysC wc As post px) (cw : CallB R s args own index y bytes maxL ret wsy (kRm fr lo mc ms) mc ms n ∧ (Cond.static y).before args s = true) (hh : kH D str e0 A s H ws tys locs)
    (isC isR isT : List Nat) (hC : isC.map (fun i => ws[i]?) = wc.map some) (hnC : va_nd isC = true) (hR : isR.map (fun i => ws[i]?) = wr.map some) (hn : va_nd isR = true) (hdis : ∀ i ∈ isR, i ∉ isC) (hT : isT.filterMap (fun i => tys[i]?) = tysC)
    (hln : As.length = n) {lv : List (Nat × Value)} (hsz : lv_has ls nL lv) (hst : st0 = As.reverse ++ rest) (hW : (rest.map fun v => v.category).sum ≤ 8) (hdg : decode cc pc = .ok (.invokestatic index, 3)) (hf : cells + mc ≤ R.cells ∧ slots + ms ≤ R.slots)
    (kx : ∀ (E : String) (ce : Cell) (q9 : Addr) (H1 : Heap) (locs1 : List Loc), px E → kH D str e0 A s H1 wr tys locs1 → H1[q9]? = some ce → ce.vm = .none → s.vm.findClass E = some ce.cls → vx_W p l e R s m args below meth c H1 locs1 (cells + mc) (slots + ms) Q (F0 m pc ls rest) q9)
    (kk : ∀ (v : Option Value) (w : va_W) (ty1 : List (ClassId × FieldType)) (H1 : Heap) (locs1 : List Loc), post v w ty1 → kH D str e0 A s H1 (wr ++ w) (tys ++ ty1) locs1 → W p l e R s m args below meth c H1 locs1 (cells + mc) (slots + ms) Q (F0 m (pc + 3) ls (v.toList ++ rest))) :
    W p l e R s m args below meth c H locs cells slots Q (F0 m pc ls st0) :=
  k_go (vx_runS (rest := rest) S (hM H.size) cw (k_pre hh isC isT hC hnC hT As) rfl hln hsz.1 hst (lv_room hW) hdg hf) hh isC isR hC hR hn hdis kx kk
/-- a static call of a method with a table -/
theorem k_callSX {hhs : List (Nat × Nat × Nat × Nat)} (S : CallFix p m c cc nL s args Ts own) (hM : kM l y wsy fr lo mc ms D str e0 tysC wc As post px) (cw : vx_CSW R s args own index y bytes maxL ret hhs wsy (kRm fr lo mc ms) mc ms n) (hh : kH D str e0 A s H ws tys locs)
    (isC isR isT : List Nat) (hC : isC.map (fun i => ws[i]?) = wc.map some) (hnC : va_nd isC = true) (hR : isR.map (fun i => ws[i]?) = wr.map some) (hn : va_nd isR = true) (hdis : ∀ i ∈ isR, i ∉ isC) (hT : isT.filterMap (fun i => tys[i]?) = tysC)
    (hln : As.length = n) {lv : List (Nat × Value)} (hsz : lv_has ls nL lv) (hst : st0 = As.reverse ++ rest) (hW : (rest.map fun v => v.category).sum ≤ 8) (hdg : decode cc pc = .ok (.invokestatic index, 3)) (hf : cells + mc ≤ R.cells ∧ slots + ms ≤ R.slots)
    (kx : ∀ (E : String) (ce : Cell) (q9 : Addr) (H1 : Heap) (locs1 : List Loc), px E → kH D str e0 A s H1 wr tys locs1 → H1[q9]? = some ce → ce.vm = .none → s.vm.findClass E = some ce.cls → vx_W p l e R s m args below meth c H1 locs1 (cells + mc) (slots + ms) Q (F0 m pc ls rest) q9)
    (kk : ∀ (v : Option Value) (w : va_W) (ty1 : List (ClassId × FieldType)) (H1 : Heap) (locs1 : List Loc), post v w ty1 → kH D str e0 A s H1 (wr ++ w) (tys ++ ty1) locs1 → W p l e R s m args below meth c H1 locs1 (cells + mc) (slots + ms) Q (F0 m (pc + 3) ls (v.toList ++ rest))) :
    W p l e R s m args below meth c H locs cells slots Q (F0 m pc ls st0) :=
  k_go (vx_runSX (rest := rest) S (hM H.size) cw (k_pre hh isC isT hC hnC hT As) rfl hln hsz.1 hst (lv_room hW) hdg hf) hh isC isR hC hR hn hdis kx kk
/-- a virtual call; the receiver is the cell at q0 of the world -/
theorem k_callV {b : Nat} {ci q0 : Nat} {fs : List Value} {T : u_T} {N : Nat} (S : CallFix p m c cc nL s args Ts own) (hM : kM l y wsy fr lo mc ms D str e0 tysC wc (.ref b :: As) post px) (cw : CallW R s args own C index y bytes maxL ret wsy (kRm fr lo mc ms) mc ms n) (hh : kH D str e0 A s H ws tys locs)
    (hci : vwCl[ci]? = some (C, T, N)) (hq0 : ws[q0]? = some (b, .inr (ci, fs)))
    (isC isR isT : List Nat) (hC : isC.map (fun i => ws[i]?) = wc.map some) (hnC : va_nd isC = true) (hR : isR.map (fun i => ws[i]?) = wr.map some) (hn : va_nd isR = true) (hdis : ∀ i ∈ isR, i ∉ isC) (hT : isT.filterMap (fun i => tys[i]?) = tysC)
    (hln : As.length = n) {lv : List (Nat × Value)} (hsz : lv_has ls nL lv) (hst : st0 = As.reverse ++ .ref b :: rest) (hW : (rest.map fun v => v.category).sum ≤ 8) (hdg : decode cc pc = .ok (.invokevirtual index, 3)) (hf : cells + mc ≤ R.cells ∧ slots + ms ≤ R.slots)
    (kx : ∀ (E : String) (ce : Cell) (q9 : Addr) (H1 : Heap) (locs1 : List Loc), px E → kH D str e0 A s H1 wr tys locs1 → H1[q9]? = some ce → ce.vm = .none → s.vm.findClass E = some ce.cls → vx_W p l e R s m args below meth c H1 locs1 (cells + mc) (slots + ms) Q (F0 m pc ls rest) q9)
    (kk : ∀ (v : Option Value) (w : va_W) (ty1 : List (ClassId × FieldType)) (H1 : Heap) (locs1 : List Loc), post v w ty1 → kH D str e0 A s H1 (wr ++ w) (tys ++ ty1) locs1 → W p l e R s m args below meth c H1 locs1 (cells + mc) (slots + ms) Q (F0 m (pc + 3) ls (v.toList ++ rest))) :
    W p l e R s m args below meth c H locs cells slots Q (F0 m pc ls st0) := by
  have hp := k_pre hh isC isT hC hnC hT (.ref b :: As)
  have hrc := va_recv hh.2.2.1 hh.1 hci hq0
  exact k_go (vx_runV (rest := rest) S (hM H.size) cw ⟨hp.1, hrc, hp.2⟩ rfl hln hsz.1 hst (lv_room hW) hdg hf) hh isC isR hC hR hn hdis kx kk
/-- a constructor's call -/
theorem k_callI {b : Nat} (S : CallFix p m c cc nL s args Ts own) (hM : kI l y wsy fr lo mc ms D str e0 tysC wc (.ref b :: As) post) (cw : CallB R s args own index y bytes maxL none wsy (kRm fr lo mc ms) mc ms n ∧ y.name = "<init>" ∧ (Cond.instanceMethod y).before args s = true) (hh : kH D str e0 A s H ws tys locs)
    (isC isR isT : List Nat) (hC : isC.map (fun i => ws[i]?) = wc.map some) (hnC : va_nd isC = true) (hR : isR.map (fun i => ws[i]?) = wr.map some) (hn : va_nd isR = true) (hdis : ∀ i ∈ isR, i ∉ isC) (hT : isT.filterMap (fun i => tys[i]?) = tysC)
    (hln : As.length = n) {lv : List (Nat × Value)} (hsz : lv_has ls nL lv) (hst : st0 = As.reverse ++ .ref b :: rest) (hW : (rest.map fun v => v.category).sum ≤ 8) (hdg : decode cc pc = .ok (.invokespecial index, 3)) (hf : cells + mc ≤ R.cells ∧ slots + ms ≤ R.slots)
    (kk : ∀ (v : Option Value) (w : va_W) (ty1 : List (ClassId × FieldType)) (H1 : Heap) (locs1 : List Loc), post v w ty1 → kH D str e0 A s H1 (wr ++ w) (tys ++ ty1) locs1 → W p l e R s m args below meth c H1 locs1 (cells + mc) (slots + ms) Q (F0 m (pc + 3) ls (v.toList ++ rest))) :
    W p l e R s m args below meth c H locs cells slots Q (F0 m pc ls st0) :=
  k_go (px := fun _ => False) (k_run (va_runI (rest := rest) S (hM H.size) cw (k_pre hh isC isT hC hnC hT (.ref b :: As)) rfl hln hsz.1 hst (lv_room hW) hdg hf)) hh isC isR hC hR hn hdis (fun _ _ _ _ _ h => h.elim) kk
end KLIB2
section KLIB3
variable {p : Program} {l : Launch} {e : Env} {R : Room} {s : State} {m : MethodId} {args : Array Value} {below : List Frame} {meth : Method} {c : Code} {H : Heap} {locs : List Loc} {cells slots : Nat} {Q : State → Prop}
variable {D : va_G} {str : List (Nat × String)} {e0 : kE} {A : Nat → Prop} {ws wc wr w1 : va_W} {tys tysC ty1 : List (ClassId × FieldType)} {post : Option Value → va_W → List (ClassId × FieldType) → Prop} {px px' : String → Prop}
variable {fr lo mc ms pc nL : Nat} {ls : Array Slot} {st0 rest As : List Value} {cc bytes : ByteArray} {y : MethodName} {wsy wsy' Ts : List Cond} {own C : String} {index n maxL : Nat} {ret : Option FieldType} {XC : String → State → State → Prop}
/-- what a method's body begins with -/
theorem k_of (hy : plainName y.cls = true) (hw : wsy = Cond.code y cc maxL ret :: wsy') (hn : (lg_sl As).length ≤ maxL)
    (body : ∀ (p : Program) (e : Env) (s : State) (m : MethodId) (args : Array Value) (below : List Frame) (meth : Method) (c : Code) (A : Nat → Prop) (ls : Array Slot), p.tables.exec = Jvm.exec → c.code = cc → meth.sig.returnType = ret → (∀ w ∈ wsy, w.before args s = true) → s.vm.findClass y.cls = some m.cls → meth.locks = false → c.maxLocals = maxL → c.exceptionTable.toList = [] →
      kH D str e0 A s s.heap wc tys [] → lv_has ls maxL (lv_args 0 As) → W p l e (kRm fr lo mc ms) s m args below meth c s.heap [] 0 0 (vx_MQ below (kQ D post A) (kX px A) args s mc ms A) (F0 m 0 ls [])) : kM l y wsy fr lo mc ms D str e0 tys wc As post px := by
  intro sz
  refine vx_ofW (cc := cc) (maxL := maxL) (ret := ret) hy hw ?_
  intro p e s m args below meth c s₁ B hml hex hv
  obtain ⟨rfl, hsz, hP, hK, hD0, hk⟩ := hv
  subst hsz
  have hl := lv_entry As (n := maxL) hn
  rw [lg_entry_eq]
  refine body p e s m _ below meth c _ _ B.exec B.bytes B.returns (atoms_spec (ws := wsy) B.pre) (findClass_of_methodNamed B.named) B.notSynchronized hml ?_ ⟨hP, hD0.self, hK, va_S.rf, fun q h => Or.inr h, hk⟩ hl
  cases h9 : c.exceptionTable.toList with
  | nil => rfl
  | cons x xs => exact (hex x (by rw [h9]; exact List.mem_cons_self)).elim
/-- .. a constructor's -/
theorem k_ofI (hy : plainName y.cls = true) (hw : wsy = Cond.code y cc maxL ret :: wsy') (hn : (lg_sl As).length ≤ maxL)
    (body : ∀ (p : Program) (e : Env) (s : State) (m : MethodId) (args : Array Value) (below : List Frame) (meth : Method) (c : Code) (A : Nat → Prop) (ls : Array Slot), p.tables.exec = Jvm.exec → c.code = cc → meth.sig.returnType = ret → (∀ w ∈ wsy, w.before args s = true) → s.vm.findClass y.cls = some m.cls → meth.locks = false → c.maxLocals = maxL → meth.name = y.name →
      kH D str e0 A s s.heap wc tys [] → lv_has ls maxL (lv_args 0 As) → W p l e (kRm fr lo mc ms) s m args below meth c s.heap [] 0 0 (MQ below (kQ D post A) args s mc ms A) (F0 m 0 ls [])) : kI l y wsy fr lo mc ms D str e0 tys wc As post := by
  intro sz
  refine Met.ofW (cc := cc) (maxL := maxL) (ret := ret) hy hw ?_
  intro p e s m args below meth c s₁ B hml hv
  obtain ⟨rfl, hsz, hP, hK, hD0, hk⟩ := hv
  subst hsz
  have hl := lv_entry As (n := maxL) hn
  rw [lg_entry_eq]
  exact body p e s m _ below meth c _ _ B.exec B.bytes B.returns (atoms_spec (ws := wsy) B.pre) (findClass_of_methodNamed B.named) B.notSynchronized hml (name_of_methodNamed B.named B.method).1 ⟨hP, hD0.self, hK, va_S.rf, fun q h => Or.inr h, hk⟩ hl
/-- .. one with a table -/
theorem k_ofX {hhs : List (Nat × Nat × Nat × Nat)} (hy : plainName y.cls = true) (hw : wsy = Cond.codeWith y cc maxL ret hhs :: wsy') (hn : (lg_sl As).length ≤ maxL)
    (body : ∀ (p : Program) (e : Env) (s : State) (m : MethodId) (args : Array Value) (below : List Frame) (meth : Method) (c : Code) (A : Nat → Prop) (ls : Array Slot), p.tables.exec = Jvm.exec → c.code = cc → meth.sig.returnType = ret → (∀ w ∈ wsy, w.before args s = true) → s.vm.findClass y.cls = some m.cls → meth.locks = false → c.maxLocals = maxL → c.exceptionTable.toList = tableOf hhs →
      kH D str e0 A s s.heap wc tys [] → lv_has ls maxL (lv_args 0 As) → W p l e (kRm fr lo mc ms) s m args below meth c s.heap [] 0 0 (vx_MQ below (kQ D post A) (kX px A) args s mc ms A) (F0 m 0 ls [])) : kM l y wsy fr lo mc ms D str e0 tys wc As post px := by
  intro sz
  refine vx_ofWH (cc := cc) (maxL := maxL) (ret := ret) (hh := hhs) hy hw ?_
  intro p e s m args below meth c s₁ B hml hv
  obtain ⟨rfl, hsz, hP, hK, hD0, hk⟩ := hv
  subst hsz
  have hl := lv_entry As (n := maxL) hn
  rw [lg_entry_eq]
  have hts := atoms_spec (ws := wsy) B.pre
  exact body p e s m _ below meth c _ _ B.exec B.bytes B.returns hts (findClass_of_methodNamed B.named) B.notSynchronized hml (vx_table (x := y) B (hts _ (by rw [hw]; exact List.mem_cons_self))) ⟨hP, hD0.self, hK, va_S.rf, fun q h => Or.inr h, hk⟩ hl
/-- the end's world -/
theorem k_endw {v : Option Value} (hh : kH D str e0 A s H ws tys locs) (hp : post v w1 ty1) (isW isT : List Nat) (hW1 : isW.map (fun i => ws[i]?) = w1.map some) (hnd : va_nd isW = true) (hT1 : isT.filterMap (fun i => tys[i]?) = ty1) {a : Array Value} : ∀ t : State, t.heap = H → s.WarmedH t.vm → kQ D post A a s (.returned v) t := by
  intro t ht hW
  obtain ⟨hP, hD, hK, hS, hA, hk⟩ := hh
  exact ⟨⟨v, w1, ty1, rfl, hp, by rw [ht]; exact hP.sub isW (k_fm hW1), hD.sub isW hnd hW1, va_K.moved hW.alike (hK.sub isT hT1)⟩, hS.F ht⟩
theorem k_endi {v : Int32} (hx : p.tables.exec = Jvm.exec) (hb : c.code = cc) (hr : meth.sig.returnType = some .int) (hlocks : meth.locks = false) (hh : kH D str e0 A s H ws tys locs) (hp : post (some (.int v)) w1 ty1) (isW isT : List Nat) (hW1 : isW.map (fun i => ws[i]?) = w1.map some) (hnd : va_nd isW = true) (hT1 : isT.filterMap (fun i => tys[i]?) = ty1) (hc : cells ≤ mc) (hs : slots ≤ ms) (hdg : decode cc pc = .ok (.ireturn, 1)) :
    W p l e R s m args below meth c H locs cells slots (vx_MQ below (kQ D post A) XC args s mc ms A) (F0 m pc ls [.int v]) :=
  vx_ret (W.widen hc hs (W.iret hx hb hr (k_endw hh hp isW isT hW1 hnd hT1) hh.2.2.2.1.2.2 hdg hlocks))
theorem k_endz {v : Int32} {ty : FieldType} (hn : narrow ty (.int v) = .int v) (hx : p.tables.exec = Jvm.exec) (hb : c.code = cc) (hr : meth.sig.returnType = some ty) (hlocks : meth.locks = false) (hh : kH D str e0 A s H ws tys locs) (hp : post (some (.int v)) w1 ty1) (isW isT : List Nat) (hW1 : isW.map (fun i => ws[i]?) = w1.map some) (hnd : va_nd isW = true) (hT1 : isT.filterMap (fun i => tys[i]?) = ty1) (hc : cells ≤ mc) (hs : slots ≤ ms) (hdg : decode cc pc = .ok (.ireturn, 1)) :
    W p l e R s m args below meth c H locs cells slots (vx_MQ below (kQ D post A) XC args s mc ms A) (F0 m pc ls [.int v]) :=
  vx_ret (W.widen hc hs (W.zret hx hb hr hn (k_endw hh hp isW isT hW1 hnd hT1) hh.2.2.2.1.2.2 hdg hlocks))
theorem k_endv (hx : p.tables.exec = Jvm.exec) (hb : c.code = cc) (hr : meth.sig.returnType = none) (hlocks : meth.locks = false) (hh : kH D str e0 A s H ws tys locs) (hp : post none w1 ty1) (isW isT : List Nat) (hW1 : isW.map (fun i => ws[i]?) = w1.map some) (hnd : va_nd isW = true) (hT1 : isT.filterMap (fun i => tys[i]?) = ty1) (hc : cells ≤ mc) (hs : slots ≤ ms) (hdg : decode cc pc = .ok (.return_, 1)) :
    W p l e R s m args below meth c H locs cells slots (vx_MQ below (kQ D post A) XC args s mc ms A) (F0 m pc ls []) :=
  vx_ret (W.widen hc hs (W.vret hx hb hr (k_endw hh hp isW isT hW1 hnd hT1) hh.2.2.2.1.2.2 hdg hlocks))
theorem k_endV (hx : p.tables.exec = Jvm.exec) (hb : c.code = cc) (hr : meth.sig.returnType = none) (hlocks : meth.locks = false) (hh : kH D str e0 A s H ws tys locs) (hp : post none w1 ty1) (isW isT : List Nat) (hW1 : isW.map (fun i => ws[i]?) = w1.map some) (hnd : va_nd isW = true) (hT1 : isT.filterMap (fun i => tys[i]?) = ty1) (hc : cells ≤ mc) (hs : slots ≤ ms) (hdg : decode cc pc = .ok (.return_, 1)) :
    W p l e R s m args below meth c H locs cells slots (MQ below (kQ D post A) args s mc ms A) (F0 m pc ls []) :=
  W.widen hc hs (W.vret hx hb hr (k_endw hh hp isW isT hW1 hnd hT1) hh.2.2.2.1.2.2 hdg hlocks)
theorem k_enda {v : Value} {rt : FieldType} (hrt : (∃ n, rt = .object n) ∨ ∃ t, rt = .array t) (hv : v = .null ∨ ∃ a, v = .ref a) (hx : p.tables.exec = Jvm.exec) (hb : c.code = cc) (hr : meth.sig.returnType = some rt) (hlocks : meth.locks = false) (hh : kH D str e0 A s H ws tys locs) (hp : post (some v) w1 ty1) (isW isT : List Nat) (hW1 : isW.map (fun i => ws[i]?) = w1.map some) (hnd : va_nd isW = true) (hT1 : isT.filterMap (fun i => tys[i]?) = ty1) (hc : cells ≤ mc) (hs : slots ≤ ms) (hdg : decode cc pc = .ok (.areturn, 1)) :
    W p l e R s m args below meth c H locs cells slots (vx_MQ below (kQ D post A) XC args s mc ms A) (F0 m pc ls [v]) :=
  vx_ret (W.widen hc hs (W.aret hx hb hr hrt hv (k_endw hh hp isW isT hW1 hnd hT1) hh.2.2.2.1.2.2 hdg hlocks))
theorem k_endl {v : Int64} (hx : p.tables.exec = Jvm.exec) (hb : c.code = cc) (hr : meth.sig.returnType = some .long) (hlocks : meth.locks = false) (hh : kH D str e0 A s H ws tys locs) (hp : post (some (.long v)) w1 ty1) (isW isT : List Nat) (hW1 : isW.map (fun i => ws[i]?) = w1.map some) (hnd : va_nd isW = true) (hT1 : isT.filterMap (fun i => tys[i]?) = ty1) (hc : cells ≤ mc) (hs : slots ≤ ms) (hdg : decode cc pc = .ok (.lreturn, 1)) :
    W p l e R s m args below meth c H locs cells slots (vx_MQ below (kQ D post A) XC args s mc ms A) (F0 m pc ls [.long v]) :=
  vx_ret (W.widen hc hs (W.lret hx hb hr (k_endw hh hp isW isT hW1 hnd hT1) hh.2.2.2.1.2.2 hdg hlocks))
theorem k_endf {v : UInt32} (hx : p.tables.exec = Jvm.exec) (hb : c.code = cc) (hr : meth.sig.returnType = some .float) (hlocks : meth.locks = false) (hh : kH D str e0 A s H ws tys locs) (hp : post (some (.float v)) w1 ty1) (isW isT : List Nat) (hW1 : isW.map (fun i => ws[i]?) = w1.map some) (hnd : va_nd isW = true) (hT1 : isT.filterMap (fun i => tys[i]?) = ty1) (hc : cells ≤ mc) (hs : slots ≤ ms) (hdg : decode cc pc = .ok (.freturn, 1)) :
    W p l e R s m args below meth c H locs cells slots (vx_MQ below (kQ D post A) XC args s mc ms A) (F0 m pc ls [.float v]) :=
  vx_ret (W.widen hc hs (W.fret hx hb hr (k_endw hh hp isW isT hW1 hnd hT1) hh.2.2.2.1.2.2 hdg hlocks))
theorem k_endd {v : UInt64} (hx : p.tables.exec = Jvm.exec) (hb : c.code = cc) (hr : meth.sig.returnType = some .double) (hlocks : meth.locks = false) (hh : kH D str e0 A s H ws tys locs) (hp : post (some (.double v)) w1 ty1) (isW isT : List Nat) (hW1 : isW.map (fun i => ws[i]?) = w1.map some) (hnd : va_nd isW = true) (hT1 : isT.filterMap (fun i => tys[i]?) = ty1) (hc : cells ≤ mc) (hs : slots ≤ ms) (hdg : decode cc pc = .ok (.dreturn, 1)) :
    W p l e R s m args below meth c H locs cells slots (vx_MQ below (kQ D post A) XC args s mc ms A) (F0 m pc ls [.double v]) :=
  vx_ret (W.widen hc hs (W.dret hx hb hr (k_endw hh hp isW isT hW1 hnd hT1) hh.2.2.2.1.2.2 hdg hlocks))
/-- a throw that leaves a method without a table -/
theorem k_out {Qc : Array Value → State → Outcome → State → Prop} {E : String} {ce : Cell} {q : Addr} (hex : c.exceptionTable.toList = []) (hlocks : meth.locks = false) (hp : px E) (hh : kH D str e0 A s H ws tys locs) (hcell : H[q]? = some ce) (hv : ce.vm = .none) (hcl : s.vm.findClass E = some ce.cls) (hc : cells ≤ mc) (hs : slots ≤ ms) :
    vx_W p l e R s m args below meth c H locs cells slots (vx_MQ below Qc (kX px A) args s mc ms A) (F0 m pc ls rest) q :=
  vx_out (by rw [hex]; intro x hx; cases hx) hlocks hcell hv hcl (fun t ht _ => ⟨hp, hh.2.2.2.1.F ht⟩) hh.2.2.2.1.2.2 hc hs
/-- throw new E("text") -/
theorem k_throw {Qc : Array Value → State → Outcome → State → Prop} {cls text : String} {names : List String} {ik is ic : Nat} (hx : p.tables.exec = Jvm.exec) (hb : c.code = cc) (hl : l.stackTraces = false) (hown : s.vm.findClass RX6 = some m.cls) (hcls : Bundle.fit cls = true) (hnames : ∀ n ∈ names, Bundle.fit n = true)
    (hk : (Cond.classLink RX6 ik cls).before args s = true) (hini : (Cond.initialized cls).before args s = true) (hat : ∀ w ∈ vx_atS RX6 ic cls names, w.before args s = true) (hgood : ∀ w ∈ Cond.classLink RX6 ik cls :: Cond.initialized cls :: vx_atS RX6 ic cls names, vx_ot w = true)
    (hh : kH D str e0 A s H ws tys locs) (hin : (is, text) ∈ str) (hml : c.maxLocals = nL) {lv : List (Nat × Value)} (hsz : lv_has ls nL lv)
    (d0 : decode cc pc = .ok (.new ik, 3)) (d3 : decode cc (pc + 3) = .ok (.dup, 1)) (d4 : decode cc (pc + 4) = .ok (.ldc is, 2)) (d6 : decode cc (pc + 6) = .ok (.invokespecial ic, 3)) (d9 : decode cc (pc + 9) = .ok (.athrow, 1))
    (hex : c.exceptionTable.toList = []) (hRf : names.length + 3 < R.frames) (hRl : (rest.map fun v => v.category).sum + (13 * (names.length + 1) + 43) ≤ R.locals) (hRc : cells + 1 ≤ R.cells) (hRs : slots + 6 ≤ R.slots) (hlocks : meth.locks = false) (hp : px cls) (hc : cells + 1 ≤ mc) (hs : slots + 6 ≤ ms) :
    W p l e R s m args below meth c H locs cells slots (vx_MQ below Qc (kX px A) args s mc ms A) (F0 m pc ls rest) := by
  obtain ⟨hP, hD, hK, hS, hA, hk9⟩ := hh
  obtain ⟨sa, hsa⟩ := hk9.2.2.2.2.2.2.1 _ hin
  exact vx_throwS hx hb hl hown hcls hnames hk hini hsa hat hgood hk9.1 hk9.2.1 hS (hsz.1.trans hml.symm) d0 d3 d4 d6 d9 (by rw [hex]; intro x hx; cases hx) hRf hRl hRc hRs hlocks
    (fun t _ hz hq => ⟨hp, Nat.le_trans hS.1 hz, fun q h1 h2 => (hq q (Nat.lt_of_lt_of_le h1 hS.1)).trans (hS.2.1 q h1 h2)⟩) hS.2.2 hc hs
theorem k_throwW {Qc : Array Value → State → Outcome → State → Prop} {cls text : String} {names : List String} {ik is ic : Nat} (hx : p.tables.exec = Jvm.exec) (hb : c.code = cc) (hl : l.stackTraces = false) (hown : s.vm.findClass RX6 = some m.cls) (hcls : Bundle.fit cls = true) (hnames : ∀ n ∈ names, Bundle.fit n = true)
    (hk : (Cond.classLink RX6 ik cls).before args s = true) (hini : (Cond.initialized cls).before args s = true) (hat : ∀ w ∈ vx_atS RX6 ic cls names, w.before args s = true) (hgood : ∀ w ∈ Cond.classLink RX6 ik cls :: Cond.initialized cls :: vx_atS RX6 ic cls names, vx_ot w = true)
    (hh : kH D str e0 A s H ws tys locs) (hin : (is, text) ∈ str) (hml : c.maxLocals = nL) {lv : List (Nat × Value)} (hsz : lv_has ls nL lv)
    (d0 : decode cc pc = .ok (.new ik, 3)) (d3 : decode cc (pc + 3) = .ok (.dup, 1)) (d4 : decode cc (pc + 4) = .ok (.ldc_w is, 3)) (d7 : decode cc (pc + 7) = .ok (.invokespecial ic, 3)) (d10 : decode cc (pc + 10) = .ok (.athrow, 1))
    (hex : c.exceptionTable.toList = []) (hRf : names.length + 3 < R.frames) (hRl : (rest.map fun v => v.category).sum + (13 * (names.length + 1) + 43) ≤ R.locals) (hRc : cells + 1 ≤ R.cells) (hRs : slots + 6 ≤ R.slots) (hlocks : meth.locks = false) (hp : px cls) (hc : cells + 1 ≤ mc) (hs : slots + 6 ≤ ms) :
    W p l e R s m args below meth c H locs cells slots (vx_MQ below Qc (kX px A) args s mc ms A) (F0 m pc ls rest) := by
  obtain ⟨hP, hD, hK, hS, hA, hk9⟩ := hh
  obtain ⟨sa, hsa⟩ := hk9.2.2.2.2.2.2.1 _ hin
  exact vx_throwSW hx hb hl hown hcls hnames hk hini hsa hat hgood hk9.1 hk9.2.1 hS (hsz.1.trans hml.symm) d0 d3 d4 d7 d10 (by rw [hex]; intro x hx; cases hx) hRf hRl hRc hRs hlocks
    (fun t _ hz hq => ⟨hp, Nat.le_trans hS.1 hz, fun q h1 h2 => (hq q (Nat.lt_of_lt_of_le h1 hS.1)).trans (hS.2.1 q h1 h2)⟩) hS.2.2 hc hs
/-- a throw caught by a row of this method's table -/
theorem k_catch {E name : String} {ce : Cell} {q : Addr} {tl : List ExceptionTableEntry} (hown : s.vm.findClass own = some m.cls) (htab : c.exceptionTable.toList = tl) (pre : List ExceptionTableEntry) (x : ExceptionTableEntry) (suf : List ExceptionTableEntry) (hsplit : tl = pre ++ x :: suf)
    (hpass : ∀ z ∈ pre, z.catchType ≠ 0 ∧ ∃ nm : String, (Cond.classLink own z.catchType nm).before args s = true ∧ (E, nm) ∈ kNs) (hcov : covers x pc = true) (h0 : x.catchType ≠ 0) (hlink : (Cond.classLink own x.catchType name).before args s = true) (hE : E = name) (hkE : name ∈ kEs)
    (hh : kH D str e0 A s H ws tys locs) (hcell : H[q]? = some ce) (hv : ce.vm = .none) (hcl : s.vm.findClass E = some ce.cls)
    (kk : W p l e R s m args below meth c H locs cells slots Q (F0 m x.handlerPc ls [.ref q])) : vx_W p l e R s m args below meth c H locs cells slots Q (F0 m pc ls rest) q := by
  obtain ⟨-, -, -, -, -, -, -, -, -, hY, hN, -⟩ := hh
  refine vx_catch hown pre x suf (htab.trans hsplit) (fun z hz => ?_) hcov h0 hlink (by rw [hE]; exact (hY name hkE).word) hcell hv hcl kk
  obtain ⟨h1, nm, h2, h3⟩ := hpass z hz
  exact Or.inr ⟨h1, nm, h2, hN _ h3⟩
end KLIB3
section KLIB4
variable {p : Program} {l : Launch} {e : Env} {R : Room} {s : State} {m : MethodId} {args : Array Value} {below : List Frame} {meth : Method} {c : Code} {H : Heap} {locs : List Loc} {cells slots : Nat} {Q : State → Prop}
variable {D : va_G} {str : List (Nat × String)} {e0 : kE} {A : Nat → Prop} {ws : va_W} {tys : List (ClassId × FieldType)} {pc a : Nat} {ls : Array Slot} {rest : List Value} {cc : ByteArray} {Ts : List Cond}
theorem k_get {own C : String} {T : u_T} {N ci index : Nat} (hx : p.tables.exec = Jvm.exec) (hb : c.code = cc) (hts : ∀ w ∈ Ts, w.before args s = true) (hin : ∀ w ∈ u_ws C T N, w ∈ Ts) (hown : s.vm.findClass own = some m.cls) (hh : kH D str e0 A s H ws tys locs) (q0 : Nat) {fs : List Value} (he : ws[q0]? = some (a, .inr (ci, fs))) (hc : vwCl[ci]? = some (C, T, N)) (k : Nat) (hk : k < N) (hlink : (Cond.fieldLink own index (T k).1 (T k).2.1 (T k).2.2.1).before args s = true) {v : Value} (hv : fs[k]? = some v) (hdg : decode cc pc = .ok (.getfield index, 3))
    (kk : W p l e R s m args below meth c H locs cells slots Q (F0 m (pc + 3) ls (v :: rest))) : W p l e R s m args below meth c H locs cells slots Q (F0 m pc ls (.ref a :: rest)) :=
  va_get hx hb hts hin hown hh.2.2.1 hh.1 q0 he hc k hk hlink (fun _ h => h) hv hdg kk
theorem k_getR {own ref C : String} {T : u_T} {N ci index : Nat} (hx : p.tables.exec = Jvm.exec) (hb : c.code = cc) (hts : ∀ w ∈ Ts, w.before args s = true) (hin : ∀ w ∈ u_ws C T N, w ∈ Ts) (hown : s.vm.findClass own = some m.cls) (hh : kH D str e0 A s H ws tys locs) (q0 : Nat) {fs : List Value} (he : ws[q0]? = some (a, .inr (ci, fs))) (hc : vwCl[ci]? = some (C, T, N)) (k : Nat) (hk : k < N) (hlink : (Cond.fieldLink own index ref (T k).2.1 (T k).2.2.1).before args s = true) (hsame : ∀ x, s.fieldFound? (T k).1 (T k).2.1 (T k).2.2.1 = some x → s.fieldFound? ref (T k).2.1 (T k).2.2.1 = some x) {v : Value} (hv : fs[k]? = some v) (hdg : decode cc pc = .ok (.getfield index, 3))
    (kk : W p l e R s m args below meth c H locs cells slots Q (F0 m (pc + 3) ls (v :: rest))) : W p l e R s m args below meth c H locs cells slots Q (F0 m pc ls (.ref a :: rest)) :=
  va_get hx hb hts hin hown hh.2.2.1 hh.1 q0 he hc k hk hlink hsame hv hdg kk
theorem k_putR {own ref C : String} {T : u_T} {N ci index : Nat} (hx : p.tables.exec = Jvm.exec) (hb : c.code = cc) (hts : ∀ w ∈ Ts, w.before args s = true) (hin : ∀ w ∈ u_ws C T N, w ∈ Ts) (ty0 : Nat → FieldType) (hty : ∀ k, k < N → parseFieldDescriptor (T k).2.2.1 = some (ty0 k)) (hnm : ∀ a, a < N → ∀ b, b < N → a ≠ b → (T a).2.1 ≠ (T b).2.1) (hown : s.vm.findClass own = some m.cls) (hh : kH D str e0 A s H ws tys locs) (q0 : Nat) {fs : List Value} (he : ws[q0]? = some (a, .inr (ci, fs))) (hc : vwCl[ci]? = some (C, T, N)) (k : Nat) (hk : k < N) (hlink : (Cond.fieldLink own index ref (T k).2.1 (T k).2.2.1).before args s = true) (hsame : ∀ x, s.fieldFound? (T k).1 (T k).2.1 (T k).2.2.1 = some x → s.fieldFound? ref (T k).2.1 (T k).2.2.1 = some x) (hfin : (T k).2.2.2 = false) {v : Value} (hn : narrow (ty0 k) v = v) (hfit : fits (ty0 k) v = true) (hl : k < fs.length) (hdg : decode cc pc = .ok (.putfield index, 3)) {ws' : va_W} (hw' : ws.set q0 (a, .inr (ci, fs.set k v)) = ws')
    (kk : ∀ (H1 : Heap) (locs1 : List Loc), kH D str e0 A s H1 ws' tys locs1 → W p l e R s m args below meth c H1 locs1 cells slots Q (F0 m (pc + 3) ls rest)) : W p l e R s m args below meth c H locs cells slots Q (F0 m pc ls (v :: .ref a :: rest)) := by
  subst hw'
  obtain ⟨hP, hD, hK, hS, hA, hk9⟩ := hh
  exact va_put hx hb hts hin ty0 hty hnm hown hK hP hD hS q0 he hc k hk hlink hsame hfin (hty k hk) hn hfit hl hdg (fun H1 locs1 a1 a2 a3 => kk H1 locs1 ⟨a1, a2, hK, a3, hA, hk9⟩)
theorem k_getN {own C host : String} {T : u_T} {N ci index : Nat} (hx : p.tables.exec = Jvm.exec) (hb : c.code = cc) (hts : ∀ w ∈ Ts, w.before args s = true) (hin : ∀ w ∈ u_ws C T N, w ∈ Ts) (hown : s.vm.findClass own = some m.cls) (hh : kH D str e0 A s H ws tys locs) (q0 : Nat) {fs : List Value} (he : ws[q0]? = some (a, .inr (ci, fs))) (hc : vwCl[ci]? = some (C, T, N)) (k : Nat) (hk : k < N) (hlink : (Cond.fieldLinkNest own index (T k).1 (T k).2.1 (T k).2.2.1 host).before args s = true) {v : Value} (hv : fs[k]? = some v) (hdg : decode cc pc = .ok (.getfield index, 3))
    (kk : W p l e R s m args below meth c H locs cells slots Q (F0 m (pc + 3) ls (v :: rest))) : W p l e R s m args below meth c H locs cells slots Q (F0 m pc ls (.ref a :: rest)) :=
  va_getN hx hb hts hin hown hh.2.2.1 hh.1 q0 he hc k hk hlink (fun _ h => h) hv hdg kk
theorem k_put {own C : String} {T : u_T} {N ci index : Nat} (hx : p.tables.exec = Jvm.exec) (hb : c.code = cc) (hts : ∀ w ∈ Ts, w.before args s = true) (hin : ∀ w ∈ u_ws C T N, w ∈ Ts) (ty0 : Nat → FieldType) (hty : ∀ k, k < N → parseFieldDescriptor (T k).2.2.1 = some (ty0 k)) (hnm : ∀ a, a < N → ∀ b, b < N → a ≠ b → (T a).2.1 ≠ (T b).2.1) (hown : s.vm.findClass own = some m.cls) (hh : kH D str e0 A s H ws tys locs) (q0 : Nat) {fs : List Value} (he : ws[q0]? = some (a, .inr (ci, fs))) (hc : vwCl[ci]? = some (C, T, N)) (k : Nat) (hk : k < N) (hlink : (Cond.fieldLink own index (T k).1 (T k).2.1 (T k).2.2.1).before args s = true) (hfin : (T k).2.2.2 = false) {v : Value} (hn : narrow (ty0 k) v = v) (hfit : fits (ty0 k) v = true) (hl : k < fs.length) (hdg : decode cc pc = .ok (.putfield index, 3)) {ws' : va_W} (hw' : ws.set q0 (a, .inr (ci, fs.set k v)) = ws')
    (kk : ∀ (H1 : Heap) (locs1 : List Loc), kH D str e0 A s H1 ws' tys locs1 → W p l e R s m args below meth c H1 locs1 cells slots Q (F0 m (pc + 3) ls rest)) : W p l e R s m args below meth c H locs cells slots Q (F0 m pc ls (v :: .ref a :: rest)) := by
  subst hw'
  obtain ⟨hP, hD, hK, hS, hA, hk9⟩ := hh
  exact va_put hx hb hts hin ty0 hty hnm hown hK hP hD hS q0 he hc k hk hlink (fun _ h => h) hfin (hty k hk) hn hfit hl hdg (fun H1 locs1 a1 a2 a3 => kk H1 locs1 ⟨a1, a2, hK, a3, hA, hk9⟩)
theorem k_putF {own C : String} {T : u_T} {N ci index : Nat} (hx : p.tables.exec = Jvm.exec) (hb : c.code = cc) (hts : ∀ w ∈ Ts, w.before args s = true) (hin : ∀ w ∈ u_ws C T N, w ∈ Ts) (ty0 : Nat → FieldType) (hty : ∀ k, k < N → parseFieldDescriptor (T k).2.2.1 = some (ty0 k)) (hnm : ∀ a, a < N → ∀ b, b < N → a ≠ b → (T a).2.1 ≠ (T b).2.1) (hown : s.vm.findClass own = some m.cls) (hh : kH D str e0 A s H ws tys locs) (q0 : Nat) {fs : List Value} (he : ws[q0]? = some (a, .inr (ci, fs))) (hc : vwCl[ci]? = some (C, T, N)) (k : Nat) (hk : k < N) (hlink : (Cond.fieldLink own index (T k).1 (T k).2.1 (T k).2.2.1).before args s = true) (hfin : (T k).2.2.2 = true) (hname : meth.name = "<init>") (hdecl : (T k).1 = own) {v : Value} (hn : narrow (ty0 k) v = v) (hfit : fits (ty0 k) v = true) (hl : k < fs.length) (hdg : decode cc pc = .ok (.putfield index, 3)) {ws' : va_W} (hw' : ws.set q0 (a, .inr (ci, fs.set k v)) = ws')
    (kk : ∀ (H1 : Heap) (locs1 : List Loc), kH D str e0 A s H1 ws' tys locs1 → W p l e R s m args below meth c H1 locs1 cells slots Q (F0 m (pc + 3) ls rest)) : W p l e R s m args below meth c H locs cells slots Q (F0 m pc ls (v :: .ref a :: rest)) := by
  subst hw'
  obtain ⟨hP, hD, hK, hS, hA, hk9⟩ := hh
  exact va_putF hx hb hts hin ty0 hty hnm hown hK hP hD hS q0 he hc k hk hlink (fun _ h => h) hfin hname hdecl (hty k hk) hn hfit hl hdg (fun H1 locs1 a1 a2 a3 => kk H1 locs1 ⟨a1, a2, hK, a3, hA, hk9⟩)
theorem k_new {own C : String} {T : u_T} {N ci index : Nat} (hx : p.tables.exec = Jvm.exec) (hb : c.code = cc) (hts : ∀ w ∈ Ts, w.before args s = true) (hin : ∀ w ∈ u_ws C T N, w ∈ Ts) (ty0 : Nat → FieldType) (hty : ∀ k, k < N → parseFieldDescriptor (T k).2.2.1 = some (ty0 k)) (hown : s.vm.findClass own = some m.cls) (hcl : (Cond.classLink own index C).before args s = true) (hinst : (Cond.instantiable C N).before args s = true) (hini : (Cond.initialized C).before args s = true) (hh : kH D str e0 A s H ws tys locs) (hc : vwCl[ci]? = some (C, T, N)) {fs : List Value} (hfs : ∀ j, j < N → defaultValue (ty0 j) = vp_V fs j) (hcells : cells + 1 ≤ R.cells) (hslots : slots + N ≤ R.slots) (hdg : decode cc pc = .ok (.new index, 3))
    (kk : ∀ (q : Nat) (H1 : Heap), kH D str e0 A s H1 (ws ++ [(q, .inr (ci, fs))]) tys locs → W p l e R s m args below meth c H1 locs (cells + 1) (slots + N) Q (F0 m (pc + 3) ls (.ref q :: rest))) : W p l e R s m args below meth c H locs cells slots Q (F0 m pc ls rest) := by
  obtain ⟨hP, hD, hK, hS, hA, hk9⟩ := hh
  exact va_new hx hb hts hin ty0 hty hown hcl hinst hini hK hP hD hS hA hc hfs hcells hslots hdg (fun q H1 a1 a2 a3 => kk q H1 ⟨a1, a2, hK, a3, hA, hk9⟩)
/-- a new array of ints (booleans, longs ..), its row as vp_A has it -/
theorem k_newa {atype : ArrayType} (hx : p.tables.exec = Jvm.exec) (hb : c.code = cc) (harr : (Cond.arrayClass (newarray.typeOf atype)).before args s = true) {ty : FieldType} (hty : newarray.typeOf atype = ty) (hh : kH D str e0 A s H ws tys locs) {n : Int32} {N' : Nat} {a0 : vp_A} (ha : ∀ cA : ClassId, vp_cell cA a0 = arrV cA N' (fun _ => defaultValue ty)) (hn : ¬ n < 0) (hN : n.toNatClampNeg = N') (hbytes : N' * componentBytes ty ≤ 536870912) (hcells : cells + 1 ≤ R.cells) (hslots : slots + N' ≤ R.slots) (hdg : decode cc pc = .ok (.newarray atype, 2))
    (kk : ∀ (q : Nat) (cA : ClassId) (H1 : Heap), kH D str e0 A s H1 (ws ++ [(q, .inl (cA, a0))]) (tys ++ [(cA, ty)]) locs → W p l e R s m args below meth c H1 locs (cells + 1) (slots + N') Q (F0 m (pc + 2) ls (.ref q :: rest))) : W p l e R s m args below meth c H locs cells slots Q (F0 m pc ls (.int n :: rest)) := by
  obtain ⟨hP, hD, hK, hS, hA, hk9⟩ := hh
  exact va_newa hx hb harr hty hK hP hD hS hA ha hn hN hbytes hcells hslots hdg (fun q cA H1 a0 a1 a2 a3 => kk q cA H1 ⟨a1, a2, a0, a3, hA, hk9⟩)
/-- a new array of references -/
theorem k_newq {own C : String} {index : Nat} (hx : p.tables.exec = Jvm.exec) (hb : c.code = cc) (hown : s.vm.findClass own = some m.cls) (hcl : (Cond.classLink own index C).before args s = true) (hC : C ∈ kAs) (hh : kH D str e0 A s H ws tys locs) {n : Int32} {N' : Nat} (hn : ¬ n < 0) (hN : n.toNatClampNeg = N') (hbytes : N' * 4 ≤ 536870912) (hcells : cells + 1 ≤ R.cells) (hslots : slots + N' ≤ R.slots) (hdg : decode cc pc = .ok (.anewarray index, 3))
    (kk : ∀ (q : Nat) (cA : ClassId) (H1 : Heap), kH D str e0 A s H1 (ws ++ [(q, .inl (cA, N', .inr (.inr (.inr (.inr (fun _ => none))))))]) (tys ++ [(cA, .object C)]) locs → W p l e R s m args below meth c H1 locs (cells + 1) (slots + N') Q (F0 m (pc + 3) ls (.ref q :: rest))) : W p l e R s m args below meth c H locs cells slots Q (F0 m pc ls (.int n :: rest)) := by
  obtain ⟨hP, hD, hK, hS, hA, hk9⟩ := hh
  exact va_newq hx hb hown hcl (hk9.2.2.2.2.2.2.2.1 C hC) hK hP hD hS hA hn hN hbytes hcells hslots hdg (fun q cA H1 a0 a1 a2 a3 => kk q cA H1 ⟨a1, a2, a0, a3, hA, hk9⟩)
theorem k_iast (hx : p.tables.exec = Jvm.exec) (hb : c.code = cc) (hh : kH D str e0 A s H ws tys locs) (q0 t0 : Nat) {cA : ClassId} {n : Nat} {f : Nat → Int32} (ha : ws[q0]? = some (a, .inl (cA, n, .inl f))) (ht : tys[t0]? = some (cA, .int)) {i x : Int32} (hin : vp_in i n) (hdg : decode cc pc = .ok (.iastore, 1)) {ws' : va_W} (hw' : ws.set q0 (a, .inl (cA, n, .inl (upd f i.toNatClampNeg x))) = ws')
    (kk : ∀ (H1 : Heap) (locs1 : List Loc), kH D str e0 A s H1 ws' tys locs1 → W p l e R s m args below meth c H1 locs1 cells slots Q (F0 m (pc + 1) ls rest)) : W p l e R s m args below meth c H locs cells slots Q (F0 m pc ls (.int x :: .int i :: .ref a :: rest)) := by
  subst hw'
  obtain ⟨hP, hD, hK, hS, hA, hk9⟩ := hh
  exact va_iast hx hb hK hP hD hS q0 t0 ha ht hin hdg (fun H1 locs1 a1 a2 a3 => kk H1 locs1 ⟨a1, a2, hK, a3, hA, hk9⟩)
theorem k_last (hx : p.tables.exec = Jvm.exec) (hb : c.code = cc) (hh : kH D str e0 A s H ws tys locs) (q0 t0 : Nat) {cA : ClassId} {n : Nat} {f : Nat → Int64} (ha : ws[q0]? = some (a, .inl (cA, n, .inr (.inl f)))) (ht : tys[t0]? = some (cA, .long)) {i : Int32} {x : Int64} (hin : vp_in i n) (hdg : decode cc pc = .ok (.lastore, 1)) {ws' : va_W} (hw' : ws.set q0 (a, .inl (cA, n, .inr (.inl (vp_updL f i.toNatClampNeg x)))) = ws')
    (kk : ∀ (H1 : Heap) (locs1 : List Loc), kH D str e0 A s H1 ws' tys locs1 → W p l e R s m args below meth c H1 locs1 cells slots Q (F0 m (pc + 1) ls rest)) : W p l e R s m args below meth c H locs cells slots Q (F0 m pc ls (.long x :: .int i :: .ref a :: rest)) := by
  subst hw'
  obtain ⟨hP, hD, hK, hS, hA, hk9⟩ := hh
  exact va_last hx hb hK hP hD hS q0 t0 ha ht hin hdg (fun H1 locs1 a1 a2 a3 => kk H1 locs1 ⟨a1, a2, hK, a3, hA, hk9⟩)
theorem k_iald (hx : p.tables.exec = Jvm.exec) (hb : c.code = cc) (hh : kH D str e0 A s H ws tys locs) (q0 t0 : Nat) {cA : ClassId} {n : Nat} {f : Nat → Int32} (ha : ws[q0]? = some (a, .inl (cA, n, .inl f))) (ht : tys[t0]? = some (cA, .int)) {i v : Int32} (hin : vp_in i n) (hv : f i.toNatClampNeg = v) (hdg : decode cc pc = .ok (.iaload, 1))
    (kk : W p l e R s m args below meth c H locs cells slots Q (F0 m (pc + 1) ls (.int v :: rest))) : W p l e R s m args below meth c H locs cells slots Q (F0 m pc ls (.int i :: .ref a :: rest)) := by
  subst hv
  exact va_iald hx hb hh.2.2.1 hh.1 q0 t0 ha ht hin hdg kk
theorem k_lald (hx : p.tables.exec = Jvm.exec) (hb : c.code = cc) (hh : kH D str e0 A s H ws tys locs) (q0 t0 : Nat) {cA : ClassId} {n : Nat} {f : Nat → Int64} (ha : ws[q0]? = some (a, .inl (cA, n, .inr (.inl f)))) (ht : tys[t0]? = some (cA, .long)) {i : Int32} {v : Int64} (hin : vp_in i n) (hv : f i.toNatClampNeg = v) (hdg : decode cc pc = .ok (.laload, 1))
    (kk : W p l e R s m args below meth c H locs cells slots Q (F0 m (pc + 1) ls (.long v :: rest))) : W p l e R s m args below meth c H locs cells slots Q (F0 m pc ls (.int i :: .ref a :: rest)) := by
  subst hv
  exact va_lald hx hb hh.2.2.1 hh.1 q0 t0 ha ht hin hdg kk
theorem k_alen (hx : p.tables.exec = Jvm.exec) (hb : c.code = cc) (hh : kH D str e0 A s H ws tys locs) (q0 t0 : Nat) {cA : ClassId} {x : vp_A} (ha : ws[q0]? = some (a, .inl (cA, x))) {ty : FieldType} (ht : tys[t0]? = some (cA, ty)) {v : Int32} (hv : Int32.ofNat x.1 = v) (hdg : decode cc pc = .ok (.arraylength, 1))
    (kk : W p l e R s m args below meth c H locs cells slots Q (F0 m (pc + 1) ls (.int v :: rest))) : W p l e R s m args below meth c H locs cells slots Q (F0 m pc ls (.ref a :: rest)) :=
  va_alen hx hb hh.2.2.1 hh.1 q0 t0 ha ht hv hdg kk
theorem k_astq (hx : p.tables.exec = Jvm.exec) (hb : c.code = cc) (hh : kH D str e0 A s H ws tys locs) (q0 t0 qk ci : Nat) {cA : ClassId} {r : vw_C} {n v : Nat} {vs : List Value} {f : Nat → Option Nat} (ha : ws[q0]? = some (a, .inl (cA, n, .inr (.inr (.inr (.inr f)))))) (ht : tys[t0]? = some (cA, .object r.1)) (hv : ws[qk]? = some (v, .inr (ci, vs))) (hc : vwCl[ci]? = some r) {i : Int32} (hin : vp_in i n) (hdg : decode cc pc = .ok (.aastore, 1)) {ws' : va_W} (hw' : ws.set q0 (a, .inl (cA, n, .inr (.inr (.inr (.inr (va_up f i.toNatClampNeg (some v))))))) = ws')
    (kk : ∀ (H1 : Heap) (locs1 : List Loc), kH D str e0 A s H1 ws' tys locs1 → W p l e R s m args below meth c H1 locs1 cells slots Q (F0 m (pc + 1) ls rest)) : W p l e R s m args below meth c H locs cells slots Q (F0 m pc ls (.ref v :: .int i :: .ref a :: rest)) := by
  subst hw'
  obtain ⟨hP, hD, hK, hS, hA, hk9⟩ := hh
  exact va_astq hx hb hK hP hD hS q0 t0 qk ci ha ht hv hc hin hdg (fun H1 locs1 a1 a2 a3 => kk H1 locs1 ⟨a1, a2, hK, a3, hA, hk9⟩)
theorem kYc.asg {C : String} (h : kYc C "java/lang/Object" s) : ∀ comp c0 : ClassId, s.vm.findClass "java/lang/Object" = some comp → s.vm.findClass C = some c0 → s.vm.assignable c0 comp = true := by
  intro comp c0 h1 h2
  obtain ⟨c, t, g1, g2, g3⟩ := h
  cases g1.symm.trans h2
  cases g2.symm.trans h1
  exact g3
/-- an object of the world into an array of Objects -/
theorem k_astO {C : String} {T : u_T} {N : Nat} (hx : p.tables.exec = Jvm.exec) (hb : c.code = cc) (hh : kH D str e0 A s H ws tys locs) (q0 t0 qk ci : Nat) (hC : C ∈ kOs) {cA : ClassId} {n v : Nat} {vs : List Value} {f : Nat → Option Nat} (ha : ws[q0]? = some (a, .inl (cA, n, .inr (.inr (.inr (.inr f)))))) (ht : tys[t0]? = some (cA, .object "java/lang/Object")) (hv : ws[qk]? = some (v, .inr (ci, vs))) (hc : vwCl[ci]? = some (C, T, N)) {i : Int32} (hin : vp_in i n) (hdg : decode cc pc = .ok (.aastore, 1)) {ws' : va_W} (hw' : ws.set q0 (a, .inl (cA, n, .inr (.inr (.inr (.inr (va_up f i.toNatClampNeg (some v))))))) = ws')
    (kk : ∀ (H1 : Heap) (locs1 : List Loc), kH D str e0 A s H1 ws' tys locs1 → W p l e R s m args below meth c H1 locs1 cells slots Q (F0 m (pc + 1) ls rest)) : W p l e R s m args below meth c H locs cells slots Q (F0 m pc ls (.ref v :: .int i :: .ref a :: rest)) := by
  subst hw'
  obtain ⟨hP, hD, hK, hS, hA, hk9⟩ := hh
  have hY := hk9.2.2.2.2.2.2.2.2.2.2.2.1 C hC
  exact vb_astq (C := C) hx hb hK hP hD hS q0 t0 ha ht (va_recv hK hP hc hv) hY.asg hin hdg (fun H1 locs1 a1 a2 a3 => kk H1 locs1 ⟨a1, a2, hK, a3, hA, hk9⟩)
/-- the cached Integer of 0 into an array of Objects -/
theorem k_astI1 (hx : p.tables.exec = Jvm.exec) (hb : c.code = cc) (hh : kH D str e0 A s H ws tys locs) (q0 t0 : Nat) {cA : ClassId} {n : Nat} {f : Nat → Option Nat} (ha : ws[q0]? = some (a, .inl (cA, n, .inr (.inr (.inr (.inr f)))))) (ht : tys[t0]? = some (cA, .object "java/lang/Object")) {i : Int32} (hin : vp_in i n) (hdg : decode cc pc = .ok (.aastore, 1)) {ws' : va_W} (hw' : ws.set q0 (a, .inl (cA, n, .inr (.inr (.inr (.inr (va_up f i.toNatClampNeg (some e0.2.2.1))))))) = ws')
    (kk : ∀ (H1 : Heap) (locs1 : List Loc), kH D str e0 A s H1 ws' tys locs1 → W p l e R s m args below meth c H1 locs1 cells slots Q (F0 m (pc + 1) ls rest)) : W p l e R s m args below meth c H locs cells slots Q (F0 m pc ls (.ref e0.2.2.1 :: .int i :: .ref a :: rest)) := by
  subst hw'
  obtain ⟨hP, hD, hK, hS, hA, hk9⟩ := hh
  have hY := hk9.2.2.2.2.2.2.2.2.2.2.2.1 "java/lang/Integer" (by decide)
  obtain ⟨cell, g1, g2, g3, g4⟩ := hk9.2.2.2.2.2.2.2.2.2.2.2.2.2.2.2.1
  exact vb_astq (C := "java/lang/Integer") hx hb hK hP hD hS q0 t0 ha ht ⟨cell, (hS.2.1 _ (Array.getElem?_eq_some_iff.mp g1).1 g4).trans g1, g2, g3⟩ hY.asg hin hdg (fun H1 locs1 a1 a2 a3 => kk H1 locs1 ⟨a1, a2, hK, a3, hA, hk9⟩)
/-- the cached Integer of 4 into an array of Objects -/
theorem k_astI2 (hx : p.tables.exec = Jvm.exec) (hb : c.code = cc) (hh : kH D str e0 A s H ws tys locs) (q0 t0 : Nat) {cA : ClassId} {n : Nat} {f : Nat → Option Nat} (ha : ws[q0]? = some (a, .inl (cA, n, .inr (.inr (.inr (.inr f)))))) (ht : tys[t0]? = some (cA, .object "java/lang/Object")) {i : Int32} (hin : vp_in i n) (hdg : decode cc pc = .ok (.aastore, 1)) {ws' : va_W} (hw' : ws.set q0 (a, .inl (cA, n, .inr (.inr (.inr (.inr (va_up f i.toNatClampNeg (some e0.2.2.2))))))) = ws')
    (kk : ∀ (H1 : Heap) (locs1 : List Loc), kH D str e0 A s H1 ws' tys locs1 → W p l e R s m args below meth c H1 locs1 cells slots Q (F0 m (pc + 1) ls rest)) : W p l e R s m args below meth c H locs cells slots Q (F0 m pc ls (.ref e0.2.2.2 :: .int i :: .ref a :: rest)) := by
  subst hw'
  obtain ⟨hP, hD, hK, hS, hA, hk9⟩ := hh
  have hY := hk9.2.2.2.2.2.2.2.2.2.2.2.1 "java/lang/Integer" (by decide)
  obtain ⟨cell, g1, g2, g3, g4⟩ := hk9.2.2.2.2.2.2.2.2.2.2.2.2.2.2.2.2
  exact vb_astq (C := "java/lang/Integer") hx hb hK hP hD hS q0 t0 ha ht ⟨cell, (hS.2.1 _ (Array.getElem?_eq_some_iff.mp g1).1 g4).trans g1, g2, g3⟩ hY.asg hin hdg (fun H1 locs1 a1 a2 a3 => kk H1 locs1 ⟨a1, a2, hK, a3, hA, hk9⟩)
theorem kNest_word {args : Array Value} {locs : List Loc} (hh : kH D str e0 A s H ws tys locs) {q : Nat × String × String × String} (hq : q ∈ kNl) : (kNw q).before args s = true := va_Nw.use rfl (hh.2.2.2.2.2.2.2.2.2.2.2.2.2.2.1 q hq)
theorem kD_word {args : Array Value} {locs : List Loc} (hh : kH D str e0 A s H ws tys locs) {x : MethodName} (hx : x ∈ kDs) : (Cond.declares x).before args s = true := va_Nw.use rfl (hh.2.2.2.2.2.2.2.2.2.2.2.2.2.2.2.1 x hx)
theorem k_in_f {v lo hi : Int64} (h : ¬ (lo ≤ v ∧ v ≤ hi)) (h3 : ¬ lg_cmp v lo < 0) : 0 < lg_cmp v hi := by
  rw [lg_cmp_lt, Int64.not_lt] at h3
  rw [lg_cmp_gt]
  exact Int64.not_le.mp (fun q => h ⟨h3, q⟩)
theorem k_empty (v : Int64) : ¬ ((0 : Int64) ≤ v ∧ v ≤ -1) := fun h => absurd (Int64.le_trans h.1 h.2) (by decide)
theorem k_wide {v lo hi : Int32} : (lo.toInt64 ≤ v.toInt64 ∧ v.toInt64 ≤ hi.toInt64) ↔ (lo ≤ v ∧ v ≤ hi) := by
  simp only [Int64.le_iff_toInt_le, Int32.le_iff_toInt_le, Int32.toInt_toInt64]
theorem k_rngT {v lo hi : Int32} {lo' hi' : Int64} (e1 : lo.toInt64 = lo') (e2 : hi.toInt64 = hi') (h : lo ≤ v ∧ v ≤ hi) : lo' ≤ v.toInt64 ∧ v.toInt64 ≤ hi' := by
  rw [← e1, ← e2]; exact k_wide.mpr h
theorem k_rngF {v lo hi : Int32} {lo' hi' : Int64} (e1 : lo.toInt64 = lo') (e2 : hi.toInt64 = hi') (h : ¬ (lo ≤ v ∧ v ≤ hi)) : ¬ (lo' ≤ v.toInt64 ∧ v.toInt64 ≤ hi') := by
  rw [← e1, ← e2]; exact fun q => h (k_wide.mp q)
end KLIB4
section KLIB5
theorem kg_V {own C : String} {idx : Nat} {y : MethodName} {ws : List Cond} (h : ∀ w ∈ ws, goodWord w = true) : ∀ w ∈ wsV own idx C y ws, goodWord w = true := fun w hw => (List.mem_append.mp hw).elim (fun h1 => (show ∀ w ∈ ([.methodLink own idx y, .instanceMethod y, .selects C y y, .initialized C] : List Cond), goodWord w = true from List.forall_mem_cons.mpr ⟨rfl, List.forall_mem_cons.mpr ⟨rfl, List.forall_mem_cons.mpr ⟨rfl, List.forall_mem_cons.mpr ⟨rfl, fun _ h => absurd h List.not_mem_nil⟩⟩⟩⟩) w h1) (h w)
theorem kg_S {own : String} {idx : Nat} {y : MethodName} {ws : List Cond} (h : ∀ w ∈ ws, goodWord w = true) : ∀ w ∈ va_wsS own idx y ws, goodWord w = true := fun w hw => (List.mem_append.mp hw).elim (fun h1 => (show ∀ w ∈ ([.methodLink own idx y, .static y, .initialized y.cls] : List Cond), goodWord w = true from List.forall_mem_cons.mpr ⟨rfl, List.forall_mem_cons.mpr ⟨rfl, List.forall_mem_cons.mpr ⟨rfl, fun _ h => absurd h List.not_mem_nil⟩⟩⟩) w h1) (h w)
theorem kg_F {own C : String} {idx : Nat} {x y : MethodName} {ws : List Cond} (h : ∀ w ∈ ws, goodWord w = true) : ∀ w ∈ va_wsF own idx C x y ws, goodWord w = true := fun w hw => (List.mem_append.mp hw).elim (fun h1 => (show ∀ w ∈ ([.methodLink own idx x, .selects C x y, .instanceMethod y, .initialized y.cls] : List Cond), goodWord w = true from List.forall_mem_cons.mpr ⟨rfl, List.forall_mem_cons.mpr ⟨rfl, List.forall_mem_cons.mpr ⟨rfl, List.forall_mem_cons.mpr ⟨rfl, fun _ h => absurd h List.not_mem_nil⟩⟩⟩⟩) w h1) (h w)
end KLIB5
section KLIB6
variable {p : Program} {l : Launch} {e : Env} {R : Room} {s : State} {m : MethodId} {args : Array Value} {below : List Frame} {meth : Method} {c : Code} {H : Heap} {locs : List Loc} {cells slots : Nat} {Q : State → Prop}
variable {D : va_G} {str : List (Nat × String)} {e0 : kE} {A : Nat → Prop} {ws wc wr w1 : va_W} {tys tysC ty1 : List (ClassId × FieldType)} {post : Option Value → va_W → List (ClassId × FieldType) → Prop}
variable {fr lo mc ms pc nL : Nat} {ls : Array Slot} {st0 rest As : List Value} {cc bytes : ByteArray} {y : MethodName} {wsy wsy' Ts : List Cond} {own C : String} {index n maxL : Nat} {ret : Option FieldType}
theorem k_endZ {v : Int32} (hx : p.tables.exec = Jvm.exec) (hb : c.code = cc) (hr : meth.sig.returnType = some .boolean) (hlocks : meth.locks = false) (hn : narrow .boolean (.int v) = .int v) (hh : kH D str e0 A s H ws tys locs) (hp : post (some (.int v)) w1 ty1) (isW isT : List Nat) (hW1 : isW.map (fun i => ws[i]?) = w1.map some) (hnd : va_nd isW = true) (hT1 : isT.filterMap (fun i => tys[i]?) = ty1) (hc : cells ≤ mc) (hs : slots ≤ ms) (hdg : decode cc pc = .ok (.ireturn, 1)) :
    W p l e R s m args below meth c H locs cells slots (MQ below (kQ D post A) args s mc ms A) (F0 m pc ls [.int v]) :=
  W.widen hc hs (W.zret hx hb hr hn (k_endw hh hp isW isT hW1 hnd hT1) hh.2.2.2.1.2.2 hdg hlocks)
theorem k_goF {a : Array Value} (hr : va_Run5 p l e R s m args below meth c H locs cells slots mc ms (F0 m pc ls st0) rest (kQ D post (va_A wc H.size) a) (va_A wc H.size)) (hh : kH D str e0 A s H ws tys locs)
    (isC isR : List Nat) (hC : isC.map (fun i => ws[i]?) = wc.map some) (hR : isR.map (fun i => ws[i]?) = wr.map some) (hn : va_nd isR = true) (hdis : ∀ i ∈ isR, i ∉ isC)
    (kk : ∀ (v : Option Value) (w : va_W) (ty1 : List (ClassId × FieldType)) (H1 : Heap) (locs1 : List Loc), post v w ty1 → kH D str e0 A s H1 (wr ++ w) (tys ++ ty1) locs1 → W p l e R s m args below meth c H1 locs1 (cells + mc) (slots + ms) Q (F0 m (pc + 5) ls (v.toList ++ rest))) :
    W p l e R s m args below meth c H locs cells slots Q (F0 m pc ls st0) := by
  intro T hT X
  have hS := hh.2.2.2.1
  have hFc := va_free (wc := wc) hh.2.1 hS hh.2.2.2.2.1 isC hC
  obtain ⟨v, st₀, t, T', L, h0, X', hL, e1, e2, ⟨⟨v', w, ty1, hv, hp, hP1, hD1, hK1⟩, hF⟩, st⟩ := hr T hT X
  cases hv
  obtain ⟨k1, k2, k3⟩ := vx_keep h0 e1 hS (fun q _ h => hFc q h) hFc hL hF
  have hal : t.vm.Alike s.vm := by rw [← e2]; exact X'.warmed.alike.symm
  obtain ⟨t2, a1, b1⟩ := kk v w ty1 T'.heap (locs ++ L) hp (hh.frame isR isC hC hR hn hdis k2 k3 (by rw [e1]; exact hP1) hD1 (va_K.moved hal hK1)) T' rfl X'
  exact ⟨t2, st t2 a1, b1⟩
/-- an interface's call; the receiver is the cell at q0 of the world -/
theorem k_callF {b ci q0 count : Nat} {fs : List Value} {T : u_T} {N : Nat} {x : MethodName} (S : CallFix p m c cc nL s args Ts own) (hM : kI l y wsy fr lo mc ms D str e0 tysC wc (.ref b :: As) post) (cw : va_CI R s args own C index x y bytes maxL ret wsy (kRm fr lo mc ms) mc ms n) (hh : kH D str e0 A s H ws tys locs)
    (hci : vwCl[ci]? = some (C, T, N)) (hq0 : ws[q0]? = some (b, .inr (ci, fs)))
    (isC isR isT : List Nat) (hC : isC.map (fun i => ws[i]?) = wc.map some) (hnC : va_nd isC = true) (hR : isR.map (fun i => ws[i]?) = wr.map some) (hn : va_nd isR = true) (hdis : ∀ i ∈ isR, i ∉ isC) (hT : isT.filterMap (fun i => tys[i]?) = tysC)
    (hln : As.length = n) {lv : List (Nat × Value)} (hsz : lv_has ls nL lv) (hst : st0 = As.reverse ++ .ref b :: rest) (hW : (rest.map fun v => v.category).sum ≤ 8) (hdg : decode cc pc = .ok (.invokeinterface index count, 5)) (hf : cells + mc ≤ R.cells ∧ slots + ms ≤ R.slots)
    (kk : ∀ (v : Option Value) (w : va_W) (ty1 : List (ClassId × FieldType)) (H1 : Heap) (locs1 : List Loc), post v w ty1 → kH D str e0 A s H1 (wr ++ w) (tys ++ ty1) locs1 → W p l e R s m args below meth c H1 locs1 (cells + mc) (slots + ms) Q (F0 m (pc + 5) ls (v.toList ++ rest))) :
    W p l e R s m args below meth c H locs cells slots Q (F0 m pc ls st0) := by
  have hp := k_pre hh isC isT hC hnC hT (.ref b :: As)
  have hrc := va_recv hh.2.2.1 hh.1 hci hq0
  have hat := (hh.2.2.1.1 ci _ hci).2
  exact k_goF (va_runF (rest := rest) hat S (hM H.size) cw ⟨hp.1, hrc, hp.2⟩ rfl hln hsz.1 hst (lv_room hW) hdg hf) hh isC isR hC hR hn hdis kk
end KLIB6
