section WF1
theorem nI_sub {a b : Nat} (h : b ≤ a) : nI a - nI b = nI (a - b) := by
  obtain ⟨d, rfl⟩ := Nat.exists_eq_add_of_le h
  rw [Nat.add_sub_cancel_left, ← nI_add b d, Int32.add_comm, Int32.add_sub_cancel]
theorem nI_subneg {a b : Nat} (h : a < b) (hb : b < 2 ^ 31) : ¬ ((0 : Int32) ≤ nI a - nI b) := by
  intro h0
  rw [Int32.le_iff_toInt_le, Int32.toInt_sub, nI_toInt (by omega), nI_toInt hb, Int.bmod_eq_of_le (by omega) (by omega)] at h0
  have h1 : (0 : Int32).toInt = 0 := by decide
  omega
theorem wf_set {α : Type} {l : List α} {i : Nat} {x : α} (h : l[i]? = some x) : l.set i x = l := by
  apply List.ext_getElem?
  intro j
  by_cases hj : i = j
  · subst hj
    have hl := (List.getElem?_eq_some_iff.mp h).1
    rw [List.getElem?_set_self hl, h]
  · rw [List.getElem?_set_ne hj]
end WF1
section WF2
variable {p : Program} {l : Launch} {e : Env} {R : Room} {s : State} {m : MethodId} {args : Array Value} {below : List Frame} {meth : Method} {c : Code} {H : Heap} {locs : List Loc} {cells slots : Nat} {Q : State → Prop}
variable {D : va_G} {str : List (Nat × String)} {e0 : kE} {A : Nat → Prop} {ws wc wr w1 : va_W} {tys tysC : List (ClassId × FieldType)} {post : Option Value → va_W → List (ClassId × FieldType) → Prop} {px : String → Prop}
variable {fr lo mc ms pc nL a : Nat} {ls : Array Slot} {st0 rest As : List Value} {cc bytes : ByteArray} {y : MethodName} {wsy Ts : List Cond} {own C : String} {index n maxL : Nat} {ret : Option FieldType}
/-- a cast of an object of the world to its own class -/
theorem k_castS {T : u_T} {N ci : Nat} {fs : List Value} (hx : p.tables.exec = Jvm.exec) (hb : c.code = cc) (hown : s.vm.findClass own = some m.cls) (hlink : (Cond.classLink own index C).before args s = true) (hh : kH D str e0 A s H ws tys locs) (q0 : Nat) (he : ws[q0]? = some (a, .inr (ci, fs))) (hc : vwCl[ci]? = some (C, T, N)) (hdg : decode cc pc = .ok (.checkcast index, 3))
    (kk : W p l e R s m args below meth c H locs cells slots Q (F0 m (pc + 3) ls (.ref a :: rest))) : W p l e R s m args below meth c H locs cells slots Q (F0 m pc ls (.ref a :: rest)) :=
  va_castS hx hb hown hlink (hh.2.2.1.1 ci _ hc).2 (va_recv hh.2.2.1 hh.1 hc he) hdg kk
/-- a reference out of an array of the world -/
theorem k_aldq (hx : p.tables.exec = Jvm.exec) (hb : c.code = cc) (hh : kH D str e0 A s H ws tys locs) (q0 t0 : Nat) {cA : ClassId} {C : String} {n v : Nat} {f : Nat → Option Nat} (ha : ws[q0]? = some (a, .inl (cA, n, .inr (.inr (.inr (.inr f)))))) (ht : tys[t0]? = some (cA, .object C)) {i : Int32} (hin : vp_in i n) (hv : f i.toNatClampNeg = some v) (hdg : decode cc pc = .ok (.aaload, 1))
    (kk : W p l e R s m args below meth c H locs cells slots Q (F0 m (pc + 1) ls (.ref v :: rest))) : W p l e R s m args below meth c H locs cells slots Q (F0 m pc ls (.int i :: .ref a :: rest)) :=
  va_aldq hx hb hh.2.2.1 hh.1 q0 t0 ha ht hin hdg (by rw [hv]; exact kk)
/-- 0 into an array of zeros -/
theorem k_iast0 (hx : p.tables.exec = Jvm.exec) (hb : c.code = cc) (hh : kH D str e0 A s H ws tys locs) (q0 t0 : Nat) {cA : ClassId} {n : Nat} (ha : ws[q0]? = some (a, .inl (cA, n, .inl (fun _ => 0)))) (ht : tys[t0]? = some (cA, .int)) {i : Int32} (hin : vp_in i n) (hdg : decode cc pc = .ok (.iastore, 1))
    (kk : ∀ (H1 : Heap) (locs1 : List Loc), kH D str e0 A s H1 ws tys locs1 → W p l e R s m args below meth c H1 locs1 cells slots Q (F0 m (pc + 1) ls rest)) : W p l e R s m args below meth c H locs cells slots Q (F0 m pc ls (.int 0 :: .int i :: .ref a :: rest)) := by
  have h0 : upd (fun _ => (0 : Int32)) i.toNatClampNeg 0 = fun _ => 0 := funext fun j => by simp [upd]
  exact k_iast hx hb hh q0 t0 ha ht hin hdg (by rw [h0]; exact wf_set ha) kk
/-- zeros copied over zeros -/
theorem k_cpy0 (hx : p.tables.exec = Jvm.exec) (hb : c.code = cc) (hml : c.maxLocals = ls.size) (hown : s.vm.findClass own = some m.cls) (hlink : (Cond.methodLink own index arraycopyName).before args s = true) (hnat : (Cond.native arraycopyName).before args s = true) (hstat : (Cond.static arraycopyName).before args s = true) (hini : (Cond.initialized "java/lang/System").before args s = true)
    (hh : kH D str e0 A s H ws tys locs) (q0 q1 t0 t1 : Nat) {a0 : Nat} {c0 c1 : ClassId} {n0 n1 : Nat} {ty : FieldType} (ha0 : ws[q0]? = some (a0, .inl (c0, n0, .inl (fun _ => 0)))) (ha1 : ws[q1]? = some (a, .inl (c1, n1, .inl (fun _ => 0)))) (ht0 : tys[t0]? = some (c0, ty)) (ht1 : tys[t1]? = some (c1, ty)) (hprim : refKind ty = false)
    {sp dp n : Int32} (h1 : ¬ sp < 0) (h2 : ¬ dp < 0) (h3 : ¬ n < 0) (h4 : sp.toNatClampNeg + n.toNatClampNeg ≤ n0) (h5 : dp.toNatClampNeg + n.toNatClampNeg ≤ n1) (hfit : ∀ i, i < n.toNatClampNeg → fits ty (.int 0) = true)
    (hframes : 1 ≤ R.frames) (hlocals : (rest.map fun v => v.category).sum + (nativeFrameWords "java/lang/System" "arraycopy" 5 + 11) ≤ R.locals) (hdg : decode cc pc = .ok (.invokestatic index, 3))
    (kk : ∀ (H1 : Heap) (locs1 : List Loc), kH D str e0 A s H1 ws tys locs1 → W p l e R s m args below meth c H1 locs1 cells slots Q (F0 m (pc + 3) ls rest)) : W p l e R s m args below meth c H locs cells slots Q (F0 m pc ls (.int n :: .int dp :: .ref a :: .int sp :: .ref a0 :: rest)) := by
  obtain ⟨hP, hD, hK, hS, hA, hk9⟩ := hh
  have h0 : va_cpy (fun _ => (0 : Int32)) (fun _ => 0) sp.toNatClampNeg dp.toNatClampNeg n.toNatClampNeg = fun _ => 0 := funext fun j => by simp [va_cpy]
  refine va_copyi hx hb hml hown hlink hnat hstat hini hK hP hD hS q0 q1 t0 t1 ha0 ha1 ht0 ht1 hprim h1 h2 h3 h4 h5 hfit hframes hlocals hdg (fun H1 locs1 a1 a2 a3 => ?_)
  rw [h0, wf_set ha1] at a1 a2
  exact kk H1 locs1 ⟨a1, a2, hK, a3, hA, hk9⟩
/-- a call, with what it leaves alone -/
theorem k_goG {a : Array Value} (hr : vx_Run p l e R s m args below meth c H locs cells slots mc ms (F0 m pc ls st0) rest (kQ D post (va_A wc H.size) a) (kX px (va_A wc H.size)) (va_A wc H.size)) (hh : kH D str e0 A s H ws tys locs)
    (isC isR : List Nat) (hC : isC.map (fun i => ws[i]?) = wc.map some) (hR : isR.map (fun i => ws[i]?) = wr.map some) (hn : va_nd isR = true) (hdis : ∀ i ∈ isR, i ∉ isC)
    (kx : ∀ (E : String) (ce : Cell) (q9 : Addr) (H1 : Heap) (locs1 : List Loc), px E → kH D str e0 A s H1 wr tys locs1 → H1[q9]? = some ce → ce.vm = .none → s.vm.findClass E = some ce.cls → vx_W p l e R s m args below meth c H1 locs1 (cells + mc) (slots + ms) Q (F0 m pc ls rest) q9)
    (kk : ∀ (v : Option Value) (w : va_W) (ty1 : List (ClassId × FieldType)) (H1 : Heap) (locs1 : List Loc), post v w ty1 → kH D str e0 A s H1 (wr ++ w) (tys ++ ty1) locs1 → (∀ q : Nat, q < H.size → ¬ va_A wc H.size q → H1[q]? = H[q]?) → va_D (va_A wc H.size) w → W p l e R s m args below meth c H1 locs1 (cells + mc) (slots + ms) Q (F0 m (pc + 3) ls (v.toList ++ rest))) :
    W p l e R s m args below meth c H locs cells slots Q (F0 m pc ls st0) := by
  intro T hT X
  have hS := hh.2.2.2.1
  have hFc := va_free (wc := wc) hh.2.1 hS hh.2.2.2.2.1 isC hC
  rcases hr T hT X with ⟨v, st₀, t, T', L, h0, X', hL, e1, e2, ⟨⟨v', w, ty1, hv, hp, hP1, hD1, hK1⟩, hF⟩, st⟩ | ⟨q, st₀, t, T', L, E, ce, h0, X', hL, e1, e2, ⟨hp, hF⟩, hce, hcv, hcl, st⟩
  · cases hv
    obtain ⟨k1, k2, k3⟩ := vx_keep h0 e1 hS (fun q _ h => hFc q h) hFc hL hF
    have hal : t.vm.Alike s.vm := by rw [← e2]; exact X'.warmed.alike.symm
    obtain ⟨t2, a1, b1⟩ := kk v w ty1 T'.heap (locs ++ L) hp (hh.frame isR isC hC hR hn hdis k2 k3 (by rw [e1]; exact hP1) hD1 (va_K.moved hal hK1)) k2 hD1 T' rfl X'
    exact ⟨t2, st t2 a1, b1⟩
  · obtain ⟨k1, k2, k3⟩ := vx_keep h0 e1 hS (fun q _ h => hFc q h) hFc hL hF
    have h9 := hh.frame (w1 := []) (ty1 := []) isR isC hC hR hn hdis k2 k3 (fun k q h => by simp at h) ⟨fun i j p q h => by simp at h, fun k q h => by simp at h⟩ ⟨hh.2.2.1.1, fun k q h => by simp at h⟩
    rw [List.append_nil, List.append_nil] at h9
    obtain ⟨t2, a1, b1⟩ := kx E ce q T'.heap (locs ++ L) hp h9 (by rw [e1]; exact hce) hcv hcl T' rfl X'
    exact ⟨t2, st.trans a1, b1⟩
theorem k_callSXG {hhs : List (Nat × Nat × Nat × Nat)} (S : CallFix p m c cc nL s args Ts own) (hM : kM l y wsy fr lo mc ms D str e0 tysC wc As post px) (cw : vx_CSW R s args own index y bytes maxL ret hhs wsy (kRm fr lo mc ms) mc ms n) (hh : kH D str e0 A s H ws tys locs)
    (isC isR isT : List Nat) (hC : isC.map (fun i => ws[i]?) = wc.map some) (hnC : va_nd isC = true) (hR : isR.map (fun i => ws[i]?) = wr.map some) (hn : va_nd isR = true) (hdis : ∀ i ∈ isR, i ∉ isC) (hT : isT.filterMap (fun i => tys[i]?) = tysC)
    (hln : As.length = n) {lv : List (Nat × Value)} (hsz : lv_has ls nL lv) (hst : st0 = As.reverse ++ rest) (hW : (rest.map fun v => v.category).sum ≤ 8) (hdg : decode cc pc = .ok (.invokestatic index, 3)) (hf : cells + mc ≤ R.cells ∧ slots + ms ≤ R.slots)
    (kx : ∀ (E : String) (ce : Cell) (q9 : Addr) (H1 : Heap) (locs1 : List Loc), px E → kH D str e0 A s H1 wr tys locs1 → H1[q9]? = some ce → ce.vm = .none → s.vm.findClass E = some ce.cls → vx_W p l e R s m args below meth c H1 locs1 (cells + mc) (slots + ms) Q (F0 m pc ls rest) q9)
    (kk : ∀ (v : Option Value) (w : va_W) (ty1 : List (ClassId × FieldType)) (H1 : Heap) (locs1 : List Loc), post v w ty1 → kH D str e0 A s H1 (wr ++ w) (tys ++ ty1) locs1 → (∀ q : Nat, q < H.size → ¬ va_A wc H.size q → H1[q]? = H[q]?) → va_D (va_A wc H.size) w → W p l e R s m args below meth c H1 locs1 (cells + mc) (slots + ms) Q (F0 m (pc + 3) ls (v.toList ++ rest))) :
    W p l e R s m args below meth c H locs cells slots Q (F0 m pc ls st0) :=
  k_goG (vx_runSX (rest := rest) S (hM H.size) cw (k_pre hh isC isT hC hnC hT As) rfl hln hsz.1 hst (lv_room hW) hdg hf) hh isC isR hC hR hn hdis kx kk
theorem k_callVG {b : Nat} {ci q0 : Nat} {fs : List Value} {T : u_T} {N : Nat} (S : CallFix p m c cc nL s args Ts own) (hM : kM l y wsy fr lo mc ms D str e0 tysC wc (.ref b :: As) post px) (cw : CallW R s args own C index y bytes maxL ret wsy (kRm fr lo mc ms) mc ms n) (hh : kH D str e0 A s H ws tys locs)
    (hci : vwCl[ci]? = some (C, T, N)) (hq0 : ws[q0]? = some (b, .inr (ci, fs)))
    (isC isR isT : List Nat) (hC : isC.map (fun i => ws[i]?) = wc.map some) (hnC : va_nd isC = true) (hR : isR.map (fun i => ws[i]?) = wr.map some) (hn : va_nd isR = true) (hdis : ∀ i ∈ isR, i ∉ isC) (hT : isT.filterMap (fun i => tys[i]?) = tysC)
    (hln : As.length = n) {lv : List (Nat × Value)} (hsz : lv_has ls nL lv) (hst : st0 = As.reverse ++ .ref b :: rest) (hW : (rest.map fun v => v.category).sum ≤ 8) (hdg : decode cc pc = .ok (.invokevirtual index, 3)) (hf : cells + mc ≤ R.cells ∧ slots + ms ≤ R.slots)
    (kx : ∀ (E : String) (ce : Cell) (q9 : Addr) (H1 : Heap) (locs1 : List Loc), px E → kH D str e0 A s H1 wr tys locs1 → H1[q9]? = some ce → ce.vm = .none → s.vm.findClass E = some ce.cls → vx_W p l e R s m args below meth c H1 locs1 (cells + mc) (slots + ms) Q (F0 m pc ls rest) q9)
    (kk : ∀ (v : Option Value) (w : va_W) (ty1 : List (ClassId × FieldType)) (H1 : Heap) (locs1 : List Loc), post v w ty1 → kH D str e0 A s H1 (wr ++ w) (tys ++ ty1) locs1 → (∀ q : Nat, q < H.size → ¬ va_A wc H.size q → H1[q]? = H[q]?) → va_D (va_A wc H.size) w → W p l e R s m args below meth c H1 locs1 (cells + mc) (slots + ms) Q (F0 m (pc + 3) ls (v.toList ++ rest))) :
    W p l e R s m args below meth c H locs cells slots Q (F0 m pc ls st0) := by
  have hp := k_pre hh isC isT hC hnC hT (.ref b :: As)
  have hrc := va_recv hh.2.2.1 hh.1 hci hq0
  exact k_goG (vx_runV (rest := rest) S (hM H.size) cw ⟨hp.1, hrc, hp.2⟩ rfl hln hsz.1 hst (lv_room hW) hdg hf) hh isC isR hC hR hn hdis kx kk
end WF2
section WF3
/-- cells made since 'base', apart from those of 'ex': they hold N slots at least -/
def gar (base : Nat) (H : Heap) (ex : List Nat) (N : Nat) : Prop := ∃ G : List (Nat × Nat), (G.map Prod.fst).Nodup ∧ (∀ g ∈ G, base ≤ g.1 ∧ g.1 ∉ ex ∧ ∃ c : Cell, H[g.1]? = some c ∧ g.2 ≤ c.slots.size) ∧ N ≤ (G.map Prod.snd).sum
abbrev gT : Type := Nat × ClassId × vp_A
def gW (G : List gT) : va_W := G.map fun g => (g.1, .inl (g.2.1, g.2.2))
theorem gar_nil {base : Nat} {H : Heap} {ex : List Nat} : gar base H ex 0 := ⟨[], by simp, by simp, by simp⟩
theorem gar_mono {base : Nat} {H : Heap} {ex : List Nat} {N M : Nat} (h : gar base H ex N) (hM : M ≤ N) : gar base H ex M := by
  obtain ⟨G, h1, h2, h3⟩ := h
  exact ⟨G, h1, h2, Nat.le_trans hM h3⟩
theorem gar_off {wc : va_W} {ex : List Nat} {n q : Nat} (hw : ∀ z ∈ wc.map Prod.fst, z ∈ ex) (hq : q ∉ ex) (hn : q < n) : ¬ va_A wc n q := by
  rintro (⟨k, e, hk⟩ | h)
  · exact hq (hw q (List.mem_map.mpr ⟨(q, e), List.mem_of_getElem? hk, rfl⟩))
  · omega
theorem gar_keep {base : Nat} {H H1 : Heap} {ex : List Nat} {N : Nat} {wc : va_W} (hg : gar base H ex N) (hk : ∀ q : Nat, q < H.size → ¬ va_A wc H.size q → H1[q]? = H[q]?) (hw : ∀ z ∈ wc.map Prod.fst, z ∈ ex) : gar base H1 ex N := by
  obtain ⟨G, h1, h2, h3⟩ := hg
  refine ⟨G, h1, fun g hgG => ?_, h3⟩
  obtain ⟨b1, b2, c, b3, b4⟩ := h2 g hgG
  have hl : g.1 < H.size := (Array.getElem?_eq_some_iff.mp b3).1
  exact ⟨b1, b2, c, (hk _ hl (gar_off hw b2 hl)).trans b3, b4⟩
theorem vp_cell_size (cA : ClassId) (a : vp_A) : (vp_cell cA a).slots.size = a.1 := by
  obtain ⟨n, f⟩ := a
  rcases f with f | f | f | f | f <;> exact arrV_size _ _ _
theorem wf_nodup {B : va_W} {A : Nat → Prop} (h : va_D A B) : (B.map Prod.fst).Nodup := by
  unfold List.Nodup
  rw [List.pairwise_iff_getElem]
  intro i j hi hj hij he
  rw [List.length_map] at hi hj
  have h1 : B[i]? = some B[i] := List.getElem?_eq_getElem hi
  have h2 : B[j]? = some B[j] := List.getElem?_eq_getElem hj
  rw [List.getElem_map, List.getElem_map] at he
  have := h.1 i j _ _ h1 h2 he
  omega
theorem gar_new {base : Nat} {H H1 : Heap} {ex : List Nat} {N M : Nat} {wc B K : va_W} {G2 : List gT} {D : va_G} {str : List (Nat × String)} {e0 : kE} {A : Nat → Prop} {s : State} {tys : List (ClassId × FieldType)} {locs : List Loc} (hg : gar base H ex N) (hk : ∀ q : Nat, q < H.size → ¬ va_A wc H.size q → H1[q]? = H[q]?) (hd : va_D (va_A wc H.size) (K ++ gW G2))
    (hh : kH D str e0 A s H1 (B ++ gW G2) tys locs) (hA : ∀ q, A q → base ≤ q) (hw : ∀ z ∈ wc.map Prod.fst, z ∈ ex) (hB : ∀ z ∈ ex, z ∈ B.map Prod.fst) (hM : M ≤ (G2.map fun g => g.2.2.1).sum) : gar base H1 ex (N + M) := by
  obtain ⟨hP, hD, -⟩ := hh
  have hnd := wf_nodup hD
  rw [List.map_append] at hnd
  obtain ⟨-, n2, n3⟩ := List.nodup_append.mp hnd
  have hfst : (gW G2).map Prod.fst = G2.map (fun g => g.1) := by simp [gW, List.map_map, Function.comp_def]
  rw [hfst] at n2 n3
  obtain ⟨G, h1, h2, h3⟩ := gar_keep hg hk hw
  obtain ⟨G', h1', h2', h3'⟩ := hg
  obtain ⟨G, h1, h2, h3, hlt⟩ : ∃ G : List (Nat × Nat), (G.map Prod.fst).Nodup ∧ (∀ g ∈ G, base ≤ g.1 ∧ g.1 ∉ ex ∧ ∃ c : Cell, H1[g.1]? = some c ∧ g.2 ≤ c.slots.size) ∧ N ≤ (G.map Prod.snd).sum ∧ ∀ g ∈ G, g.1 < H.size := by
    refine ⟨G', h1', fun g hgG => ?_, h3', fun g hgG => ?_⟩
    · obtain ⟨b1, b2, c, b3, b4⟩ := h2' g hgG
      have hl : g.1 < H.size := (Array.getElem?_eq_some_iff.mp b3).1
      exact ⟨b1, b2, c, (hk _ hl (gar_off hw b2 hl)).trans b3, b4⟩
    · obtain ⟨b1, b2, c, b3, b4⟩ := h2' g hgG
      exact (Array.getElem?_eq_some_iff.mp b3).1
  have hnew : ∀ g ∈ G2, A g.1 ∧ g.1 ∉ ex ∧ (H.size ≤ g.1 ∨ g.1 ∈ ex) ∧ ∃ c : Cell, H1[g.1]? = some c ∧ g.2.2.1 ≤ c.slots.size := by
    intro g hgG
    obtain ⟨k, hk2⟩ := List.getElem?_of_mem hgG
    have hgw : (gW G2)[k]? = some (g.1, .inl (g.2.1, g.2.2)) := by simp [gW, hk2]
    have hB1 : (B ++ gW G2)[B.length + k]? = some (g.1, .inl (g.2.1, g.2.2)) := by rw [List.getElem?_append_right (by omega), Nat.add_sub_cancel_left]; exact hgw
    have hK1 : (K ++ gW G2)[K.length + k]? = some (g.1, .inl (g.2.1, g.2.2)) := by rw [List.getElem?_append_right (by omega), Nat.add_sub_cancel_left]; exact hgw
    refine ⟨hD.2 _ _ hB1, fun hx => ?_, ?_, vp_cell g.2.1 g.2.2, hP _ _ hB1, by rw [vp_cell_size]; exact Nat.le_refl _⟩
    · exact n3 _ (hB _ hx) _ (List.mem_map.mpr ⟨g, hgG, rfl⟩) rfl
    · rcases hd.2 _ _ hK1 with ⟨k9, e9, h9⟩ | h9
      · exact Or.inr (hw _ (List.mem_map.mpr ⟨_, List.mem_of_getElem? h9, rfl⟩))
      · exact Or.inl h9
  refine ⟨G ++ G2.map (fun g => (g.1, g.2.2.1)), ?_, ?_, ?_⟩
  · rw [List.map_append, List.nodup_append]
    refine ⟨h1, ?_, ?_⟩
    · have : (G2.map (fun g => (g.1, g.2.2.1))).map Prod.fst = G2.map (fun g => g.1) := by simp [List.map_map, Function.comp_def]
      rw [this]; exact n2
    · intro x hx y hy hxy
      obtain ⟨g, hg1, rfl⟩ := List.mem_map.mp hx
      obtain ⟨z, hz, rfl⟩ := List.mem_map.mp hy
      obtain ⟨g2, hg2, rfl⟩ := List.mem_map.mp hz
      have hxy : g.1 = g2.1 := hxy
      obtain ⟨-, a2, a3, -⟩ := hnew g2 hg2
      rcases a3 with a3 | a3
      · have := hlt g hg1; omega
      · exact a2 a3
  · intro x hx
    rcases List.mem_append.mp hx with hx | hx
    · exact h2 x hx
    · obtain ⟨g2, hg2, rfl⟩ := List.mem_map.mp hx
      obtain ⟨a1, a2, -, a4⟩ := hnew g2 hg2
      exact ⟨hA _ a1, a2, a4⟩
  · rw [List.map_append, List.sum_append]
    have : (G2.map (fun g => (g.1, g.2.2.1))).map Prod.snd = G2.map (fun g => g.2.2.1) := by simp [List.map_map, Function.comp_def]
    rw [this]; omega
theorem wf_erase {f : Nat → Nat} {a : Nat} : ∀ {l : List Nat}, a ∈ l → (l.map f).sum = f a + ((l.erase a).map f).sum
  | [], h => absurd h List.not_mem_nil
  | x :: l, h => by
    by_cases hx : x = a
    · subst hx; simp
    · have h9 : a ∈ l := by rcases List.mem_cons.mp h with h | h
                            · exact absurd h.symm hx
                            · exact h
      have := wf_erase (f := f) h9
      rw [List.erase_cons_tail (by simpa using hx)]
      simp only [List.map_cons, List.sum_cons]
      omega
theorem wf_sum {f : Nat → Nat} : ∀ {l1 l2 : List Nat}, l1.Nodup → (∀ x ∈ l1, x ∈ l2) → (l1.map f).sum ≤ (l2.map f).sum
  | [], _, _, _ => by simp
  | a :: l1, l2, h1, h2 => by
    have ha := h2 a List.mem_cons_self
    rw [wf_erase (f := f) ha]
    obtain ⟨h3, h4⟩ := List.nodup_cons.mp h1
    have := wf_sum (f := f) (l2 := l2.erase a) h4 (fun x hx => by
      have hne : x ≠ a := fun h => h3 (h ▸ hx)
      exact (List.mem_erase_of_ne hne).mpr (h2 x (List.mem_cons_of_mem _ hx)))
    simp only [List.map_cons, List.sum_cons]
    omega
theorem wf_le {f g : Nat × Nat → Nat} : ∀ {l : List (Nat × Nat)}, (∀ x ∈ l, f x ≤ g x) → (l.map f).sum ≤ (l.map g).sum
  | [], _ => by simp
  | a :: l, h => by
    have h1 := h a List.mem_cons_self
    have h2 := wf_le (f := f) (g := g) (l := l) fun x hx => h x (List.mem_cons_of_mem _ hx)
    simp only [List.map_cons, List.sum_cons]
    omega
theorem gar_sum {base : Nat} {H : Heap} {ex : List Nat} {N : Nat} (h : gar base H ex N) : N ≤ ((H.toList.drop base).map (·.slots.size)).sum := by
  obtain ⟨G, h1, h2, h3⟩ := h
  have hf : ∃ f : Nat → Nat, ∀ q c, H[q]? = some c → f q = c.slots.size := ⟨fun q => (H[q]?.map (·.slots.size)).getD 0, fun q c h => by simp [h]⟩
  obtain ⟨f, hf⟩ := hf
  have e1 : (H.toList.drop base).map (·.slots.size) = (((List.range (H.size - base)).map (base + ·)).map f) := by
    apply List.ext_getElem?
    intro j
    simp only [List.getElem?_map, List.getElem?_drop, List.getElem?_range', Array.getElem?_toList]
    by_cases hj : base + j < H.size
    · have hc : H[base + j]? = some H[base + j] := Array.getElem?_eq_getElem hj
      rw [List.getElem?_range (by omega)]
      simp [hc, hf _ _ hc]
    · have hc : H[base + j]? = none := Array.getElem?_eq_none (by omega)
      rw [List.getElem?_eq_none (by simp; omega)]
      simp [hc]
  rw [e1]
  refine Nat.le_trans h3 (Nat.le_trans (wf_le (g := fun x => f x.1) fun x hx => ?_) ?_)
  · obtain ⟨-, -, c, b3, b4⟩ := h2 x hx
    rw [hf _ _ b3]; exact b4
  · have : G.map (fun x => f x.1) = (G.map Prod.fst).map f := by simp [List.map_map, Function.comp_def]
    rw [this]
    refine wf_sum h1 fun q hq => ?_
    obtain ⟨x, hx, rfl⟩ := List.mem_map.mp hq
    obtain ⟨b1, -, c, b3, -⟩ := h2 x hx
    have hl := (Array.getElem?_eq_some_iff.mp b3).1
    exact List.mem_map.mpr ⟨x.1 - base, List.mem_range.mpr (by omega), by omega⟩
end WF3
def bigR : Room := { frames := 20, cells := 603072, slots := 8000000, locals := 10858 }
def sc (j : Nat) : Int32 := if j < 35 then ([5, 187, 0, 0, 0, 6, 0, 0, 0, 0, 6, 1, 1, 0, 0, 17, 2, 0, 0, 0, 17, 2, 0, 0, 0, 17, 2, 0, 0, 0, 17, 2, 0, 0, 0] : List Int32).getD j 0 else if j % 5 = 0 then 23 else if j % 5 = 1 then 99999 else 0
