/-! THE CONSTRUCTORS: worlds put together, one lemma an instruction -/
theorem P_l {D : va_G} {cl : List vw_C} {a b : va_W} {H : Heap} (h : va_P D cl (a ++ b) H) : va_P D cl a H := fun k q hk => h k q (by rw [List.getElem?_append_left (List.getElem?_eq_some_iff.mp hk).1]; exact hk)
theorem P_r {D : va_G} {cl : List vw_C} {a b : va_W} {H : Heap} (h : va_P D cl (a ++ b) H) : va_P D cl b H := fun k q hk => h (a.length + k) q (by rw [List.getElem?_append_right (by omega), show a.length + k - a.length = k by omega]; exact hk)
theorem D_l {A : Nat → Prop} {a b : va_W} (h : va_D A (a ++ b)) : va_D A a :=
  ⟨fun i j p q hi hj e => h.1 i j p q (by rw [List.getElem?_append_left (List.getElem?_eq_some_iff.mp hi).1]; exact hi) (by rw [List.getElem?_append_left (List.getElem?_eq_some_iff.mp hj).1]; exact hj) e,
   fun k q hk => h.2 k q (by rw [List.getElem?_append_left (List.getElem?_eq_some_iff.mp hk).1]; exact hk)⟩
theorem app_r {α : Type} (a b : List α) (k : Nat) : (a ++ b)[a.length + k]? = b[k]? := by
  rw [List.getElem?_append_right (by omega), show a.length + k - a.length = k by omega]
theorem D_r {A : Nat → Prop} {a b : va_W} (h : va_D A (a ++ b)) : va_D A b :=
  ⟨fun i j p q hi hj e => by
    have := h.1 (a.length + i) (a.length + j) p q (by rw [app_r]; exact hi) (by rw [app_r]; exact hj) e
    omega,
   fun k q hk => h.2 (a.length + k) q (by rw [app_r]; exact hk)⟩
theorem D_x {A : Nat → Prop} {a b : va_W} (h : va_D A (a ++ b)) : ∀ (i j : Nat) (p q : Nat × va_E), a[i]? = some p → b[j]? = some q → p.1 ≠ q.1 := fun i j p q hi hj e => by
  have hl := (List.getElem?_eq_some_iff.mp hi).1
  have := h.1 i (a.length + j) p q (by rw [List.getElem?_append_left hl]; exact hi) (by rw [app_r]; exact hj) e
  omega
theorem P_swap {D : va_G} {cl : List vw_C} {a b : va_W} {H : Heap} (h : va_P D cl (a ++ b) H) : va_P D cl (b ++ a) H := (P_r h).app (P_l h)
theorem D_swap {A : Nat → Prop} {a b : va_W} (h : va_D A (a ++ b)) : va_D A (b ++ a) := (D_r h).app (D_l h) (fun i j p q hp hq e => D_x h j i q p hq hp e.symm)
/-- behind a call on the part wc of the world: the rest is as it was -/
theorem join_w {A : Nat → Prop} {D : va_G} {cl : List vw_C} {wr wc w1 : va_W} {H H1 : Heap} (hP : va_P D cl (wr ++ wc) H) (hD : va_D A (wr ++ wc)) (hk : ∀ q : Nat, q < H.size → ¬ va_A wc H.size q → H1[q]? = H[q]?) (hF : ∀ q, va_A wc H.size q → A q) (hP1 : va_P D cl w1 H1) (hD1 : va_D (va_A wc H.size) w1) : va_P D cl (wr ++ w1) H1 ∧ va_D A (wr ++ w1) := by
  have apart : ∀ (k : Nat) (q : Nat × va_E), wr[k]? = some q → q.1 < H.size ∧ ¬ va_A wc H.size q.1 := fun k q hq => by
    have hl := (P_l hP k q hq).lt
    refine ⟨hl, fun h => ?_⟩
    rcases h with ⟨k2, e, h⟩ | h
    · exact D_x hD k k2 q (q.1, e) hq h rfl
    · omega
  refine ⟨va_P.app (fun k q hq => ?_) hP1, va_D.app (D_l hD) (hD1.weaken (fun k q _ h => hF q.1 h)) (fun i j x y hx hy hxy => ?_)⟩
  · obtain ⟨g1, g2⟩ := apart k q hq
    exact (P_l hP k q hq).kept (hk q.1 g1 g2)
  · exact (apart i x hx).2 (by rw [hxy]; exact hD1.2 j y hy)
theorem free_w {A : Nat → Prop} {wr wc : va_W} {H0 H : Heap} {locs : List Loc} (hD : va_D A (wr ++ wc)) (hS : va_S A H0 H locs) (hA : ∀ q, H0.size ≤ q → A q) : ∀ q, va_A wc H.size q → A q := fun q h => by
  rcases h with ⟨k, e, h⟩ | h
  · exact (D_r hD).2 k _ h
  · exact hA q (Nat.le_trans hS.1 h)
def rmC (d mc ms : Nat) : Room := { frames := d, cells := mc, slots := ms, locals := 64 * d }
def AOs (U : State) : Prop := va_AO RX0 U ∧ va_AO RX3 U ∧ va_AO RX8 U
theorem AOs_moved {u U : State} (hvm : u.vm.Alike U.vm) (h : AOs u) : AOs U := ⟨h.1.moved hvm, h.2.1.moved hvm, h.2.2.moved hvm⟩
def RepC (D : va_G) (cA : Nat → ClassId) (w : va_W) (U : State) : Prop := va_P D vwCl w U.heap ∧ va_K D vwCl (tysL cA) U ∧ (∀ w ∈ nwL, va_Nw w U) ∧ AOs U
def PcC (D : va_G) (cA : Nat → ClassId) (h0 : Nat) (w : va_W) (sz : Nat) : Array Value → State → Prop := va_Pc [.ref h0] (fun U => U.heap.size = sz ∧ RepC D cA w U ∧ va_D (fun _ => True) w)
def QcC (D : va_G) (w0 : va_W) (sz : Nat) (Post : va_W → Prop) : Array Value → State → Outcome → State → Prop := va_Qv Post (fun w t => va_P D vwCl w t.heap ∧ va_D (va_A w0 sz) w) (va_A w0 sz)
/-- a constructor's contract: out of the new object alone comes a world of Post -/
def MetC (D : va_G) (cA : Nat → ClassId) (l : Launch) (y : MethodName) (cc : ByteArray) (nL k : Nat) (fs0 : List Value) (d mc ms : Nat) (Post : Nat → va_W → Prop) : Prop := ∀ h0 sz : Nat, Met l y (wsM y cc nL none) (rmC d mc ms) (PcC D cA h0 [(h0, .inr (k, fs0))] sz) (QcC D [(h0, .inr (k, fs0))] sz (Post h0)) mc ms (va_A [(h0, .inr (k, fs0))] sz)
/-- what a walk over makings stands on -/
def Cw (D : va_G) (cA : Nat → ClassId) (own : String) (cc : ByteArray) (nL : Nat) (p : Program) (s : State) (m : MethodId) (args : Array Value) (c : Code) : Prop :=
  p.tables.exec = Jvm.exec ∧ c.code = cc ∧ c.maxLocals = nL ∧ s.vm.findClass own = some m.cls ∧ (∀ w ∈ bwL, w.before args s = true) ∧ va_K D vwCl (tysL cA) s ∧ (∀ w ∈ nwL, va_Nw w s) ∧ AOs s
theorem pcC_blind {D : va_G} {cA : Nat → ClassId} {h0 sz : Nat} {w : va_W} : FrameBlind (PcC D cA h0 w sz) := fun a U g mk q => by
  obtain ⟨q0, q1, ⟨qP, qK, qN, qA⟩, qD⟩ := q
  exact ⟨q0, q1, ⟨qP, va_K.moved (u := U) (U := U.calling g mk a) (Vm.Alike.refl U.vm) qK, fun w hw => va_Nw.same (nw_tab hw) (u := U) rfl (qN w hw), AOs_moved (u := U) (U := U.calling g mk a) (Vm.Alike.refl U.vm) qA⟩, qD⟩
theorem pcC_pay {D : va_G} {cA : Nat → ClassId} {h0 : Nat} {w : va_W} {H : Heap} {A : Nat → Prop} {s : State} (hP : va_P D vwCl w H) (hD : va_D A w) (hK : va_K D vwCl (tysL cA) s) (hN : ∀ w ∈ nwL, va_Nw w s) (hO : AOs s) : ∀ U : State, U.heap = H → s.WarmedH U.vm → PcC D cA h0 w H.size [Value.ref h0].toArray U := fun U hU hW => ⟨rfl, by rw [hU], ⟨by rw [hU]; exact hP, va_K.moved hW.alike hK, nw_warm hW hN, AOs_moved hW.alike hO⟩, hD.weaken (fun _ _ _ _ => trivial)⟩
theorem MetC_of {D : va_G} {cA : Nat → ClassId} {l : Launch} {y : MethodName} {cc : ByteArray} {nL k : Nat} {fs0 : List Value} {d mc ms : Nat} {Post : Nat → va_W → Prop} (hpl : plainName y.cls = true) (hname : y.name = "<init>") (hnL : 1 ≤ nL)
    (body : ∀ (p : Program) (e : Env) (s : State) (m : MethodId) (args : Array Value) (below : List Frame) (meth : Method) (c : Code) (h0 : Nat) (A : Nat → Prop) (ls : Array Slot) (Q : State → Prop), Cw D cA y.cls cc nL p s m args c → meth.name = "<init>" → (∀ q, s.heap.size ≤ q → A q) → lv_has ls nL [(0, .ref h0)] → va_P D vwCl [(h0, .inr (k, fs0))] s.heap → va_D A [(h0, .inr (k, fs0))] →
      (∀ (H : Heap) (locs : List Loc) (w : va_W) (pc : Nat) (ls' : Array Slot), decode cc pc = .ok (.return_, 1) → Post h0 w → va_P D vwCl w H → va_D A w → va_S A s.heap H locs → W p l e (rmC d mc ms) s m args below meth c H locs mc ms Q (F0 m pc ls' [])) →
      W p l e (rmC d mc ms) s m args below meth c s.heap [] 0 0 Q (F0 m 0 ls [])) : MetC D cA l y cc nL k fs0 d mc ms Post := by
  intro h0 sz
  refine Met.ofW (cc := cc) (maxL := nL) (ret := none) hpl rfl ?_
  intro p e s m args below meth c s₁ B hml hq
  obtain ⟨rfl, hsz, ⟨hP, hK, hN, hO⟩, hD0⟩ := hq
  subst hsz
  have hts := atoms_spec (ws := wsM y cc nL none) B.pre
  have hX : Cw D cA y.cls cc nL p s m [Value.ref h0].toArray c := ⟨B.exec, B.bytes, hml, findClass_of_methodNamed B.named, fun w hw => hts w (List.mem_cons_of_mem _ hw), hK, hN, hO⟩
  have hin : meth.name = "<init>" := (name_of_methodNamed B.named B.method).1.trans hname
  have hl := lv_entry ([.ref h0]) (n := nL) hnL
  rw [lg_entry_eq]
  generalize (lg_sl ([.ref h0]) ++ List.replicate (nL - (lg_sl ([.ref h0])).length) Slot.unset).toArray = ls at hl ⊢
  have hl : lv_has ls nL [(0, .ref h0)] := hl
  exact body p e s m _ below meth c h0 (va_A [(h0, .inr (k, fs0))] s.heap.size) ls _ hX hin (fun q hq => Or.inr hq) hl hP hD0.self (fun H locs w pc ls' hdg hPo hPw hDw hSw => W.vret B.exec B.bytes B.returns (fun t ht hW => ⟨⟨w, rfl, hPo, by rw [ht]; exact hPw, hDw⟩, hSw.F ht⟩) hSw.2.2 hdg B.notSynchronized)
section MAKE
variable {D : va_G} {cA : Nat → ClassId} {own : String} {cc : ByteArray} {nL : Nat} {p : Program} {l : Launch} {e : Env} {R : Room} {s : State} {m : MethodId} {args : Array Value} {below : List Frame} {meth : Method} {c : Code} {H : Heap} {locs : List Loc} {cells slots : Nat} {Q : State → Prop} {A : Nat → Prop} {ws : va_W} {pc : Nat} {ls : Array Slot} {rest : List Value}
theorem ra_eq {t : List (ClassId × FieldType)} {c1 : ClassId} {ty : FieldType} {k : Nat} {c0 : ClassId} (hK1 : va_K D vwCl (t ++ [(c1, ty)]) s) (h0 : t[k]? = some (c0, ty)) : c1 = c0 := by
  have h1 := (hK1.2 t.length (c1, ty) (by rw [List.getElem?_append_right (Nat.le_refl _), Nat.sub_self]; rfl)).2
  have h2 := (hK1.2 k (c0, ty) (by rw [List.getElem?_append_left (List.getElem?_eq_some_iff.mp h0).1]; exact h0)).2
  cases ty with
  | object C =>
    obtain ⟨_, _, _, _, _, a⟩ := h1
    obtain ⟨_, _, _, _, _, b⟩ := h2
    exact Option.some.inj (a.symm.trans b)
  | _ => exact Option.some.inj (Eq.trans (Eq.symm h1) h2)
/-- newarray int -/
theorem g_newa (X : Cw D cA own cc nL p s m args c) (hw : Cond.arrayClass .int ∈ bwL) (hA : ∀ q, s.heap.size ≤ q → A q) (hP : va_P D vwCl ws H) (hD : va_D A ws) (hS : va_S A s.heap H locs) {n : Int32} {N : Nat} (hn : ¬ n < 0) (hN : n.toNatClampNeg = N) (hb : N * 4 ≤ 536870912) (hcells : cells + 1 ≤ R.cells) (hslots : slots + N ≤ R.slots) (hdg : decode cc pc = .ok (.newarray .int, 2))
    (kk : ∀ (q : Nat) (H1 : Heap), va_P D vwCl (ws ++ [(q, .inl (cA 0, N, .inl (fun _ => 0)))]) H1 → va_D A (ws ++ [(q, .inl (cA 0, N, .inl (fun _ => 0)))]) → va_S A s.heap H1 locs → W p l e R s m args below meth c H1 locs (cells + 1) (slots + N) Q (F0 m (pc + 2) ls (.ref q :: rest))) : W p l e R s m args below meth c H locs cells slots Q (F0 m pc ls (.int n :: rest)) := by
  refine va_newa (atype := .int) (ty := .int) (a0 := (N, .inl (fun _ => 0))) X.1 X.2.1 (X.2.2.2.2.1 _ hw) rfl X.2.2.2.2.2.1 hP hD hS hA (fun _ => rfl) hn hN hb hcells hslots hdg (fun q c1 H1 hK1 hP1 hD1 hS1 => ?_)
  have e := ra_eq (k := 0) (c0 := cA 0) hK1 rfl
  subst e
  exact kk q H1 hP1 hD1 hS1
/-- newarray boolean -/
theorem g_newz (X : Cw D cA own cc nL p s m args c) (hw : Cond.arrayClass .boolean ∈ bwL) (hA : ∀ q, s.heap.size ≤ q → A q) (hP : va_P D vwCl ws H) (hD : va_D A ws) (hS : va_S A s.heap H locs) {n : Int32} {N : Nat} (hn : ¬ n < 0) (hN : n.toNatClampNeg = N) (hb : N * 1 ≤ 536870912) (hcells : cells + 1 ≤ R.cells) (hslots : slots + N ≤ R.slots) (hdg : decode cc pc = .ok (.newarray .boolean, 2))
    (kk : ∀ (q : Nat) (H1 : Heap), va_P D vwCl (ws ++ [(q, .inl (cA 1, N, .inl (fun _ => 0)))]) H1 → va_D A (ws ++ [(q, .inl (cA 1, N, .inl (fun _ => 0)))]) → va_S A s.heap H1 locs → W p l e R s m args below meth c H1 locs (cells + 1) (slots + N) Q (F0 m (pc + 2) ls (.ref q :: rest))) : W p l e R s m args below meth c H locs cells slots Q (F0 m pc ls (.int n :: rest)) := by
  refine va_newa (atype := .boolean) (ty := .boolean) (a0 := (N, .inl (fun _ => 0))) X.1 X.2.1 (X.2.2.2.2.1 _ hw) rfl X.2.2.2.2.2.1 hP hD hS hA (fun _ => rfl) hn hN hb hcells hslots hdg (fun q c1 H1 hK1 hP1 hD1 hS1 => ?_)
  have e := ra_eq (k := 1) (c0 := cA 1) hK1 rfl
  subst e
  exact kk q H1 hP1 hD1 hS1
/-- anewarray -/
theorem g_newq (X : Cw D cA own cc nL p s m args c) {C : String} {ix k : Nat} (hk : (tysL cA)[k]? = some (cA k, .object C)) (hover : va_AO C s) (hcl : Cond.classLink own ix C ∈ bwL) (hA : ∀ q, s.heap.size ≤ q → A q) (hP : va_P D vwCl ws H) (hD : va_D A ws) (hS : va_S A s.heap H locs) {n : Int32} {N : Nat} (hn : ¬ n < 0) (hN : n.toNatClampNeg = N) (hb : N * 4 ≤ 536870912) (hcells : cells + 1 ≤ R.cells) (hslots : slots + N ≤ R.slots) (hdg : decode cc pc = .ok (.anewarray ix, 3))
    (kk : ∀ (q : Nat) (H1 : Heap), va_P D vwCl (ws ++ [(q, .inl (cA k, N, .inr (.inr (.inr (.inr (fun _ => none))))))]) H1 → va_D A (ws ++ [(q, .inl (cA k, N, .inr (.inr (.inr (.inr (fun _ => none))))))]) → va_S A s.heap H1 locs → W p l e R s m args below meth c H1 locs (cells + 1) (slots + N) Q (F0 m (pc + 3) ls (.ref q :: rest))) : W p l e R s m args below meth c H locs cells slots Q (F0 m pc ls (.int n :: rest)) := by
  refine va_newq (C := C) X.1 X.2.1 X.2.2.2.1 (X.2.2.2.2.1 _ hcl) hover X.2.2.2.2.2.1 hP hD hS hA hn hN hb hcells hslots hdg (fun q c1 H1 hK1 hP1 hD1 hS1 => ?_)
  have e := ra_eq (k := k) (c0 := cA k) hK1 hk
  subst e
  exact kk q H1 hP1 hD1 hS1
/-- a final field of the new object -/
theorem g_putF (X : Cw D cA own cc nL p s m args c) (hin : meth.name = "<init>") {k j N ix h0 : Nat} {C : String} {T : u_T} {ty : Nat → FieldType} {fs : List Value} {v : Value} (hc : vwCl[k]? = some (C, T, N)) (hws : ∀ w ∈ u_ws C T N, w ∈ bwL) (hty : ∀ k, k < N → parseFieldDescriptor (T k).2.2.1 = some (ty k)) (hnm : ∀ a, a < N → ∀ b, b < N → a ≠ b → (T a).2.1 ≠ (T b).2.1) (hP : va_P D vwCl ((h0, .inr (k, fs)) :: ws) H) (hD : va_D A ((h0, .inr (k, fs)) :: ws)) (hS : va_S A s.heap H locs) (hj : j < N) (hlk : Cond.fieldLink own ix (T j).1 (T j).2.1 (T j).2.2.1 ∈ bwL) (hfin : (T j).2.2.2 = true) (hdecl : (T j).1 = own) (hn : narrow (ty j) v = v) (hfit : fits (ty j) v = true) (hl : j < fs.length) (hdg : decode cc pc = .ok (.putfield ix, 3))
    (kk : ∀ (H1 : Heap) (locs1 : List Loc), va_P D vwCl ((h0, .inr (k, fs.set j v)) :: ws) H1 → va_D A ((h0, .inr (k, fs.set j v)) :: ws) → va_S A s.heap H1 locs1 → W p l e R s m args below meth c H1 locs1 cells slots Q (F0 m (pc + 3) ls rest)) : W p l e R s m args below meth c H locs cells slots Q (F0 m pc ls (v :: .ref h0 :: rest)) :=
  va_putF (D := D) X.1 X.2.1 X.2.2.2.2.1 hws ty hty hnm X.2.2.2.1 X.2.2.2.2.2.1 hP hD hS 0 rfl hc j hj (X.2.2.2.2.1 _ hlk) (fun _ h => h) hfin hin hdecl (hty j hj) hn hfit hl hdg (fun H1 locs1 a b z => kk H1 locs1 a b z)
/-- another field -/
theorem g_putN (X : Cw D cA own cc nL p s m args c) {k j N ix h0 : Nat} {C : String} {T : u_T} {ty : Nat → FieldType} {fs : List Value} {v : Value} (hc : vwCl[k]? = some (C, T, N)) (hws : ∀ w ∈ u_ws C T N, w ∈ bwL) (hty : ∀ k, k < N → parseFieldDescriptor (T k).2.2.1 = some (ty k)) (hnm : ∀ a, a < N → ∀ b, b < N → a ≠ b → (T a).2.1 ≠ (T b).2.1) (hP : va_P D vwCl ((h0, .inr (k, fs)) :: ws) H) (hD : va_D A ((h0, .inr (k, fs)) :: ws)) (hS : va_S A s.heap H locs) (hj : j < N) (hlk : Cond.fieldLink own ix (T j).1 (T j).2.1 (T j).2.2.1 ∈ bwL) (hfin : (T j).2.2.2 = false) (hn : narrow (ty j) v = v) (hfit : fits (ty j) v = true) (hl : j < fs.length) (hdg : decode cc pc = .ok (.putfield ix, 3))
    (kk : ∀ (H1 : Heap) (locs1 : List Loc), va_P D vwCl ((h0, .inr (k, fs.set j v)) :: ws) H1 → va_D A ((h0, .inr (k, fs.set j v)) :: ws) → va_S A s.heap H1 locs1 → W p l e R s m args below meth c H1 locs1 cells slots Q (F0 m (pc + 3) ls rest)) : W p l e R s m args below meth c H locs cells slots Q (F0 m pc ls (v :: .ref h0 :: rest)) :=
  va_put (D := D) X.1 X.2.1 X.2.2.2.2.1 hws ty hty hnm X.2.2.2.1 X.2.2.2.2.2.1 hP hD hS 0 rfl hc j hj (X.2.2.2.2.1 _ hlk) (fun _ h => h) hfin (hty j hj) hn hfit hl hdg (fun H1 locs1 a b z => kk H1 locs1 a b z)
/-- aload_0, Object.<init> -/
theorem g_init (X : Cw D cA own cc nL p s m args c) {h0 ix : Nat} (hl : lv_has ls nL [(0, .ref h0)]) (hlk : Cond.methodLink own ix objectInit ∈ bwL) (hin : Cond.instanceMethod objectInit ∈ bwL) (hco : Cond.code objectInit ⟨#[0xb1]⟩ 1 none ∈ bwL) (hd0 : decode cc 0 = .ok (.aload_n 0, 1)) (hd1 : decode cc 1 = .ok (.invokespecial ix, 3)) (hf : 1 ≤ R.frames) (hlo : 12 ≤ R.locals)
    (kk : W p l e R s m args below meth c H locs cells slots Q (F0 m 4 ls [])) : W p l e R s m args below meth c H locs cells slots Q (F0 m 0 ls []) := by
  refine lv_aload_n X.1 X.2.1 hd0 rfl (lv_at hl 0 rfl) ?_
  refine W.objInit X.1 X.2.1 X.2.2.2.1 (X.2.2.2.2.1 _ hlk) (X.2.2.2.2.1 _ hin) (X.2.2.2.2.1 _ hco) rfl (by rw [X.2.2.1]; exact hl.1) rfl hd1 hf (Nat.le_trans (m := 12) (Nat.le_of_ble_eq_true rfl) hlo) ?_
  exact W.eq (g2 := F0 m 4 ls []) rfl kk
/-- new, dup, <init> -/
theorem g_newo (X : Cw D cA own cc nL p s m args c) (hA : ∀ q, s.heap.size ≤ q → A q) (hP : va_P D vwCl ws H) (hD : va_D A ws) (hS : va_S A s.heap H locs) (hsz : ls.size = nL) {k N ix1 ix2 nL' d' mc ms : Nat} {C : String} {T : u_T} {ty : Nat → FieldType} {fs0 : List Value} {y' : MethodName} {cc' : ByteArray} {Post : Nat → va_W → Prop} (hc : vwCl[k]? = some (C, T, N)) (hws : ∀ w ∈ u_ws C T N, w ∈ bwL) (hty : ∀ k, k < N → parseFieldDescriptor (T k).2.2.1 = some (ty k)) (hfs : ∀ j, j < N → defaultValue (ty j) = vp_V fs0 j) (hcl : Cond.classLink own ix1 C ∈ bwL) (hinst : Cond.instantiable C N ∈ bwL) (hini : Cond.initialized C ∈ bwL)
    (hM : MetC D cA l y' cc' nL' k fs0 d' mc ms Post) (hE : Ce y' cc' nL' none 0) (hname : y'.name = "<init>") (him : Cond.instanceMethod y' ∈ bwL) (hlk : Cond.methodLink own ix2 y' ∈ bwL ∨ ∃ host, Cond.methodLinkNest own ix2 y' host ∈ nwL) (hroom : d' + 1 ≤ R.frames ∧ 8 + (nL' + 11) + 64 * d' ≤ R.locals) (hcells : cells + 1 + mc ≤ R.cells) (hslots : slots + N + ms ≤ R.slots) (hd1 : decode cc pc = .ok (.new ix1, 3)) (hd2 : decode cc (pc + 3) = .ok (.dup, 1)) (hd3 : decode cc (pc + 3 + 1) = .ok (.invokespecial ix2, 3)) {q0 : Nat} (hrest : ((Value.ref q0 :: rest).map fun v => v.category).sum ≤ 8)
    (kk : ∀ (q : Nat) (w : va_W) (H1 : Heap) (locs1 : List Loc), Post q w → va_P D vwCl (ws ++ w) H1 → va_D A (ws ++ w) → va_S A s.heap H1 locs1 → W p l e R s m args below meth c H1 locs1 (cells + 1 + mc) (slots + N + ms) Q (F0 m (pc + 3 + 1 + 3) ls (.ref q :: rest))) : W p l e R s m args below meth c H locs cells slots Q (F0 m pc ls rest) := by
  refine va_new (D := D) (fs := fs0) X.1 X.2.1 X.2.2.2.2.1 hws ty hty X.2.2.2.1 (X.2.2.2.2.1 _ hcl) (X.2.2.2.2.1 _ hinst) (X.2.2.2.2.1 _ hini) X.2.2.2.2.2.1 hP hD hS hA hc hfs (by omega) (by omega) hd1 (fun q H1 hP1 hD1 hS1 => ?_)
  refine lv_dup X.1 X.2.1 hd2 rfl ?_
  have hfree := free_w hD1 hS1 hA
  have hfix : CallFix p m c cc nL s args bwL own := ⟨X.1, X.2.1, X.2.2.1, X.2.2.2.1, X.2.2.2.2.1⟩
  have hpre : PreS s H1 (PcC D cA q [(q, .inr (k, fs0))] H1.size) [Value.ref q] := ⟨pcC_blind, pcC_pay (P_r hP1) (D_r hD1) X.2.2.2.2.2.1 X.2.2.2.2.2.2.1 X.2.2.2.2.2.2.2⟩
  have hwd : 2 * (F0 m (pc + 3 + 1) ls (Value.ref q :: Value.ref q :: rest)).monitorRoom + ((Value.ref q :: rest).map fun v => v.category).sum ≤ 8 := lv_room hrest
  have hini2 : (Cond.initialized y'.cls).before args s = true := X.2.2.2.2.1 _ hE.2.1
  have hrun : va_Run p l e R s m args below meth c H1 locs (cells + 1) (slots + N) mc ms (F0 m (pc + 3 + 1) ls (Value.ref q :: Value.ref q :: rest)) (Value.ref q :: rest) (QcC D [(q, .inr (k, fs0))] H1.size (Post q) [Value.ref q].toArray) (va_A [(q, .inr (k, fs0))] H1.size) := by
    rcases hlk with h | ⟨host, h⟩
    · exact va_runI (As := []) hfix (hM q H1.size) (cwI 0 X.2.2.2.2.1 (good_ws hE.1) rfl rfl rfl hini2 (X.2.2.2.2.1 _ h) (X.2.2.2.2.1 _ him) hname hE.2.2 hroom) hpre rfl rfl hsz rfl hwd hd3 ⟨by omega, by omega⟩
    · exact va_runIN (As := []) hfix (hM q H1.size) ⟨va_cnB 0 X.2.2.2.2.1 (good_ws hE.1) rfl rfl rfl (X.2.2.2.2.2.2.1 _ h) hini2 hE.2.2 hroom, hname, X.2.2.2.2.1 _ him⟩ hpre rfl rfl hsz rfl hwd hd3 ⟨by omega, by omega⟩
  refine va_callv hrun hS1 (fun q' _ h => hfree q' h) hfree (fun w t H2 locs2 ht hvm hPo hB hz hk hS2 => ?_)
  obtain ⟨hP2, hD2⟩ := hB
  rw [ht] at hP2
  obtain ⟨hP3, hD3⟩ := join_w hP1 hD1 hk hfree hP2 hD2
  exact kk q w H2 locs2 hPo hP3 hD3 hS2
end MAKE
/-- the store behind the constructors -/
def S0 : St := fun f _ j =>
  if f = 514 ∨ f = 515 then -1
  else if f = 712 ∨ f = 786 then 100
  else if f = 709 ∨ f = 784 then (if j = 0 then 2 else if j = 1 then 5 else if j = 2 then 10 else if j = 3 then 5 else 0)
  else if f = 449 ∨ f = 782 then (if j < 10 then iI (90 - 10 * (j : Int)) else 0)
  else 0
