/-! ONE LEMMA FOR EACH OP: what the machine does there -/
def rmD (d : Nat) : Room := { frames := d, cells := 0, slots := 0, locals := 64 * d }
def wsM (y : MethodName) (cc : ByteArray) (nL : Nat) (rt : Option FieldType) : List Cond := .code y cc nL rt :: bwL
def RepU (D : va_G) (cA : Nat → ClassId) (ad : Nat → Nat → Nat) (cells : List (Nat × Nat)) (S : St) (U : State) : Prop := va_P D vwCl (wsO cA ad cells S) U.heap ∧ va_K D vwCl (tysL cA) U ∧ ∀ w ∈ nwL, va_Nw w U
def PcM (D : va_G) (cA : Nat → ClassId) (ad : Nat → Nat → Nat) (cells : List (Nat × Nat)) (S : St) (sz : Nat) (args : List PV) : Array Value → State → Prop := va_Pc (args.map (cn ad)) (fun U => U.heap.size = sz ∧ RepU D cA ad cells S U ∧ va_D (fun _ => True) (wsO cA ad cells S))
def QcM (D : va_G) (cA : Nat → ClassId) (ad : Nat → Nat → Nat) (cells : List (Nat × Nat)) (r : Res) (A : Nat → Prop) : Array Value → State → Outcome → State → Prop := fun _ st o t => o = .returned (r.1.map (cn ad)) ∧ va_P D vwCl (wsO cA ad cells r.2) t.heap ∧ va_F A st t
def MetR (D : va_G) (cA : Nat → ClassId) (ad : Nat → Nat → Nat) (cells : List (Nat × Nat)) (l : Launch) (y : MethodName) (cc : ByteArray) (nL : Nat) (rt : Option FieldType) (d : Nat) (as : List PV) (S : St) (r : Res) : Prop := ∀ sz : Nat, Met l y (wsM y cc nL rt) (rmD d) (PcM D cA ad cells S sz as) (QcM D cA ad cells r (va_A (wsO cA ad cells S) sz)) 0 0 (va_A (wsO cA ad cells S) sz)
def Cx (D : va_G) (cA : Nat → ClassId) (y : MethodName) (cc : ByteArray) (nL : Nat) (rt : Option FieldType) (p : Program) (s : State) (m : MethodId) (args : Array Value) (meth : Method) (c : Code) : Prop :=
  p.tables.exec = Jvm.exec ∧ c.code = cc ∧ c.maxLocals = nL ∧ meth.sig.returnType = rt ∧ s.vm.findClass y.cls = some m.cls ∧ (∀ w ∈ wsM y cc nL rt, w.before args s = true) ∧ meth.locks = false ∧ va_K D vwCl (tysL cA) s ∧ ∀ w ∈ nwL, va_Nw w s
def V (D : va_G) (cA : Nat → ClassId) (ad : Nat → Nat → Nat) (cells : List (Nat × Nat)) (l : Launch) (p : Program) (e : Env) (s : State) (m : MethodId) (args : Array Value) (below : List Frame) (meth : Method) (c : Code) (A : Nat → Prop) (d : Nat) (r0 : Res) (nL : Nat) (pc : Nat) (pl : Pl) (st : List PV) (S : St) : Prop :=
  ∀ (H : Heap) (ls : Array Slot) (locs : List Loc), LsO ad ls nL pl → Vp cells pl → Vs cells st → va_P D vwCl (wsO cA ad cells S) H → va_D A (wsO cA ad cells S) → va_S A s.heap H locs → W p l e (rmD d) s m args below meth c H locs 0 0 (MQ below (QcM D cA ad cells r0 A) args s 0 0 A) (F0 m pc ls (st.map (cn ad)))
def VC (D : va_G) (cA : Nat → ClassId) (ad : Nat → Nat → Nat) (cells : List (Nat × Nat)) (l : Launch) (p : Program) (e : Env) (s : State) (m : MethodId) (args : Array Value) (below : List Frame) (meth : Method) (c : Code) (A : Nat → Prop) (d : Nat) (r0 : Res) (nL mid : Nat) (k : Cfg) : Prop := k.1 = mid → V D cA ad cells l p e s m args below meth c A d r0 nL k.2.1 k.2.2.1 k.2.2.2.1 k.2.2.2.2
def swC (x : Int32) : List (Int32 × Cfg) → Cfg → Cfg
  | [], d => d
  | (k, c) :: t, d => if x = k then c else swC x t d
/-- the answer is of its kind -/
def tyOK : Nat → Option PV → Prop
  | 0, v => v = none
  | 1, v => ∃ x, v = some (.inl x)
  | n + 2, v => v = some (.inr (.inr none)) ∨ ∃ i, i < cntR n ∧ v = some (.inr (.inr (some (n, i))))
def CalOK (D : va_G) (cA : Nat → ClassId) (ad : Nat → Nat → Nat) (cells : List (Nat × Nat)) (l : Launch) (mI : Nat → Option (MethodName × ByteArray × Nat × Option FieldType × Nat)) (k0 : Cfg) (r : Res) : Prop :=
  ∀ m' as S y cc nL rt d, k0 = entry m' nL as S → mI m' = some (y, cc, nL, rt, d) → (lay as).length ≤ nL → (∀ v ∈ as, VV cells v) → MetR D cA ad cells l y cc nL rt d as S r
def AOK (mI : Nat → Option (MethodName × ByteArray × Nat × Option FieldType × Nat)) (D : va_G) (cA : Nat → ClassId) (ad : Nat → Nat → Nat) (cells : List (Nat × Nat)) (l : Launch) (p : Program) (e : Env) (s : State) (m : MethodId) (args : Array Value) (below : List Frame) (meth : Method) (c : Code) (A : Nat → Prop) (d : Nat) (r0 : Res) (nL mid : Nat) : Act → Prop
  | none => False
  | some (.inl k) => VC D cA ad cells l p e s m args below meth c A d r0 nL mid k
  | some (.inr (.inl (b, k, k'))) => (b = true → VC D cA ad cells l p e s m args below meth c A d r0 nL mid k) ∧ (b = false → match k' with
    | none => False
    | some k' => VC D cA ad cells l p e s m args below meth c A d r0 nL mid k')
  | some (.inr (.inr (.inl (x, t, k)))) => VC D cA ad cells l p e s m args below meth c A d r0 nL mid (swC x t k)
  | some (.inr (.inr (.inr (.inl r)))) => r = r0
  | some (.inr (.inr (.inr (.inr (t, k0, k))))) => ∃ r, CalOK D cA ad cells l mI k0 r ∧ tyOK t r.1 ∧ VC D cA ad cells l p e s m args below meth c A d r0 nL mid (k r.1 r.2)
def OS (mI : Nat → Option (MethodName × ByteArray × Nat × Option FieldType × Nat)) (y : MethodName) (cc : ByteArray) (nL : Nat) (rt : Option FieldType) (d pc : Nat) (o : Op) : Prop :=
  ∀ (D : va_G) (cA : Nat → ClassId) (ad : Nat → Nat → Nat) (cells : List (Nat × Nat)) (l : Launch) (p : Program) (e : Env) (s : State) (m : MethodId) (args : Array Value) (below : List Frame) (meth : Method) (c : Code) (A : Nat → Prop) (r0 : Res) (mid : Nat) (pl : Pl) (st : List PV) (S : St),
    Cl cells → Cx D cA y cc nL rt p s m args meth c → (∀ q, s.heap.size ≤ q → A q) → AOK mI D cA ad cells l p e s m args below meth c A d r0 nL mid (o mid pl st S) → V D cA ad cells l p e s m args below meth c A d r0 nL pc pl st S
theorem Vs.cons {cells : List (Nat × Nat)} {v : PV} {st : List PV} (h : Vs cells st) (hv : VV cells v) : Vs cells (v :: st) := fun w hw => by
  rcases List.mem_cons.mp hw with rfl | q
  · exact hv
  · exact h w q
theorem Vs.tl {cells : List (Nat × Nat)} {v : PV} {st : List PV} (h : Vs cells (v :: st)) : Vs cells st := fun w hw => h w (List.mem_cons_of_mem _ hw)
theorem Vs.hd {cells : List (Nat × Nat)} {v : PV} {st : List PV} (h : Vs cells (v :: st)) : VV cells v := h v List.mem_cons_self
theorem LsO.at {ad : Nat → Nat → Nat} {ls : Array Slot} {nL : Nat} {pl : Pl} (h : LsO ad ls nL pl) {i : Nat} {v : PV} (hv : nth pl i = some v) : ls[i]? = some (.val (cn ad v)) := h.2.2.2 i v (nth_some hv)
theorem LsO.lt {ad : Nat → Nat → Nat} {ls : Array Slot} {nL : Nat} {pl : Pl} (h : LsO ad ls nL pl) {i : Nat} {v : PV} (hv : nth pl i = some v) : i < nL := by
  have := lv_lt (h.at hv)
  have := h.1
  omega
section OPS
variable {mI : Nat → Option (MethodName × ByteArray × Nat × Option FieldType × Nat)} {y : MethodName} {cc : ByteArray} {nL : Nat} {rt : Option FieldType} {d pc : Nat} {mk ma : Option (List Bool)}
theorem os_iconst {n : Int} {v : Int32} (hv : Int32.ofInt n = v) (hdg : decode cc pc = .ok (.iconst n, 1)) : OS mI y cc nL rt d pc (oPush (vI v) (pc + 1, mk)) := by
  intro D cA ad cells l p e s m args below meth c A r0 mid pl st S hC X hA K H ls locs hl hp hs hP hD hS
  exact lv_iconst X.1 X.2.1 hdg hv (K rfl H ls locs (hl.gom mk) (hp.gom mk) (hs.cons trivial) hP hD hS)

theorem os_bipush {n : Int} {v : Int32} (hv : (Int8.ofInt n).toInt32 = v) (hdg : decode cc pc = .ok (.bipush n, 2)) : OS mI y cc nL rt d pc (oPush (vI v) (pc + 2, mk)) := by
  intro D cA ad cells l p e s m args below meth c A r0 mid pl st S hC X hA K H ls locs hl hp hs hP hD hS
  exact lv_bipush X.1 X.2.1 hdg hv (K rfl H ls locs (hl.gom mk) (hp.gom mk) (hs.cons trivial) hP hD hS)

theorem os_sipush {n : Int} {v : Int32} (hv : (Int16.ofInt n).toInt32 = v) (hdg : decode cc pc = .ok (.sipush n, 3)) : OS mI y cc nL rt d pc (oPush (vI v) (pc + 3, mk)) := by
  intro D cA ad cells l p e s m args below meth c A r0 mid pl st S hC X hA K H ls locs hl hp hs hP hD hS
  exact lv_sipush X.1 X.2.1 hdg hv (K rfl H ls locs (hl.gom mk) (hp.gom mk) (hs.cons trivial) hP hD hS)

theorem os_lconst {n : Fin 2} {v : Int64} (hv : Int64.ofNat (n : Nat) = v) (hdg : decode cc pc = .ok (.lconst n, 1)) : OS mI y cc nL rt d pc (oPush (vL v) (pc + 1, mk)) := by
  intro D cA ad cells l p e s m args below meth c A r0 mid pl st S hC X hA K H ls locs hl hp hs hP hD hS
  exact lv_lconst X.1 X.2.1 hdg hv (K rfl H ls locs (hl.gom mk) (hp.gom mk) (hs.cons trivial) hP hD hS)

theorem os_null  (hdg : decode cc pc = .ok (.aconst_null, 1)) : OS mI y cc nL rt d pc (oPush vN (pc + 1, mk)) := by
  intro D cA ad cells l p e s m args below meth c A r0 mid pl st S hC X hA K H ls locs hl hp hs hP hD hS
  exact lv_null X.1 X.2.1 hdg (K rfl H ls locs (hl.gom mk) (hp.gom mk) (hs.cons trivial) hP hD hS)

theorem os_ldc {ix : Nat} {v : Int32} (hc : Jvm.Cond.constant y.cls ix v ∈ bwL) (hdg : decode cc pc = .ok (.ldc ix, 2)) : OS mI y cc nL rt d pc (oPush (vI v) (pc + 2, mk)) := by
  intro D cA ad cells l p e s m args below meth c A r0 mid pl st S hC X hA K H ls locs hl hp hs hP hD hS
  exact lv_ldc X.1 X.2.1 X.2.2.2.2.1 (X.2.2.2.2.2.1 _ (List.mem_cons_of_mem _ hc)) hdg (K rfl H ls locs (hl.gom mk) (hp.gom mk) (hs.cons trivial) hP hD hS)

theorem os_ldcw {ix : Nat} {v : Int32} (hc : Jvm.Cond.constant y.cls ix v ∈ bwL) (hdg : decode cc pc = .ok (.ldc_w ix, 3)) : OS mI y cc nL rt d pc (oPush (vI v) (pc + 3, mk)) := by
  intro D cA ad cells l p e s m args below meth c A r0 mid pl st S hC X hA K H ls locs hl hp hs hP hD hS
  exact lv_ldcw X.1 X.2.1 X.2.2.2.2.1 (X.2.2.2.2.2.1 _ (List.mem_cons_of_mem _ hc)) hdg (K rfl H ls locs (hl.gom mk) (hp.gom mk) (hs.cons trivial) hP hD hS)

theorem os_ldc2 {ix : Nat} {v : Int64} (hc : Jvm.Cond.constantLong y.cls ix v ∈ bwL) (hdg : decode cc pc = .ok (.ldc2_w ix, 3)) : OS mI y cc nL rt d pc (oPush (vL v) (pc + 3, mk)) := by
  intro D cA ad cells l p e s m args below meth c A r0 mid pl st S hC X hA K H ls locs hl hp hs hP hD hS
  exact lv_ldc2 X.1 X.2.1 X.2.2.2.2.1 (X.2.2.2.2.2.1 _ (List.mem_cons_of_mem _ hc)) hdg (K rfl H ls locs (hl.gom mk) (hp.gom mk) (hs.cons trivial) hP hD hS)

theorem os_iload {i : Nat} (hdg : decode cc pc = .ok (.iload i, 2)) : OS mI y cc nL rt d pc (oLdI i (pc + 2, mk)) := by
  intro D cA ad cells l p e s m args below meth c A r0 mid pl st S hC X hA K H ls locs hl hp hs hP hD hS
  cases hn : nth pl i with
  | none => simp only [oLdI, hn] at K; exact K.elim
  | some v =>
    rcases v with x | x | o
    · simp only [oLdI, hn] at K
      exact lv_iload X.1 X.2.1 hdg (hl.at hn) (K rfl H ls locs (hl.gom mk) (hp.gom mk) (hs.cons trivial) hP hD hS)
    · simp only [oLdI, hn] at K; exact K.elim
    · simp only [oLdI, hn] at K; exact K.elim

theorem os_iload_n {i : Nat} {k : Fin 4} (hi : (k : Nat) = i) (hdg : decode cc pc = .ok (.iload_n k, 1)) : OS mI y cc nL rt d pc (oLdI i (pc + 1, mk)) := by
  intro D cA ad cells l p e s m args below meth c A r0 mid pl st S hC X hA K H ls locs hl hp hs hP hD hS
  cases hn : nth pl i with
  | none => simp only [oLdI, hn] at K; exact K.elim
  | some v =>
    rcases v with x | x | o
    · simp only [oLdI, hn] at K
      exact lv_iload_n X.1 X.2.1 hdg hi (hl.at hn) (K rfl H ls locs (hl.gom mk) (hp.gom mk) (hs.cons trivial) hP hD hS)
    · simp only [oLdI, hn] at K; exact K.elim
    · simp only [oLdI, hn] at K; exact K.elim

theorem os_lload {i : Nat} (hdg : decode cc pc = .ok (.lload i, 2)) : OS mI y cc nL rt d pc (oLdL i (pc + 2, mk)) := by
  intro D cA ad cells l p e s m args below meth c A r0 mid pl st S hC X hA K H ls locs hl hp hs hP hD hS
  cases hn : nth pl i with
  | none => simp only [oLdL, hn] at K; exact K.elim
  | some v =>
    rcases v with x | x | o
    · simp only [oLdL, hn] at K; exact K.elim
    · simp only [oLdL, hn] at K
      exact lv_lload X.1 X.2.1 hdg (hl.at hn) (K rfl H ls locs (hl.gom mk) (hp.gom mk) (hs.cons trivial) hP hD hS)
    · simp only [oLdL, hn] at K; exact K.elim

theorem os_lload_n {i : Nat} {k : Fin 4} (hi : (k : Nat) = i) (hdg : decode cc pc = .ok (.lload_n k, 1)) : OS mI y cc nL rt d pc (oLdL i (pc + 1, mk)) := by
  intro D cA ad cells l p e s m args below meth c A r0 mid pl st S hC X hA K H ls locs hl hp hs hP hD hS
  cases hn : nth pl i with
  | none => simp only [oLdL, hn] at K; exact K.elim
  | some v =>
    rcases v with x | x | o
    · simp only [oLdL, hn] at K; exact K.elim
    · simp only [oLdL, hn] at K
      exact lv_lload_n X.1 X.2.1 hdg hi (hl.at hn) (K rfl H ls locs (hl.gom mk) (hp.gom mk) (hs.cons trivial) hP hD hS)
    · simp only [oLdL, hn] at K; exact K.elim

theorem os_aload {i : Nat} (hdg : decode cc pc = .ok (.aload i, 2)) : OS mI y cc nL rt d pc (oLdR i (pc + 2, mk)) := by
  intro D cA ad cells l p e s m args below meth c A r0 mid pl st S hC X hA K H ls locs hl hp hs hP hD hS
  cases hn : nth pl i with
  | none => simp only [oLdR, hn] at K; exact K.elim
  | some v =>
    rcases v with x | x | o
    · simp only [oLdR, hn] at K; exact K.elim
    · simp only [oLdR, hn] at K; exact K.elim
    · simp only [oLdR, hn] at K
      cases o with
      | none => exact lv_aloadN X.1 X.2.1 hdg (hl.at hn) (K rfl H ls locs (hl.gom mk) (hp.gom mk) (hs.cons trivial) hP hD hS)
      | some q => exact lv_aload X.1 X.2.1 hdg (hl.at hn) (K rfl H ls locs (hl.gom mk) (hp.gom mk) (hs.cons (hp _ (nth_mem hn))) hP hD hS)

theorem os_aload_n {i : Nat} {k : Fin 4} (hi : (k : Nat) = i) (hdg : decode cc pc = .ok (.aload_n k, 1)) : OS mI y cc nL rt d pc (oLdR i (pc + 1, mk)) := by
  intro D cA ad cells l p e s m args below meth c A r0 mid pl st S hC X hA K H ls locs hl hp hs hP hD hS
  cases hn : nth pl i with
  | none => simp only [oLdR, hn] at K; exact K.elim
  | some v =>
    rcases v with x | x | o
    · simp only [oLdR, hn] at K; exact K.elim
    · simp only [oLdR, hn] at K; exact K.elim
    · simp only [oLdR, hn] at K
      cases o with
      | none => exact lv_aload_nN X.1 X.2.1 hdg hi (hl.at hn) (K rfl H ls locs (hl.gom mk) (hp.gom mk) (hs.cons trivial) hP hD hS)
      | some q => exact lv_aload_n X.1 X.2.1 hdg hi (hl.at hn) (K rfl H ls locs (hl.gom mk) (hp.gom mk) (hs.cons (hp _ (nth_mem hn))) hP hD hS)

theorem os_istore {i : Nat} (hn : i < nL) (hdg : decode cc pc = .ok (.istore i, 2)) : OS mI y cc nL rt d pc (oStI i (pc + 2, mk)) := by
  intro D cA ad cells l p e s m args below meth c A r0 mid pl st S hC X hA K H ls locs hl hp hs hP hD hS
  rcases st with _ | ⟨v, st⟩
  · exact K.elim
  rcases v with x | x | o
  · exact lv_istore X.1 X.2.1 hdg hl.has hn rfl (fun ls' hl' => K rfl H ls' locs ((LsO.set1 (v := .inl x) hl.2.2.1 rfl hl').gom mk) ((hp.set (i := i) (v := .inl x) trivial).gom mk) hs.tl hP hD hS)
  · exact K.elim
  · exact K.elim

theorem os_istore_n {i : Nat} {k : Fin 4} (hi : (k : Nat) = i) (hn : i < nL) (hdg : decode cc pc = .ok (.istore_n k, 1)) : OS mI y cc nL rt d pc (oStI i (pc + 1, mk)) := by
  intro D cA ad cells l p e s m args below meth c A r0 mid pl st S hC X hA K H ls locs hl hp hs hP hD hS
  rcases st with _ | ⟨v, st⟩
  · exact K.elim
  rcases v with x | x | o
  · exact lv_istore_n X.1 X.2.1 hdg hi hl.has hn rfl (fun ls' hl' => K rfl H ls' locs ((LsO.set1 (v := .inl x) hl.2.2.1 rfl hl').gom mk) ((hp.set (i := i) (v := .inl x) trivial).gom mk) hs.tl hP hD hS)
  · exact K.elim
  · exact K.elim

theorem os_lstore {i : Nat} (hn : i + 1 < nL) (hdg : decode cc pc = .ok (.lstore i, 2)) : OS mI y cc nL rt d pc (oStL i (pc + 2, mk)) := by
  intro D cA ad cells l p e s m args below meth c A r0 mid pl st S hC X hA K H ls locs hl hp hs hP hD hS
  rcases st with _ | ⟨v, st⟩
  · exact K.elim
  rcases v with x | x | o
  · exact K.elim
  · exact lv_lstore X.1 X.2.1 hdg hl.has hn rfl (fun ls' hl' => K rfl H ls' locs ((LsO.set2 (v := .inr (.inl x)) hl.2.2.1 rfl hl').gom mk) ((hp.set (i := i) (v := .inr (.inl x)) trivial).gom mk) hs.tl hP hD hS)
  · exact K.elim

theorem os_lstore_n {i : Nat} {k : Fin 4} (hi : (k : Nat) = i) (hn : i + 1 < nL) (hdg : decode cc pc = .ok (.lstore_n k, 1)) : OS mI y cc nL rt d pc (oStL i (pc + 1, mk)) := by
  intro D cA ad cells l p e s m args below meth c A r0 mid pl st S hC X hA K H ls locs hl hp hs hP hD hS
  rcases st with _ | ⟨v, st⟩
  · exact K.elim
  rcases v with x | x | o
  · exact K.elim
  · exact lv_lstore_n X.1 X.2.1 hdg hi hl.has hn rfl (fun ls' hl' => K rfl H ls' locs ((LsO.set2 (v := .inr (.inl x)) hl.2.2.1 rfl hl').gom mk) ((hp.set (i := i) (v := .inr (.inl x)) trivial).gom mk) hs.tl hP hD hS)
  · exact K.elim

theorem os_astore {i : Nat} (hn : i < nL) (hdg : decode cc pc = .ok (.astore i, 2)) : OS mI y cc nL rt d pc (oStR i (pc + 2, mk)) := by
  intro D cA ad cells l p e s m args below meth c A r0 mid pl st S hC X hA K H ls locs hl hp hs hP hD hS
  rcases st with _ | ⟨v, st⟩
  · exact K.elim
  rcases v with x | x | o
  · exact K.elim
  · exact K.elim
  · cases o with
    | none => exact lv_astoreN X.1 X.2.1 hdg hl.has hn rfl (fun ls' hl' => K rfl H ls' locs ((LsO.set1 (v := .inr (.inr none)) hl.2.2.1 rfl hl').gom mk) ((hp.set (i := i) (v := .inr (.inr none)) trivial).gom mk) hs.tl hP hD hS)
    | some q => exact lv_astore X.1 X.2.1 hdg hl.has hn rfl (fun ls' hl' => K rfl H ls' locs ((LsO.set1 (v := .inr (.inr (some q))) hl.2.2.1 rfl hl').gom mk) ((hp.set (i := i) (v := .inr (.inr (some q))) hs.hd).gom mk) hs.tl hP hD hS)

theorem os_astore_n {i : Nat} {k : Fin 4} (hi : (k : Nat) = i) (hn : i < nL) (hdg : decode cc pc = .ok (.astore_n k, 1)) : OS mI y cc nL rt d pc (oStR i (pc + 1, mk)) := by
  intro D cA ad cells l p e s m args below meth c A r0 mid pl st S hC X hA K H ls locs hl hp hs hP hD hS
  rcases st with _ | ⟨v, st⟩
  · exact K.elim
  rcases v with x | x | o
  · exact K.elim
  · exact K.elim
  · cases o with
    | none => exact lv_astore_nN X.1 X.2.1 hdg hi hl.has hn rfl (fun ls' hl' => K rfl H ls' locs ((LsO.set1 (v := .inr (.inr none)) hl.2.2.1 rfl hl').gom mk) ((hp.set (i := i) (v := .inr (.inr none)) trivial).gom mk) hs.tl hP hD hS)
    | some q => exact lv_astore_n X.1 X.2.1 hdg hi hl.has hn rfl (fun ls' hl' => K rfl H ls' locs ((LsO.set1 (v := .inr (.inr (some q))) hl.2.2.1 rfl hl').gom mk) ((hp.set (i := i) (v := .inr (.inr (some q))) hs.hd).gom mk) hs.tl hP hD hS)

theorem os_iinc {i : Nat} {n : Int} {v : Int32} (hv : Int32.ofInt n = v) (hdg : decode cc pc = .ok (.iinc i n, 3)) : OS mI y cc nL rt d pc (oInc i v (pc + 3, mk)) := by
  intro D cA ad cells l p e s m args below meth c A r0 mid pl st S hC X hA K H ls locs hl hp hs hP hD hS
  cases hn : nth pl i with
  | none => simp only [oInc, hn] at K; exact K.elim
  | some w =>
    rcases w with x | x | o
    · simp only [oInc, hn] at K
      have hm := ents_mem ad pl 0 i (.inl x) (nth_some hn)
      rw [Nat.zero_add] at hm
      obtain ⟨j, hj⟩ := List.mem_iff_getElem?.mp hm
      exact lv_iinc X.1 X.2.1 hdg hl.has hj (by rw [hv]) (hl.lt hn) rfl (fun ls' hl' => K rfl H ls' locs ((LsO.set1 (v := .inl (x + v)) hl.2.2.1 rfl hl').gom mk) ((hp.set (i := i) (v := .inl (x + v)) trivial).gom mk) hs hP hD hS)
    · simp only [oInc, hn] at K; exact K.elim
    · simp only [oInc, hn] at K; exact K.elim

theorem os_iadd (hdg : decode cc pc = .ok (.iadd, 1)) : OS mI y cc nL rt d pc (oB (fun x y => x + y) (pc + 1, mk)) := by
  intro D cA ad cells l p e s m args below meth c A r0 mid pl st S hC X hA K H ls locs hl hp hs hP hD hS
  rcases st with _ | ⟨v, st⟩
  · exact K.elim
  rcases v with z0 | z0 | z0
  rotate_left
  · exact K.elim
  · exact K.elim
  rcases st with _ | ⟨v, st⟩
  · exact K.elim
  rcases v with z1 | z1 | z1
  rotate_left
  · exact K.elim
  · exact K.elim
  exact lv_iadd X.1 X.2.1 hdg (K rfl H ls locs (hl.gom mk) (hp.gom mk) (hs.tl.tl.cons trivial) hP hD hS)

theorem os_isub (hdg : decode cc pc = .ok (.isub, 1)) : OS mI y cc nL rt d pc (oB (fun x y => x - y) (pc + 1, mk)) := by
  intro D cA ad cells l p e s m args below meth c A r0 mid pl st S hC X hA K H ls locs hl hp hs hP hD hS
  rcases st with _ | ⟨v, st⟩
  · exact K.elim
  rcases v with z0 | z0 | z0
  rotate_left
  · exact K.elim
  · exact K.elim
  rcases st with _ | ⟨v, st⟩
  · exact K.elim
  rcases v with z1 | z1 | z1
  rotate_left
  · exact K.elim
  · exact K.elim
  exact lv_isub X.1 X.2.1 hdg (K rfl H ls locs (hl.gom mk) (hp.gom mk) (hs.tl.tl.cons trivial) hP hD hS)

theorem os_imul (hdg : decode cc pc = .ok (.imul, 1)) : OS mI y cc nL rt d pc (oB (fun x y => x * y) (pc + 1, mk)) := by
  intro D cA ad cells l p e s m args below meth c A r0 mid pl st S hC X hA K H ls locs hl hp hs hP hD hS
  rcases st with _ | ⟨v, st⟩
  · exact K.elim
  rcases v with z0 | z0 | z0
  rotate_left
  · exact K.elim
  · exact K.elim
  rcases st with _ | ⟨v, st⟩
  · exact K.elim
  rcases v with z1 | z1 | z1
  rotate_left
  · exact K.elim
  · exact K.elim
  exact lv_imul X.1 X.2.1 hdg (K rfl H ls locs (hl.gom mk) (hp.gom mk) (hs.tl.tl.cons trivial) hP hD hS)

theorem os_iand (hdg : decode cc pc = .ok (.iand, 1)) : OS mI y cc nL rt d pc (oB (fun x y => x &&& y) (pc + 1, mk)) := by
  intro D cA ad cells l p e s m args below meth c A r0 mid pl st S hC X hA K H ls locs hl hp hs hP hD hS
  rcases st with _ | ⟨v, st⟩
  · exact K.elim
  rcases v with z0 | z0 | z0
  rotate_left
  · exact K.elim
  · exact K.elim
  rcases st with _ | ⟨v, st⟩
  · exact K.elim
  rcases v with z1 | z1 | z1
  rotate_left
  · exact K.elim
  · exact K.elim
  exact lv_iand X.1 X.2.1 hdg (K rfl H ls locs (hl.gom mk) (hp.gom mk) (hs.tl.tl.cons trivial) hP hD hS)

theorem os_ior (hdg : decode cc pc = .ok (.ior, 1)) : OS mI y cc nL rt d pc (oB (fun x y => x ||| y) (pc + 1, mk)) := by
  intro D cA ad cells l p e s m args below meth c A r0 mid pl st S hC X hA K H ls locs hl hp hs hP hD hS
  rcases st with _ | ⟨v, st⟩
  · exact K.elim
  rcases v with z0 | z0 | z0
  rotate_left
  · exact K.elim
  · exact K.elim
  rcases st with _ | ⟨v, st⟩
  · exact K.elim
  rcases v with z1 | z1 | z1
  rotate_left
  · exact K.elim
  · exact K.elim
  exact lv_ior X.1 X.2.1 hdg (K rfl H ls locs (hl.gom mk) (hp.gom mk) (hs.tl.tl.cons trivial) hP hD hS)

theorem os_ixor (hdg : decode cc pc = .ok (.ixor, 1)) : OS mI y cc nL rt d pc (oB (fun x y => x ^^^ y) (pc + 1, mk)) := by
  intro D cA ad cells l p e s m args below meth c A r0 mid pl st S hC X hA K H ls locs hl hp hs hP hD hS
  rcases st with _ | ⟨v, st⟩
  · exact K.elim
  rcases v with z0 | z0 | z0
  rotate_left
  · exact K.elim
  · exact K.elim
  rcases st with _ | ⟨v, st⟩
  · exact K.elim
  rcases v with z1 | z1 | z1
  rotate_left
  · exact K.elim
  · exact K.elim
  exact lv_ixor X.1 X.2.1 hdg (K rfl H ls locs (hl.gom mk) (hp.gom mk) (hs.tl.tl.cons trivial) hP hD hS)

theorem os_ishl (hdg : decode cc pc = .ok (.ishl, 1)) : OS mI y cc nL rt d pc (oB (fun x y => x <<< (y &&& 31)) (pc + 1, mk)) := by
  intro D cA ad cells l p e s m args below meth c A r0 mid pl st S hC X hA K H ls locs hl hp hs hP hD hS
  rcases st with _ | ⟨v, st⟩
  · exact K.elim
  rcases v with z0 | z0 | z0
  rotate_left
  · exact K.elim
  · exact K.elim
  rcases st with _ | ⟨v, st⟩
  · exact K.elim
  rcases v with z1 | z1 | z1
  rotate_left
  · exact K.elim
  · exact K.elim
  exact lv_ishl X.1 X.2.1 hdg (K rfl H ls locs (hl.gom mk) (hp.gom mk) (hs.tl.tl.cons trivial) hP hD hS)

theorem os_ishr (hdg : decode cc pc = .ok (.ishr, 1)) : OS mI y cc nL rt d pc (oB (fun x y => x >>> (y &&& 31)) (pc + 1, mk)) := by
  intro D cA ad cells l p e s m args below meth c A r0 mid pl st S hC X hA K H ls locs hl hp hs hP hD hS
  rcases st with _ | ⟨v, st⟩
  · exact K.elim
  rcases v with z0 | z0 | z0
  rotate_left
  · exact K.elim
  · exact K.elim
  rcases st with _ | ⟨v, st⟩
  · exact K.elim
  rcases v with z1 | z1 | z1
  rotate_left
  · exact K.elim
  · exact K.elim
  exact lv_ishr X.1 X.2.1 hdg (K rfl H ls locs (hl.gom mk) (hp.gom mk) (hs.tl.tl.cons trivial) hP hD hS)

theorem os_idiv (hdg : decode cc pc = .ok (.idiv, 1)) : OS mI y cc nL rt d pc (oBd (fun x y => x / y) (pc + 1, mk)) := by
  intro D cA ad cells l p e s m args below meth c A r0 mid pl st S hC X hA K H ls locs hl hp hs hP hD hS
  rcases st with _ | ⟨v, st⟩
  · exact K.elim
  rcases v with z0 | z0 | z0
  rotate_left
  · exact K.elim
  · exact K.elim
  rcases st with _ | ⟨v, st⟩
  · exact K.elim
  rcases v with z1 | z1 | z1
  rotate_left
  · exact K.elim
  · exact K.elim
  have hy : ¬ z0 = 0 := fun q => by
    have := K.2 (by rw [decide_eq_true q]; rfl)
    exact this
  have K := K.1 (by rw [decide_eq_false hy]; rfl)
  exact lv_idiv X.1 X.2.1 hdg hy (K rfl H ls locs (hl.gom mk) (hp.gom mk) (hs.tl.tl.cons trivial) hP hD hS)

theorem os_irem (hdg : decode cc pc = .ok (.irem, 1)) : OS mI y cc nL rt d pc (oBd (fun x y => x - x / y * y) (pc + 1, mk)) := by
  intro D cA ad cells l p e s m args below meth c A r0 mid pl st S hC X hA K H ls locs hl hp hs hP hD hS
  rcases st with _ | ⟨v, st⟩
  · exact K.elim
  rcases v with z0 | z0 | z0
  rotate_left
  · exact K.elim
  · exact K.elim
  rcases st with _ | ⟨v, st⟩
  · exact K.elim
  rcases v with z1 | z1 | z1
  rotate_left
  · exact K.elim
  · exact K.elim
  have hy : ¬ z0 = 0 := fun q => by
    have := K.2 (by rw [decide_eq_true q]; rfl)
    exact this
  have K := K.1 (by rw [decide_eq_false hy]; rfl)
  exact lv_irem X.1 X.2.1 hdg hy (K rfl H ls locs (hl.gom mk) (hp.gom mk) (hs.tl.tl.cons trivial) hP hD hS)

theorem os_ineg (hdg : decode cc pc = .ok (.ineg, 1)) : OS mI y cc nL rt d pc (oU (fun x => -x) (pc + 1, mk)) := by
  intro D cA ad cells l p e s m args below meth c A r0 mid pl st S hC X hA K H ls locs hl hp hs hP hD hS
  rcases st with _ | ⟨v, st⟩
  · exact K.elim
  rcases v with z0 | z0 | z0
  rotate_left
  · exact K.elim
  · exact K.elim
  exact lv_ineg X.1 X.2.1 hdg (K rfl H ls locs (hl.gom mk) (hp.gom mk) (hs.tl.cons trivial) hP hD hS)

theorem os_ladd (hdg : decode cc pc = .ok (.ladd, 1)) : OS mI y cc nL rt d pc (oBl (fun x y => x + y) (pc + 1, mk)) := by
  intro D cA ad cells l p e s m args below meth c A r0 mid pl st S hC X hA K H ls locs hl hp hs hP hD hS
  rcases st with _ | ⟨v, st⟩
  · exact K.elim
  rcases v with z0 | z0 | z0
  · exact K.elim
  rotate_left
  · exact K.elim
  rcases st with _ | ⟨v, st⟩
  · exact K.elim
  rcases v with z1 | z1 | z1
  · exact K.elim
  rotate_left
  · exact K.elim
  exact lv_ladd X.1 X.2.1 hdg (K rfl H ls locs (hl.gom mk) (hp.gom mk) (hs.tl.tl.cons trivial) hP hD hS)

theorem os_lsub (hdg : decode cc pc = .ok (.lsub, 1)) : OS mI y cc nL rt d pc (oBl (fun x y => x - y) (pc + 1, mk)) := by
  intro D cA ad cells l p e s m args below meth c A r0 mid pl st S hC X hA K H ls locs hl hp hs hP hD hS
  rcases st with _ | ⟨v, st⟩
  · exact K.elim
  rcases v with z0 | z0 | z0
  · exact K.elim
  rotate_left
  · exact K.elim
  rcases st with _ | ⟨v, st⟩
  · exact K.elim
  rcases v with z1 | z1 | z1
  · exact K.elim
  rotate_left
  · exact K.elim
  exact lv_lsub X.1 X.2.1 hdg (K rfl H ls locs (hl.gom mk) (hp.gom mk) (hs.tl.tl.cons trivial) hP hD hS)

theorem os_lmul (hdg : decode cc pc = .ok (.lmul, 1)) : OS mI y cc nL rt d pc (oBl (fun x y => x * y) (pc + 1, mk)) := by
  intro D cA ad cells l p e s m args below meth c A r0 mid pl st S hC X hA K H ls locs hl hp hs hP hD hS
  rcases st with _ | ⟨v, st⟩
  · exact K.elim
  rcases v with z0 | z0 | z0
  · exact K.elim
  rotate_left
  · exact K.elim
  rcases st with _ | ⟨v, st⟩
  · exact K.elim
  rcases v with z1 | z1 | z1
  · exact K.elim
  rotate_left
  · exact K.elim
  exact lv_lmul X.1 X.2.1 hdg (K rfl H ls locs (hl.gom mk) (hp.gom mk) (hs.tl.tl.cons trivial) hP hD hS)

theorem os_land (hdg : decode cc pc = .ok (.land, 1)) : OS mI y cc nL rt d pc (oBl (fun x y => x &&& y) (pc + 1, mk)) := by
  intro D cA ad cells l p e s m args below meth c A r0 mid pl st S hC X hA K H ls locs hl hp hs hP hD hS
  rcases st with _ | ⟨v, st⟩
  · exact K.elim
  rcases v with z0 | z0 | z0
  · exact K.elim
  rotate_left
  · exact K.elim
  rcases st with _ | ⟨v, st⟩
  · exact K.elim
  rcases v with z1 | z1 | z1
  · exact K.elim
  rotate_left
  · exact K.elim
  exact lv_land X.1 X.2.1 hdg (K rfl H ls locs (hl.gom mk) (hp.gom mk) (hs.tl.tl.cons trivial) hP hD hS)

theorem os_lor (hdg : decode cc pc = .ok (.lor, 1)) : OS mI y cc nL rt d pc (oBl (fun x y => x ||| y) (pc + 1, mk)) := by
  intro D cA ad cells l p e s m args below meth c A r0 mid pl st S hC X hA K H ls locs hl hp hs hP hD hS
  rcases st with _ | ⟨v, st⟩
  · exact K.elim
  rcases v with z0 | z0 | z0
  · exact K.elim
  rotate_left
  · exact K.elim
  rcases st with _ | ⟨v, st⟩
  · exact K.elim
  rcases v with z1 | z1 | z1
  · exact K.elim
  rotate_left
  · exact K.elim
  exact lv_lor X.1 X.2.1 hdg (K rfl H ls locs (hl.gom mk) (hp.gom mk) (hs.tl.tl.cons trivial) hP hD hS)

theorem os_ldiv (hdg : decode cc pc = .ok (.ldiv, 1)) : OS mI y cc nL rt d pc (oBld (fun x y => x / y) (pc + 1, mk)) := by
  intro D cA ad cells l p e s m args below meth c A r0 mid pl st S hC X hA K H ls locs hl hp hs hP hD hS
  rcases st with _ | ⟨v, st⟩
  · exact K.elim
  rcases v with z0 | z0 | z0
  · exact K.elim
  rotate_left
  · exact K.elim
  rcases st with _ | ⟨v, st⟩
  · exact K.elim
  rcases v with z1 | z1 | z1
  · exact K.elim
  rotate_left
  · exact K.elim
  have hy : ¬ z0 = 0 := fun q => by
    have := K.2 (by rw [decide_eq_true q]; rfl)
    exact this
  have K := K.1 (by rw [decide_eq_false hy]; rfl)
  exact lv_ldiv X.1 X.2.1 hdg hy (K rfl H ls locs (hl.gom mk) (hp.gom mk) (hs.tl.tl.cons trivial) hP hD hS)

theorem os_lshl (hdg : decode cc pc = .ok (.lshl, 1)) : OS mI y cc nL rt d pc (oSl (fun x y => x <<< (y.toInt64 &&& 63)) (pc + 1, mk)) := by
  intro D cA ad cells l p e s m args below meth c A r0 mid pl st S hC X hA K H ls locs hl hp hs hP hD hS
  rcases st with _ | ⟨v, st⟩
  · exact K.elim
  rcases v with z0 | z0 | z0
  rotate_left
  · exact K.elim
  · exact K.elim
  rcases st with _ | ⟨v, st⟩
  · exact K.elim
  rcases v with z1 | z1 | z1
  · exact K.elim
  rotate_left
  · exact K.elim
  exact lv_lshl X.1 X.2.1 hdg rfl (K rfl H ls locs (hl.gom mk) (hp.gom mk) (hs.tl.tl.cons trivial) hP hD hS)

theorem os_lshr (hdg : decode cc pc = .ok (.lshr, 1)) : OS mI y cc nL rt d pc (oSl (fun x y => x >>> (y.toInt64 &&& 63)) (pc + 1, mk)) := by
  intro D cA ad cells l p e s m args below meth c A r0 mid pl st S hC X hA K H ls locs hl hp hs hP hD hS
  rcases st with _ | ⟨v, st⟩
  · exact K.elim
  rcases v with z0 | z0 | z0
  rotate_left
  · exact K.elim
  · exact K.elim
  rcases st with _ | ⟨v, st⟩
  · exact K.elim
  rcases v with z1 | z1 | z1
  · exact K.elim
  rotate_left
  · exact K.elim
  exact lv_lshr X.1 X.2.1 hdg rfl (K rfl H ls locs (hl.gom mk) (hp.gom mk) (hs.tl.tl.cons trivial) hP hD hS)

theorem os_lcmp (hdg : decode cc pc = .ok (.lcmp, 1)) : OS mI y cc nL rt d pc (oCmpL (pc + 1, mk)) := by
  intro D cA ad cells l p e s m args below meth c A r0 mid pl st S hC X hA K H ls locs hl hp hs hP hD hS
  rcases st with _ | ⟨v, st⟩
  · exact K.elim
  rcases v with z0 | z0 | z0
  · exact K.elim
  rotate_left
  · exact K.elim
  rcases st with _ | ⟨v, st⟩
  · exact K.elim
  rcases v with z1 | z1 | z1
  · exact K.elim
  rotate_left
  · exact K.elim
  exact W.lcmp X.1 X.2.1 hdg (K rfl H ls locs (hl.gom mk) (hp.gom mk) (hs.tl.tl.cons trivial) hP hD hS)

theorem os_i2l (hdg : decode cc pc = .ok (.i2l, 1)) : OS mI y cc nL rt d pc (oI2L (pc + 1, mk)) := by
  intro D cA ad cells l p e s m args below meth c A r0 mid pl st S hC X hA K H ls locs hl hp hs hP hD hS
  rcases st with _ | ⟨v, st⟩
  · exact K.elim
  rcases v with z0 | z0 | z0
  rotate_left
  · exact K.elim
  · exact K.elim
  exact lv_i2l X.1 X.2.1 hdg rfl (K rfl H ls locs (hl.gom mk) (hp.gom mk) (hs.tl.cons trivial) hP hD hS)

theorem os_l2i (hdg : decode cc pc = .ok (.l2i, 1)) : OS mI y cc nL rt d pc (oL2I (pc + 1, mk)) := by
  intro D cA ad cells l p e s m args below meth c A r0 mid pl st S hC X hA K H ls locs hl hp hs hP hD hS
  rcases st with _ | ⟨v, st⟩
  · exact K.elim
  rcases v with z0 | z0 | z0
  · exact K.elim
  rotate_left
  · exact K.elim
  exact lv_l2i X.1 X.2.1 hdg rfl (K rfl H ls locs (hl.gom mk) (hp.gom mk) (hs.tl.cons trivial) hP hD hS)

theorem os_goto {off : Int} {tgt : Nat} (ht : (pc : Int) + off = (tgt : Int)) (hdg : decode cc pc = .ok (.goto off, 3)) : OS mI y cc nL rt d pc (oGo (tgt, mk)) := by
  intro D cA ad cells l p e s m args below meth c A r0 mid pl st S hC X hA K H ls locs hl hp hs hP hD hS
  exact lv_goto X.1 X.2.1 hdg ht (K rfl H ls locs (hl.gom mk) (hp.gom mk) hs hP hD hS)

theorem os_icmp_eq {off : Int} {tgt : Nat} (ht : (pc : Int) + off = (tgt : Int)) (hdg : decode cc pc = .ok (.if_icmp .eq off, 3)) : OS mI y cc nL rt d pc (oC (fun x y => decide (x = y)) (tgt, ma) (pc + 3, mk)) := by
  intro D cA ad cells l p e s m args below meth c A r0 mid pl st S hC X hA K H ls locs hl hp hs hP hD hS
  rcases st with _ | ⟨v, st⟩
  · exact K.elim
  rcases v with z0 | z0 | z0
  rotate_left
  · exact K.elim
  · exact K.elim
  rcases st with _ | ⟨v, st⟩
  · exact K.elim
  rcases v with z1 | z1 | z1
  rotate_left
  · exact K.elim
  · exact K.elim
  exact lv_icmp_eq X.1 X.2.1 hdg ht (fun h => K.1 (by simp only [decide_eq_true h]) rfl H ls locs (hl.gom ma) (hp.gom ma) hs.tl.tl hP hD hS) (fun h => K.2 (by simp only [decide_eq_false h]) rfl H ls locs (hl.gom mk) (hp.gom mk) hs.tl.tl hP hD hS)

theorem os_if_eq {off : Int} {tgt : Nat} (ht : (pc : Int) + off = (tgt : Int)) (hdg : decode cc pc = .ok (.ifCond .eq off, 3)) : OS mI y cc nL rt d pc (oZ (fun x => decide (x = 0)) (tgt, ma) (pc + 3, mk)) := by
  intro D cA ad cells l p e s m args below meth c A r0 mid pl st S hC X hA K H ls locs hl hp hs hP hD hS
  rcases st with _ | ⟨v, st⟩
  · exact K.elim
  rcases v with z0 | z0 | z0
  rotate_left
  · exact K.elim
  · exact K.elim
  exact lv_if_eq X.1 X.2.1 hdg ht (fun h => K.1 (by simp only [decide_eq_true h]) rfl H ls locs (hl.gom ma) (hp.gom ma) hs.tl hP hD hS) (fun h => K.2 (by simp only [decide_eq_false h]) rfl H ls locs (hl.gom mk) (hp.gom mk) hs.tl hP hD hS)

theorem os_icmp_ne {off : Int} {tgt : Nat} (ht : (pc : Int) + off = (tgt : Int)) (hdg : decode cc pc = .ok (.if_icmp .ne off, 3)) : OS mI y cc nL rt d pc (oC (fun x y => !decide (x = y)) (tgt, ma) (pc + 3, mk)) := by
  intro D cA ad cells l p e s m args below meth c A r0 mid pl st S hC X hA K H ls locs hl hp hs hP hD hS
  rcases st with _ | ⟨v, st⟩
  · exact K.elim
  rcases v with z0 | z0 | z0
  rotate_left
  · exact K.elim
  · exact K.elim
  rcases st with _ | ⟨v, st⟩
  · exact K.elim
  rcases v with z1 | z1 | z1
  rotate_left
  · exact K.elim
  · exact K.elim
  exact lv_icmp_ne X.1 X.2.1 hdg ht (fun h => K.1 (by simp only [decide_eq_false h]; rfl) rfl H ls locs (hl.gom ma) (hp.gom ma) hs.tl.tl hP hD hS) (fun h => K.2 (by simp only [decide_eq_true h]; rfl) rfl H ls locs (hl.gom mk) (hp.gom mk) hs.tl.tl hP hD hS)

theorem os_if_ne {off : Int} {tgt : Nat} (ht : (pc : Int) + off = (tgt : Int)) (hdg : decode cc pc = .ok (.ifCond .ne off, 3)) : OS mI y cc nL rt d pc (oZ (fun x => !decide (x = 0)) (tgt, ma) (pc + 3, mk)) := by
  intro D cA ad cells l p e s m args below meth c A r0 mid pl st S hC X hA K H ls locs hl hp hs hP hD hS
  rcases st with _ | ⟨v, st⟩
  · exact K.elim
  rcases v with z0 | z0 | z0
  rotate_left
  · exact K.elim
  · exact K.elim
  exact lv_if_ne X.1 X.2.1 hdg ht (fun h => K.1 (by simp only [decide_eq_false h]; rfl) rfl H ls locs (hl.gom ma) (hp.gom ma) hs.tl hP hD hS) (fun h => K.2 (by simp only [decide_eq_true h]; rfl) rfl H ls locs (hl.gom mk) (hp.gom mk) hs.tl hP hD hS)

theorem os_icmp_lt {off : Int} {tgt : Nat} (ht : (pc : Int) + off = (tgt : Int)) (hdg : decode cc pc = .ok (.if_icmp .lt off, 3)) : OS mI y cc nL rt d pc (oC (fun x y => decide (x < y)) (tgt, ma) (pc + 3, mk)) := by
  intro D cA ad cells l p e s m args below meth c A r0 mid pl st S hC X hA K H ls locs hl hp hs hP hD hS
  rcases st with _ | ⟨v, st⟩
  · exact K.elim
  rcases v with z0 | z0 | z0
  rotate_left
  · exact K.elim
  · exact K.elim
  rcases st with _ | ⟨v, st⟩
  · exact K.elim
  rcases v with z1 | z1 | z1
  rotate_left
  · exact K.elim
  · exact K.elim
  exact lv_icmp_lt X.1 X.2.1 hdg ht (fun h => K.1 (by simp only [decide_eq_true h]) rfl H ls locs (hl.gom ma) (hp.gom ma) hs.tl.tl hP hD hS) (fun h => K.2 (by simp only [decide_eq_false h]) rfl H ls locs (hl.gom mk) (hp.gom mk) hs.tl.tl hP hD hS)

theorem os_if_lt {off : Int} {tgt : Nat} (ht : (pc : Int) + off = (tgt : Int)) (hdg : decode cc pc = .ok (.ifCond .lt off, 3)) : OS mI y cc nL rt d pc (oZ (fun x => decide (x < 0)) (tgt, ma) (pc + 3, mk)) := by
  intro D cA ad cells l p e s m args below meth c A r0 mid pl st S hC X hA K H ls locs hl hp hs hP hD hS
  rcases st with _ | ⟨v, st⟩
  · exact K.elim
  rcases v with z0 | z0 | z0
  rotate_left
  · exact K.elim
  · exact K.elim
  exact lv_if_lt X.1 X.2.1 hdg ht (fun h => K.1 (by simp only [decide_eq_true h]) rfl H ls locs (hl.gom ma) (hp.gom ma) hs.tl hP hD hS) (fun h => K.2 (by simp only [decide_eq_false h]) rfl H ls locs (hl.gom mk) (hp.gom mk) hs.tl hP hD hS)

theorem os_icmp_ge {off : Int} {tgt : Nat} (ht : (pc : Int) + off = (tgt : Int)) (hdg : decode cc pc = .ok (.if_icmp .ge off, 3)) : OS mI y cc nL rt d pc (oC (fun x y => decide (y ≤ x)) (tgt, ma) (pc + 3, mk)) := by
  intro D cA ad cells l p e s m args below meth c A r0 mid pl st S hC X hA K H ls locs hl hp hs hP hD hS
  rcases st with _ | ⟨v, st⟩
  · exact K.elim
  rcases v with z0 | z0 | z0
  rotate_left
  · exact K.elim
  · exact K.elim
  rcases st with _ | ⟨v, st⟩
  · exact K.elim
  rcases v with z1 | z1 | z1
  rotate_left
  · exact K.elim
  · exact K.elim
  exact lv_icmp_ge X.1 X.2.1 hdg ht (fun h => K.1 (by simp only [decide_eq_true h]) rfl H ls locs (hl.gom ma) (hp.gom ma) hs.tl.tl hP hD hS) (fun h => K.2 (by simp only [decide_eq_false h]) rfl H ls locs (hl.gom mk) (hp.gom mk) hs.tl.tl hP hD hS)

theorem os_if_ge {off : Int} {tgt : Nat} (ht : (pc : Int) + off = (tgt : Int)) (hdg : decode cc pc = .ok (.ifCond .ge off, 3)) : OS mI y cc nL rt d pc (oZ (fun x => decide (0 ≤ x)) (tgt, ma) (pc + 3, mk)) := by
  intro D cA ad cells l p e s m args below meth c A r0 mid pl st S hC X hA K H ls locs hl hp hs hP hD hS
  rcases st with _ | ⟨v, st⟩
  · exact K.elim
  rcases v with z0 | z0 | z0
  rotate_left
  · exact K.elim
  · exact K.elim
  exact lv_if_ge X.1 X.2.1 hdg ht (fun h => K.1 (by simp only [decide_eq_true h]) rfl H ls locs (hl.gom ma) (hp.gom ma) hs.tl hP hD hS) (fun h => K.2 (by simp only [decide_eq_false h]) rfl H ls locs (hl.gom mk) (hp.gom mk) hs.tl hP hD hS)

theorem os_icmp_gt {off : Int} {tgt : Nat} (ht : (pc : Int) + off = (tgt : Int)) (hdg : decode cc pc = .ok (.if_icmp .gt off, 3)) : OS mI y cc nL rt d pc (oC (fun x y => decide (y < x)) (tgt, ma) (pc + 3, mk)) := by
  intro D cA ad cells l p e s m args below meth c A r0 mid pl st S hC X hA K H ls locs hl hp hs hP hD hS
  rcases st with _ | ⟨v, st⟩
  · exact K.elim
  rcases v with z0 | z0 | z0
  rotate_left
  · exact K.elim
  · exact K.elim
  rcases st with _ | ⟨v, st⟩
  · exact K.elim
  rcases v with z1 | z1 | z1
  rotate_left
  · exact K.elim
  · exact K.elim
  exact lv_icmp_gt X.1 X.2.1 hdg ht (fun h => K.1 (by simp only [decide_eq_true h]) rfl H ls locs (hl.gom ma) (hp.gom ma) hs.tl.tl hP hD hS) (fun h => K.2 (by simp only [decide_eq_false h]) rfl H ls locs (hl.gom mk) (hp.gom mk) hs.tl.tl hP hD hS)

theorem os_if_gt {off : Int} {tgt : Nat} (ht : (pc : Int) + off = (tgt : Int)) (hdg : decode cc pc = .ok (.ifCond .gt off, 3)) : OS mI y cc nL rt d pc (oZ (fun x => decide (0 < x)) (tgt, ma) (pc + 3, mk)) := by
  intro D cA ad cells l p e s m args below meth c A r0 mid pl st S hC X hA K H ls locs hl hp hs hP hD hS
  rcases st with _ | ⟨v, st⟩
  · exact K.elim
  rcases v with z0 | z0 | z0
  rotate_left
  · exact K.elim
  · exact K.elim
  exact lv_if_gt X.1 X.2.1 hdg ht (fun h => K.1 (by simp only [decide_eq_true h]) rfl H ls locs (hl.gom ma) (hp.gom ma) hs.tl hP hD hS) (fun h => K.2 (by simp only [decide_eq_false h]) rfl H ls locs (hl.gom mk) (hp.gom mk) hs.tl hP hD hS)

theorem os_icmp_le {off : Int} {tgt : Nat} (ht : (pc : Int) + off = (tgt : Int)) (hdg : decode cc pc = .ok (.if_icmp .le off, 3)) : OS mI y cc nL rt d pc (oC (fun x y => decide (x ≤ y)) (tgt, ma) (pc + 3, mk)) := by
  intro D cA ad cells l p e s m args below meth c A r0 mid pl st S hC X hA K H ls locs hl hp hs hP hD hS
  rcases st with _ | ⟨v, st⟩
  · exact K.elim
  rcases v with z0 | z0 | z0
  rotate_left
  · exact K.elim
  · exact K.elim
  rcases st with _ | ⟨v, st⟩
  · exact K.elim
  rcases v with z1 | z1 | z1
  rotate_left
  · exact K.elim
  · exact K.elim
  exact lv_icmp_le X.1 X.2.1 hdg ht (fun h => K.1 (by simp only [decide_eq_true h]) rfl H ls locs (hl.gom ma) (hp.gom ma) hs.tl.tl hP hD hS) (fun h => K.2 (by simp only [decide_eq_false h]) rfl H ls locs (hl.gom mk) (hp.gom mk) hs.tl.tl hP hD hS)

theorem os_if_le {off : Int} {tgt : Nat} (ht : (pc : Int) + off = (tgt : Int)) (hdg : decode cc pc = .ok (.ifCond .le off, 3)) : OS mI y cc nL rt d pc (oZ (fun x => decide (x ≤ 0)) (tgt, ma) (pc + 3, mk)) := by
  intro D cA ad cells l p e s m args below meth c A r0 mid pl st S hC X hA K H ls locs hl hp hs hP hD hS
  rcases st with _ | ⟨v, st⟩
  · exact K.elim
  rcases v with z0 | z0 | z0
  rotate_left
  · exact K.elim
  · exact K.elim
  exact lv_if_le X.1 X.2.1 hdg ht (fun h => K.1 (by simp only [decide_eq_true h]) rfl H ls locs (hl.gom ma) (hp.gom ma) hs.tl hP hD hS) (fun h => K.2 (by simp only [decide_eq_false h]) rfl H ls locs (hl.gom mk) (hp.gom mk) hs.tl hP hD hS)

theorem os_ifnull {off : Int} {tgt : Nat} (ht : (pc : Int) + off = (tgt : Int)) (hdg : decode cc pc = .ok (.ifnull off, 3)) : OS mI y cc nL rt d pc (oN (tgt, ma) (pc + 3, mk)) := by
  intro D cA ad cells l p e s m args below meth c A r0 mid pl st S hC X hA K H ls locs hl hp hs hP hD hS
  rcases st with _ | ⟨v, st⟩
  · exact K.elim
  rcases v with z0 | z0 | z0
  · exact K.elim
  · exact K.elim
  cases z0 with
  | none => exact lv_ifnullN X.1 X.2.1 hdg ht (K rfl H ls locs (hl.gom ma) (hp.gom ma) hs.tl hP hD hS)
  | some q => exact lv_ifnull X.1 X.2.1 hdg (K rfl H ls locs (hl.gom mk) (hp.gom mk) hs.tl hP hD hS)

theorem os_ifnonnull {off : Int} {tgt : Nat} (ht : (pc : Int) + off = (tgt : Int)) (hdg : decode cc pc = .ok (.ifnonnull off, 3)) : OS mI y cc nL rt d pc (oN (pc + 3, ma) (tgt, mk)) := by
  intro D cA ad cells l p e s m args below meth c A r0 mid pl st S hC X hA K H ls locs hl hp hs hP hD hS
  rcases st with _ | ⟨v, st⟩
  · exact K.elim
  rcases v with z0 | z0 | z0
  · exact K.elim
  · exact K.elim
  cases z0 with
  | none => exact lv_ifnonnullN X.1 X.2.1 hdg (K rfl H ls locs (hl.gom ma) (hp.gom ma) hs.tl hP hD hS)
  | some q => exact lv_ifnonnull X.1 X.2.1 hdg ht (K rfl H ls locs (hl.gom mk) (hp.gom mk) hs.tl hP hD hS)

theorem os_pop (hdg : decode cc pc = .ok (.pop, 1)) : OS mI y cc nL rt d pc (oPop (pc + 1, mk)) := by
  intro D cA ad cells l p e s m args below meth c A r0 mid pl st S hC X hA K H ls locs hl hp hs hP hD hS
  rcases st with _ | ⟨v, st⟩
  · exact K.elim
  cases hv : isL v with
  | true => simp only [oPop, hv] at K; exact K.elim
  | false =>
    simp only [oPop, hv] at K
    exact lv_pop X.1 X.2.1 hdg (isL_cat1 ad v hv) (K rfl H ls locs (hl.gom mk) (hp.gom mk) hs.tl hP hD hS)

theorem os_dup (hdg : decode cc pc = .ok (.dup, 1)) : OS mI y cc nL rt d pc (oDup (pc + 1, mk)) := by
  intro D cA ad cells l p e s m args below meth c A r0 mid pl st S hC X hA K H ls locs hl hp hs hP hD hS
  rcases st with _ | ⟨v, st⟩
  · exact K.elim
  cases hv : isL v with
  | true => simp only [oDup, hv] at K; exact K.elim
  | false =>
    simp only [oDup, hv] at K
    exact lv_dup X.1 X.2.1 hdg (isL_cat1 ad v hv) (K rfl H ls locs (hl.gom mk) (hp.gom mk) (hs.cons hs.hd) hP hD hS)

theorem os_dup2 (hdg : decode cc pc = .ok (.dup2, 1)) : OS mI y cc nL rt d pc (oDup2 (pc + 1, mk)) := by
  intro D cA ad cells l p e s m args below meth c A r0 mid pl st S hC X hA K H ls locs hl hp hs hP hD hS
  rcases st with _ | ⟨v, st⟩
  · exact K.elim
  rcases st with _ | ⟨w, st⟩
  · exact K.elim
  cases hv : isL v with
  | true => simp only [oDup2, hv] at K; exact K.elim
  | false =>
    cases hw : isL w with
    | true => simp only [oDup2, hv, hw] at K; exact K.elim
    | false =>
      simp only [oDup2, hv, hw] at K
      exact lv_dup2_11 X.1 X.2.1 hdg (isL_cat1 ad v hv) (isL_cat1 ad w hw) (K rfl H ls locs (hl.gom mk) (hp.gom mk) ((hs.cons hs.tl.hd).cons hs.hd) hP hD hS)

end OPS
