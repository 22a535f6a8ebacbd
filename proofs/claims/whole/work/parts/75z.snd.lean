/-! SOUNDNESS ONCE MORE, for methods of java.lang.Math too (no row of the natives' table stands for them) -/
theorem Met_ofWF {l : Launch} {y : MethodName} {ws ws' : List Cond} {rm : Room} {Pc : Array Value → State → Prop} {Qc : Array Value → State → Outcome → State → Prop} {mc ms : Nat} {free : Addr → Prop} {cc : ByteArray} {maxL : Nat} {ret : Option FieldType} (hy : plainFor y = true) (hw : ws = Cond.code y cc maxL ret :: ws')
    (body : ∀ p e s m args below meth c s₁, BodyLoose p l y (headSpec ws rm) cc maxL ret e s m args below meth c s₁ → c.maxLocals = maxL → Pc args s → W p l e (headSpec ws rm).room s m args below meth c s.heap [] 0 0 (MQ below Qc args s mc ms free) (entryFrame m args maxL)) : Met l y ws rm Pc Qc mc ms free :=
  MetFree.of_bodySF (code := cc) (maxLocals := maxL) (ret := ret) hy
    (fun args s m h hn => by
      have hc := atoms_spec (ws := ws) h (Cond.code y cc maxL ret) (by rw [hw]; exact List.mem_cons_self)
      obtain ⟨meth, c, h1, h2, h3, h4, h5, h6, -, -⟩ := Cond.code_spec hn hc
      exact ⟨meth, c, h1, h2, h3, h4, h5, h6⟩)
    (fun p e s m args below meth c s₁ B hml hP _ => by
      have hh : s₁.heap = s.heap := by rw [B.state]; rfl
      obtain ⟨t, a1, o, b1, b2, b3⟩ := body p e s m args below meth c s₁ B hml hP s₁ hh (Stand.of_body B)
      exact ⟨t, o, a1, b1, b2, b3.1, b3.2⟩)
section SND
variable {mI : Nat → Option (MethodName × ByteArray × Nat × Option FieldType × Nat)} {tb : Tbl} {D : va_G} {cA : Nat → ClassId} {ad : Nat → Nat → Nat} {cells : List (Nat × Nat)} {l : Launch}
theorem met_ofF (hpl : ∀ m y cc nL rt d, mI m = some (y, cc, nL, rt, d) → plainFor y = true) {f : Nat} (ih : SndF mI tb D cA ad cells l f) {m' nL' : Nat} {as : List PV} {S : St} {r : Res} {y : MethodName} {cc : ByteArray} {rt : Option FieldType} {d : Nat} (h : evF tb f (entry m' nL' as S) = some r) (hI : mI m' = some (y, cc, nL', rt, d)) (hlay : (lay as).length ≤ nL') (hv : ∀ v ∈ as, VV cells v) : MetR D cA ad cells l y cc nL' rt d as S r := by
  intro sz
  refine Met_ofWF (cc := cc) (maxL := nL') (ret := rt) (hpl _ _ _ _ _ _ hI) rfl ?_
  intro p e s m args below meth c s₁ B hml hq
  obtain ⟨rfl, hsz, ⟨hP, hK, hN⟩, hD0⟩ := hq
  subst hsz
  have hX : Cx D cA y cc nL' rt p s m (as.map (cn ad)).toArray meth c := ⟨B.exec, B.bytes, hml, B.returns, findClass_of_methodNamed B.named, atoms_spec (ws := wsM y cc nL' rt) B.pre, B.notSynchronized, hK, hN⟩
  have hV := ih _ _ h y cc nL' rt d hI p e s m _ below meth c (va_A (wsO cA ad cells S) s.heap.size) hX (fun q hq => Or.inr hq)
  have hW := hV s.heap _ [] (entry_LsO hlay) (entry_Vp hv) (fun v hv => by cases hv) hP hD0.self va_S.rf
  rw [lg_entry_eq]
  exact hW
theorem aok_ofF (hpl : ∀ m y cc nL rt d, mI m = some (y, cc, nL, rt, d) → plainFor y = true) {f : Nat} (ih : SndF mI tb D cA ad cells l f) {mid : Nat} {y : MethodName} {cc : ByteArray} {nL : Nat} {rt : Option FieldType} {d : Nat} (hI : mI mid = some (y, cc, nL, rt, d)) {p : Program} {e : Env} {s : State} {m : MethodId} {args : Array Value} {below : List Frame} {meth : Method} {c : Code} {A : Nat → Prop} (X : Cx D cA y cc nL rt p s m args meth c) (hA : ∀ q, s.heap.size ≤ q → A q) {r0 : Res} : ∀ (a : Act), inp (evF tb f) (evF tb f) a = some r0 → AOK mI D cA ad cells l p e s m args below meth c A d r0 nL mid a := by
  have go : ∀ k : Cfg, evF tb f k = some r0 → VC D cA ad cells l p e s m args below meth c A d r0 nL mid k := fun k hk h => by
    subst h
    exact ih k r0 hk y cc nL rt d hI p e s m args below meth c A X hA
  have met : ∀ (k0 : Cfg) (r : Res), evF tb f k0 = some r → CalOK D cA ad cells l mI k0 r := fun k0 r hk m' as S y' cc' nL' rt' d' e0 hI' hl hv => by
    subst e0
    exact met_ofF hpl ih hk hI' hl hv
  intro a h
  match a, h with
  | none, h => cases h
  | some (.inl k), h => exact go k h
  | some (.inr (.inl (b, k, k'))), h =>
    refine ⟨fun hb => ?_, fun hb => ?_⟩
    · subst hb
      exact go k h
    · subst hb
      cases k' with
      | none => cases h
      | some k' => exact go k' h
  | some (.inr (.inr (.inl (x, t, k)))), h =>
    have : ∀ (t : List (Int32 × Cfg)), swi (evF tb f) x t k = some r0 → VC D cA ad cells l p e s m args below meth c A d r0 nL mid (swC x t k) := by
      intro t
      induction t with
      | nil => exact go k
      | cons q t iht =>
        intro h
        obtain ⟨k1, c1⟩ := q
        unfold swi at h
        unfold swC
        by_cases hx : x = k1
        · rw [decide_eq_true hx] at h
          rw [if_pos hx]
          exact go c1 h
        · rw [decide_eq_false hx] at h
          rw [if_neg hx]
          exact iht h
    exact this t h
  | some (.inr (.inr (.inr (.inl r)))), h => exact Option.some.inj h
  | some (.inr (.inr (.inr (.inr (0, k0, k))))), h =>
    obtain ⟨S', h1, h2⟩ := Option.bind_eq_some_iff.mp h
    obtain ⟨r, h3, h4⟩ := Option.bind_eq_some_iff.mp h1
    obtain ⟨v, S2⟩ := r
    rcases v with _ | v
    · cases h4
      exact ⟨_, met _ _ h3, rfl, go _ h2⟩
    · cases h4
  | some (.inr (.inr (.inr (.inr (1, k0, k))))), h =>
    obtain ⟨q, h1, h2⟩ := Option.bind_eq_some_iff.mp h
    obtain ⟨r, h3, h4⟩ := Option.bind_eq_some_iff.mp h1
    obtain ⟨v, S2⟩ := r
    rcases v with _ | v
    · cases h4
    rcases v with x | x | o
    · cases h4
      exact ⟨_, met _ _ h3, ⟨x, rfl⟩, go _ h2⟩
    · cases h4
    · cases h4
  | some (.inr (.inr (.inr (.inr (n + 2, k0, k))))), h =>
    obtain ⟨q, h1, h2⟩ := Option.bind_eq_some_iff.mp h
    obtain ⟨r, h3, h4⟩ := Option.bind_eq_some_iff.mp h1
    obtain ⟨v, S2⟩ := r
    obtain ⟨e1, e2⟩ := tR_spec h4
    obtain ⟨q1, q2⟩ := q
    dsimp only at e1 e2 h2
    subst e1
    rcases e2 with ⟨rfl, rfl⟩ | ⟨i, rfl, hi, rfl⟩
    · exact ⟨_, met _ _ h3, Or.inl rfl, go _ h2⟩
    · exact ⟨_, met _ _ h3, Or.inr ⟨i, hi, rfl⟩, go _ h2⟩
/-- what runs to an end in the tables runs so on the machine -/
theorem snd_allF (hpl : ∀ m y cc nL rt d, mI m = some (y, cc, nL, rt, d) → plainFor y = true) (hOS : ∀ m pc o y cc nL rt d, mI m = some (y, cc, nL, rt, d) → tb m pc = some o → OS mI y cc nL rt d pc o) (hC : Cl cells) : ∀ f, SndF mI tb D cA ad cells l f := by
  intro f
  induction f with
  | zero => intro k r0 h; cases h
  | succ f ih =>
    intro k r0 h y cc nL rt d hI p e s m args below meth c A X hA
    obtain ⟨mid, pc, pl, st, S⟩ := k
    have h : inp (evF tb f) (evF tb f) (stp tb (mid, pc, pl, st, S)) = some r0 := h
    unfold stp at h
    dsimp only at h
    cases ho : tb mid pc with
    | none => rw [ho] at h; cases h
    | some o =>
      rw [ho] at h
      exact hOS mid pc o y cc nL rt d hI ho D cA ad cells l p e s m args below meth c A r0 mid pl st S hC X hA (aok_ofF hpl ih hI X hA _ h)
theorem met_runF (hpl : ∀ m y cc nL rt d, mI m = some (y, cc, nL, rt, d) → plainFor y = true) (hOS : ∀ m pc o y cc nL rt d, mI m = some (y, cc, nL, rt, d) → tb m pc = some o → OS mI y cc nL rt d pc o) (hC : Cl cells) {m' nL' : Nat} {as : List PV} {S : St} {r : Res} {y : MethodName} {cc : ByteArray} {rt : Option FieldType} {d : Nat} (h : RunT tb (entry m' nL' as S) = some r) (hI : mI m' = some (y, cc, nL', rt, d)) (hlay : (lay as).length ≤ nL') (hv : ∀ v ∈ as, VV cells v) : MetR D cA ad cells l y cc nL' rt d as S r := by
  obtain ⟨f, hf⟩ := (RunT_iff tb _ r).mp h
  exact met_ofF hpl (snd_allF hpl hOS hC f) hf hI hlay hv
end SND
