/-! THE MACHINE DOES WHAT THE RUNS SAY -/
theorem pad_get : ∀ (n : Nat) (l : Pl) (i : Nat) (v : PV), (pad n l)[i]? = some (some v) → l[i]? = some (some v)
  | 0, l, i, v, h => h
  | n + 1, [], 0, v, h => by cases h
  | n + 1, [], i + 1, v, h => by
    have := pad_get n [] i v h
    cases this
  | n + 1, a :: l, 0, v, h => h
  | n + 1, a :: l, i + 1, v, h => pad_get n l i v h
theorem pad_len : ∀ (n : Nat) (l : Pl), l.length ≤ n → (pad n l).length = n
  | 0, l, h => by cases l with
    | nil => rfl
    | cons a l => simp at h
  | n + 1, [], h => congrArg (· + 1) (pad_len n [] (Nat.zero_le _))
  | n + 1, a :: l, h => congrArg (· + 1) (pad_len n l (by simpa using h))
theorem lay_sl (ad : Nat → Nat → Nat) : ∀ (as : List PV) (i : Nat) (v : PV), (lay as)[i]? = some (some v) → (lg_sl (as.map (cn ad)))[i]? = some (.val (cn ad v))
  | [], i, v, h => by cases h
  | a :: as, i, v, h => by
    have e : lg_sl ((a :: as).map (cn ad)) = (if (cn ad a).category = 2 then [.val (cn ad a), .second] else [.val (cn ad a)]) ++ lg_sl (as.map (cn ad)) := rfl
    rw [e]
    unfold lay at h
    cases ha : isL a with
    | true =>
      rw [ha] at h
      rw [if_pos ((isL_cat ad a).mpr ha)]
      match i, h with
      | 0, h => cases h; rfl
      | 1, h => cases h
      | i + 2, h => exact lay_sl ad as i v h
    | false =>
      rw [ha] at h
      have h1 := isL_cat1 ad a ha
      rw [if_neg (by omega)]
      match i, h with
      | 0, h => cases h; rfl
      | i + 1, h => exact lay_sl ad as i v h
theorem lay_lsl (ad : Nat → Nat → Nat) : ∀ (as : List PV), (lg_sl (as.map (cn ad))).length = (lay as).length
  | [] => rfl
  | a :: as => by
    have e : lg_sl ((a :: as).map (cn ad)) = (if (cn ad a).category = 2 then [.val (cn ad a), .second] else [.val (cn ad a)]) ++ lg_sl (as.map (cn ad)) := rfl
    have e2 : lay (a :: as) = (bif isL a then some a :: none :: lay as else some a :: lay as) := rfl
    rw [e, List.length_append, lay_lsl ad as, e2]
    cases ha : isL a with
    | true =>
      rw [if_pos ((isL_cat ad a).mpr ha)]
      show 2 + _ = _ + 2
      omega
    | false =>
      have h1 := isL_cat1 ad a ha
      rw [if_neg (by omega)]
      show 1 + _ = _ + 1
      omega
theorem lay_VV {cells : List (Nat × Nat)} : ∀ (as : List PV), (∀ v ∈ as, VV cells v) → Vp cells (lay as)
  | [], _, v, hv => by cases hv
  | a :: as, h, v, hv => by
    unfold lay at hv
    cases ha : isL a with
    | true =>
      rw [ha] at hv
      rcases List.mem_cons.mp hv with q | q
      · cases q; exact h _ List.mem_cons_self
      · rcases List.mem_cons.mp q with q | q
        · cases q
        · exact lay_VV as (fun w hw => h w (List.mem_cons_of_mem _ hw)) v q
    | false =>
      rw [ha] at hv
      rcases List.mem_cons.mp hv with q | q
      · cases q; exact h _ List.mem_cons_self
      · exact lay_VV as (fun w hw => h w (List.mem_cons_of_mem _ hw)) v q
theorem entry_LsO {ad : Nat → Nat → Nat} {as : List PV} {nL : Nat} (h : (lay as).length ≤ nL) : LsO ad ((lg_sl (as.map (cn ad)) ++ List.replicate (nL - (lg_sl (as.map (cn ad))).length) Slot.unset).toArray) nL (pad nL (lay as)) := by
  have hl := lv_entry (as.map (cn ad)) (n := nL) (by rw [lay_lsl]; exact h)
  refine ⟨hl.1, hl.2.1, by rw [pad_len nL _ h]; exact Nat.le_refl _, fun i v hv => ?_⟩
  have h1 := lay_sl ad as i v (pad_get nL _ i v hv)
  have h2 := (List.getElem?_eq_some_iff.mp h1).1
  rw [List.getElem?_toArray, List.getElem?_append_left h2]
  exact h1
theorem entry_Vp {cells : List (Nat × Nat)} {as : List PV} {nL : Nat} (h : ∀ v ∈ as, VV cells v) : Vp cells (pad nL (lay as)) := fun v hv => by
  obtain ⟨i, hi⟩ := List.mem_iff_getElem?.mp hv
  exact lay_VV as h v (List.mem_of_getElem? (pad_get nL _ i v hi))
section SND
variable {mI : Nat → Option (MethodName × ByteArray × Nat × Option FieldType × Nat)} {tb : Tbl} {D : va_G} {cA : Nat → ClassId} {ad : Nat → Nat → Nat} {cells : List (Nat × Nat)} {l : Launch}
def SndF (mI : Nat → Option (MethodName × ByteArray × Nat × Option FieldType × Nat)) (tb : Tbl) (D : va_G) (cA : Nat → ClassId) (ad : Nat → Nat → Nat) (cells : List (Nat × Nat)) (l : Launch) (f : Nat) : Prop :=
  ∀ (k : Cfg) (r0 : Res), evF tb f k = some r0 → ∀ y cc nL rt d, mI k.1 = some (y, cc, nL, rt, d) → ∀ p e s m args below meth c A, Cx D cA y cc nL rt p s m args meth c → (∀ q, s.heap.size ≤ q → A q) → V D cA ad cells l p e s m args below meth c A d r0 nL k.2.1 k.2.2.1 k.2.2.2.1 k.2.2.2.2
theorem met_of (hpl : ∀ m y cc nL rt d, mI m = some (y, cc, nL, rt, d) → plainName y.cls = true) {f : Nat} (ih : SndF mI tb D cA ad cells l f) {m' nL' : Nat} {as : List PV} {S : St} {r : Res} {y : MethodName} {cc : ByteArray} {rt : Option FieldType} {d : Nat} (h : evF tb f (entry m' nL' as S) = some r) (hI : mI m' = some (y, cc, nL', rt, d)) (hlay : (lay as).length ≤ nL') (hv : ∀ v ∈ as, VV cells v) : MetR D cA ad cells l y cc nL' rt d as S r := by
  intro sz
  refine Met.ofW (cc := cc) (maxL := nL') (ret := rt) (hpl _ _ _ _ _ _ hI) rfl ?_
  intro p e s m args below meth c s₁ B hml hq
  obtain ⟨rfl, hsz, ⟨hP, hK, hN⟩, hD0⟩ := hq
  subst hsz
  have hX : Cx D cA y cc nL' rt p s m (as.map (cn ad)).toArray meth c := ⟨B.exec, B.bytes, hml, B.returns, findClass_of_methodNamed B.named, atoms_spec (ws := wsM y cc nL' rt) B.pre, B.notSynchronized, hK, hN⟩
  have hV := ih _ _ h y cc nL' rt d hI p e s m _ below meth c (va_A (wsO cA ad cells S) s.heap.size) hX (fun q hq => Or.inr hq)
  have hW := hV s.heap _ [] (entry_LsO hlay) (entry_Vp hv) (fun v hv => by cases hv) hP hD0.self va_S.rf
  rw [lg_entry_eq]
  exact hW
theorem tR_spec {n : Nat} {r : Res} {q : Option Nat × St} (h : tR n r = some q) : r.2 = q.2 ∧ ((q.1 = none ∧ r.1 = some (.inr (.inr none))) ∨ ∃ i, q.1 = some i ∧ i < cntR n ∧ r.1 = some (.inr (.inr (some (n, i))))) := by
  obtain ⟨v, S⟩ := r
  unfold tR at h
  rcases v with _ | v
  · cases h
  rcases v with x | x | o
  · cases h
  · cases h
  rcases o with _ | ⟨k, i⟩
  · cases h
    exact ⟨rfl, Or.inl ⟨rfl, rfl⟩⟩
  · dsimp only at h
    cases hb : (Nat.beq k n && Nat.blt i (cntR n)) with
    | false => rw [hb] at h; cases h
    | true =>
      rw [hb] at h
      cases h
      obtain ⟨h1, h2⟩ := (Bool.and_eq_true _ _).mp hb
      have e := Nat.eq_of_beq_eq_true h1
      subst e
      exact ⟨rfl, Or.inr ⟨i, rfl, Nat.le_of_ble_eq_true h2, rfl⟩⟩
theorem aok_of (hpl : ∀ m y cc nL rt d, mI m = some (y, cc, nL, rt, d) → plainName y.cls = true) {f : Nat} (ih : SndF mI tb D cA ad cells l f) {mid : Nat} {y : MethodName} {cc : ByteArray} {nL : Nat} {rt : Option FieldType} {d : Nat} (hI : mI mid = some (y, cc, nL, rt, d)) {p : Program} {e : Env} {s : State} {m : MethodId} {args : Array Value} {below : List Frame} {meth : Method} {c : Code} {A : Nat → Prop} (X : Cx D cA y cc nL rt p s m args meth c) (hA : ∀ q, s.heap.size ≤ q → A q) {r0 : Res} : ∀ (a : Act), inp (evF tb f) (evF tb f) a = some r0 → AOK mI D cA ad cells l p e s m args below meth c A d r0 nL mid a := by
  have go : ∀ k : Cfg, evF tb f k = some r0 → VC D cA ad cells l p e s m args below meth c A d r0 nL mid k := fun k hk h => by
    subst h
    exact ih k r0 hk y cc nL rt d hI p e s m args below meth c A X hA
  have met : ∀ (k0 : Cfg) (r : Res), evF tb f k0 = some r → CalOK D cA ad cells l mI k0 r := fun k0 r hk m' as S y' cc' nL' rt' d' e0 hI' hl hv => by
    subst e0
    exact met_of hpl ih hk hI' hl hv
  intro a h
  match a, h with
  | none, h => cases h
  | some (.inl k), h => exact go k h
  | some (.inr (.inl (b, k, k'))), h =>
    refine ⟨fun hb => ?_, fun hb => ?_⟩
    · subst hb
      exact go k h
    · subst hb
      cases k' with
      | none => cases h
      | some k' => exact go k' h
  | some (.inr (.inr (.inl (x, t, k)))), h =>
    have : ∀ (t : List (Int32 × Cfg)), swi (evF tb f) x t k = some r0 → VC D cA ad cells l p e s m args below meth c A d r0 nL mid (swC x t k) := by
      intro t
      induction t with
      | nil => exact go k
      | cons q t iht =>
        intro h
        obtain ⟨k1, c1⟩ := q
        unfold swi at h
        unfold swC
        by_cases hx : x = k1
        · rw [decide_eq_true hx] at h
          rw [if_pos hx]
          exact go c1 h
        · rw [decide_eq_false hx] at h
          rw [if_neg hx]
          exact iht h
    exact this t h
  | some (.inr (.inr (.inr (.inl r)))), h => exact Option.some.inj h
  | some (.inr (.inr (.inr (.inr (0, k0, k))))), h =>
    obtain ⟨S', h1, h2⟩ := Option.bind_eq_some_iff.mp h
    obtain ⟨r, h3, h4⟩ := Option.bind_eq_some_iff.mp h1
    obtain ⟨v, S2⟩ := r
    rcases v with _ | v
    · cases h4
      exact ⟨_, met _ _ h3, rfl, go _ h2⟩
    · cases h4
  | some (.inr (.inr (.inr (.inr (1, k0, k))))), h =>
    obtain ⟨q, h1, h2⟩ := Option.bind_eq_some_iff.mp h
    obtain ⟨r, h3, h4⟩ := Option.bind_eq_some_iff.mp h1
    obtain ⟨v, S2⟩ := r
    rcases v with _ | v
    · cases h4
    rcases v with x | x | o
    · cases h4
      exact ⟨_, met _ _ h3, ⟨x, rfl⟩, go _ h2⟩
    · cases h4
    · cases h4
  | some (.inr (.inr (.inr (.inr (n + 2, k0, k))))), h =>
    obtain ⟨q, h1, h2⟩ := Option.bind_eq_some_iff.mp h
    obtain ⟨r, h3, h4⟩ := Option.bind_eq_some_iff.mp h1
    obtain ⟨v, S2⟩ := r
    obtain ⟨e1, e2⟩ := tR_spec h4
    obtain ⟨q1, q2⟩ := q
    dsimp only at e1 e2 h2
    subst e1
    rcases e2 with ⟨rfl, rfl⟩ | ⟨i, rfl, hi, rfl⟩
    · exact ⟨_, met _ _ h3, Or.inl rfl, go _ h2⟩
    · exact ⟨_, met _ _ h3, Or.inr ⟨i, hi, rfl⟩, go _ h2⟩
/-- what runs to an end in the tables runs so on the machine -/
theorem snd_all (hpl : ∀ m y cc nL rt d, mI m = some (y, cc, nL, rt, d) → plainName y.cls = true) (hOS : ∀ m pc o y cc nL rt d, mI m = some (y, cc, nL, rt, d) → tb m pc = some o → OS mI y cc nL rt d pc o) (hC : Cl cells) : ∀ f, SndF mI tb D cA ad cells l f := by
  intro f
  induction f with
  | zero => intro k r0 h; cases h
  | succ f ih =>
    intro k r0 h y cc nL rt d hI p e s m args below meth c A X hA
    obtain ⟨mid, pc, pl, st, S⟩ := k
    have h : inp (evF tb f) (evF tb f) (stp tb (mid, pc, pl, st, S)) = some r0 := h
    unfold stp at h
    dsimp only at h
    cases ho : tb mid pc with
    | none => rw [ho] at h; cases h
    | some o =>
      rw [ho] at h
      exact hOS mid pc o y cc nL rt d hI ho D cA ad cells l p e s m args below meth c A r0 mid pl st S hC X hA (aok_of hpl ih hI X hA _ h)
theorem met_run (hpl : ∀ m y cc nL rt d, mI m = some (y, cc, nL, rt, d) → plainName y.cls = true) (hOS : ∀ m pc o y cc nL rt d, mI m = some (y, cc, nL, rt, d) → tb m pc = some o → OS mI y cc nL rt d pc o) (hC : Cl cells) {m' nL' : Nat} {as : List PV} {S : St} {r : Res} {y : MethodName} {cc : ByteArray} {rt : Option FieldType} {d : Nat} (h : RunT tb (entry m' nL' as S) = some r) (hI : mI m' = some (y, cc, nL', rt, d)) (hlay : (lay as).length ≤ nL') (hv : ∀ v ∈ as, VV cells v) : MetR D cA ad cells l y cc nL' rt d as S r := by
  obtain ⟨f, hf⟩ := (RunT_iff tb _ r).mp h
  exact met_of hpl (snd_all hpl hOS hC f) hf hI hlay hv
end SND
