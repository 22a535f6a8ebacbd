/-! THE PURE MACHINE: values, stores, acts, runs -/
abbrev PV : Type := Int32 ⊕ (Int64 ⊕ Option (Nat × Nat))
abbrev vI (x : Int32) : PV := .inl x
abbrev vL (x : Int64) : PV := .inr (.inl x)
abbrev vR (k i : Nat) : PV := .inr (.inr (some (k, i)))
abbrev vN : PV := .inr (.inr none)
abbrev vO (o : Option (Nat × Nat)) : PV := .inr (.inr o)
/-- field (64 times the class and the place), object, place in the row -/
abbrev St : Type := Nat → Nat → Nat → Int32
abbrev Pl : Type := List (Option PV)
/-- method, pc, locals, stack, store -/
abbrev Cfg : Type := Nat × Nat × Pl × List PV × St
abbrev Res : Type := Option PV × St
def st_up (S : St) (f i : Nat) (g : Nat → Int32) : St := fun f' i' => if f' = f ∧ i' = i then g else S f' i'
def st_wr (S : St) (f i j : Nat) (v : Int32) : St := st_up S f i (upd (S f i) j v)
/-- an act: none: it stands still; on; one of two (or a guard); a switch; an answer; a call of a method with void (0), int (1), reference (2 + kind) -/
abbrev ActE : Type := Cfg ⊕ ((Bool × Cfg × Option Cfg) ⊕ ((Int32 × List (Int32 × Cfg) × Cfg) ⊕ (Res ⊕ (Nat × Cfg × (Option PV → St → Cfg)))))
abbrev Act : Type := Option ActE
/-- how many objects there are of the kinds that methods answer -/
def cntR (kd : Nat) : Nat := bif Nat.beq kd 0 then 200 else bif Nat.beq kd 3 then 5 else 0
def tV (q : Res) : Option St := match q.1 with
  | none => some q.2
  | some _ => none
def tI (q : Res) : Option (Int32 × St) := match q.1 with
  | some (.inl x) => some (x, q.2)
  | _ => none
def tR (kd : Nat) (q : Res) : Option (Option Nat × St) := match q.1 with
  | some (.inr (.inr none)) => some (none, q.2)
  | some (.inr (.inr (some (k, i)))) => bif Nat.beq k kd && Nat.blt i (cntR kd) then some (some i, q.2) else none
  | _ => none
def toV (o : Option Res) : Option St := o.bind tV
def toI (o : Option Res) : Option (Int32 × St) := o.bind tI
def toR (kd : Nat) (o : Option Res) : Option (Option Nat × St) := o.bind (tR kd)
def swi (rec : Cfg → Option Res) (x : Int32) : List (Int32 × Cfg) → Cfg → Option Res
  | [], d => rec d
  | (k, c) :: t, d => bif decide (x = k) then rec c else swi rec x t d
def cal (rc rk : Cfg → Option Res) : Nat → Cfg → (Option PV → St → Cfg) → Option Res
  | 0, c0, k => (toV (rc c0)).bind fun q => rk (k none q)
  | 1, c0, k => (toI (rc c0)).bind fun q => rk (k (some (vI q.1)) q.2)
  | n + 2, c0, k => (toR n (rc c0)).bind fun q => q.1.elim (rk (k (some vN) q.2)) (fun i => rk (k (some (vR n i)) q.2))
def inp (rc rk : Cfg → Option Res) : Act → Option Res
  | none => none
  | some (.inl c) => rk c
  | some (.inr (.inl (b, c, d))) => bif b then rk c else d.elim none rk
  | some (.inr (.inr (.inl (x, l, d)))) => swi rk x l d
  | some (.inr (.inr (.inr (.inl r)))) => some r
  | some (.inr (.inr (.inr (.inr (t, c0, k))))) => cal rc rk t c0 k
abbrev Op : Type := Nat → Pl → List PV → St → Act
/-- which op stands at a method's pc -/
abbrev Tbl : Type := Nat → Nat → Option Op
def stp (tb : Tbl) (c : Cfg) : Act := (tb c.1 c.2.1).elim none (fun o => o c.1 c.2.2.1 c.2.2.2.1 c.2.2.2.2)
def evF (tb : Tbl) : Nat → Cfg → Option Res
  | 0, _ => none
  | f + 1, c => inp (evF tb f) (evF tb f) (stp tb c)
theorem bind_le {α β : Type} {a a' : Option α} {k k' : α → Option β} (ha : ∀ x, a = some x → a' = some x) (hk : ∀ x y, k x = some y → k' x = some y) : ∀ y, a.bind k = some y → a'.bind k' = some y := by
  intro y h
  obtain ⟨x, h1, h2⟩ := Option.bind_eq_some_iff.mp h
  rw [ha x h1]
  exact hk x y h2
theorem swi_le {r r' : Cfg → Option Res} (h : ∀ c y, r c = some y → r' c = some y) (x : Int32) : ∀ (l : List (Int32 × Cfg)) (d : Cfg) (y : Res), swi r x l d = some y → swi r' x l d = some y
  | [], d, y, q => h _ _ q
  | (k, c) :: t, d, y, q => by
    unfold swi at q ⊢
    cases hd : decide (x = k) with
    | true => rw [hd] at q; exact h _ _ q
    | false => rw [hd] at q; exact swi_le h x t d y q
theorem cal_le {r r' s s' : Cfg → Option Res} (h : ∀ c y, r c = some y → r' c = some y) (hs : ∀ c y, s c = some y → s' c = some y) : ∀ (t : Nat) (c0 : Cfg) (k : Option PV → St → Cfg) (y : Res), cal r s t c0 k = some y → cal r' s' t c0 k = some y
  | 0, c0, k, y, q => bind_le (bind_le (h c0) (fun _ _ z => z)) (fun x y z => hs _ _ z) y q
  | 1, c0, k, y, q => bind_le (bind_le (h c0) (fun _ _ z => z)) (fun x y z => hs _ _ z) y q
  | n + 2, c0, k, y, q => bind_le (bind_le (h c0) (fun _ _ z => z)) (fun x y z => by
      obtain ⟨o, S⟩ := x
      cases o with
      | none => exact hs _ _ z
      | some i => exact hs _ _ z) y q
theorem inp_le {r r' s s' : Cfg → Option Res} (h : ∀ c y, r c = some y → r' c = some y) (hs : ∀ c y, s c = some y → s' c = some y) : ∀ (a : Act) (y : Res), inp r s a = some y → inp r' s' a = some y
  | none, y, q => by cases q
  | some (.inl c), y, q => hs _ _ q
  | some (.inr (.inl (b, c, d))), y, q => by
    cases b with
    | true => exact hs _ _ q
    | false =>
      cases d with
      | none => cases q
      | some d => exact hs _ _ q
  | some (.inr (.inr (.inl (x, l, d)))), y, q => swi_le hs x l d y q
  | some (.inr (.inr (.inr (.inl r)))), y, q => q
  | some (.inr (.inr (.inr (.inr (t, c0, k))))), y, q => cal_le h hs t c0 k y q
theorem evF_le (tb : Tbl) : ∀ (f : Nat) (c : Cfg) (y : Res), evF tb f c = some y → evF tb (f + 1) c = some y
  | 0, c, y, q => by cases q
  | f + 1, c, y, q => inp_le (evF_le tb f) (evF_le tb f) _ y q
theorem evF_mono (tb : Tbl) {f g : Nat} (h : f ≤ g) (c : Cfg) (y : Res) (q : evF tb f c = some y) : evF tb g c = some y := by
  induction h with
  | refl => exact q
  | step _ ih => exact evF_le tb _ c y ih
noncomputable def RunT (tb : Tbl) (c : Cfg) : Option Res := @dite _ (∃ y, ∃ f, evF tb f c = some y) (Classical.propDecidable _) (fun h => some h.choose) (fun _ => none)
theorem RunT_iff (tb : Tbl) (c : Cfg) (y : Res) : RunT tb c = some y ↔ ∃ f, evF tb f c = some y := by
  unfold RunT
  by_cases h : ∃ y, ∃ f, evF tb f c = some y
  · rw [dif_pos h]
    obtain ⟨g, hg⟩ := h.choose_spec
    constructor
    · intro q
      cases q
      exact ⟨g, hg⟩
    · rintro ⟨f, hf⟩
      have h1 := evF_mono tb (Nat.le_max_left f g) c _ hf
      have h2 := evF_mono tb (Nat.le_max_right f g) c _ hg
      rw [h1] at h2
      exact congrArg some (Option.some.inj h2).symm
  · rw [dif_neg h]
    constructor
    · intro q; cases q
    · intro q; exact absurd ⟨y, q⟩ h
theorem bind_co {α β : Type} (tb : Tbl) {A : Nat → Option α} {A' : Option α} {k : Nat → α → Option β} {k' : α → Option β} (hA : ∀ x, A' = some x → ∃ f, A f = some x) (mA : ∀ f g x, f ≤ g → A f = some x → A g = some x) (mk : ∀ f g x y, f ≤ g → k f x = some y → k g x = some y) (hk : ∀ x y, k' x = some y → ∃ f, k f x = some y) (y : β) (h : A'.bind k' = some y) : ∃ f, (A f).bind (k f) = some y := by
  obtain ⟨x, h1, h2⟩ := Option.bind_eq_some_iff.mp h
  obtain ⟨f, hf⟩ := hA x h1
  obtain ⟨g, hg⟩ := hk x y h2
  refine ⟨max f g, ?_⟩
  rw [mA f _ x (Nat.le_max_left f g) hf]
  exact mk g _ x y (Nat.le_max_right f g) hg
theorem swi_co (tb : Tbl) (x : Int32) : ∀ (l : List (Int32 × Cfg)) (d : Cfg) (y : Res), swi (RunT tb) x l d = some y → ∃ f, swi (evF tb f) x l d = some y
  | [], d, y, q => (RunT_iff tb d y).mp q
  | (k, c) :: t, d, y, q => by
    unfold swi at q ⊢
    cases hd : decide (x = k) with
    | true => rw [hd] at q; exact (RunT_iff tb c y).mp q
    | false => rw [hd] at q; exact swi_co tb x t d y q
theorem to_co {α : Type} (tb : Tbl) (T : Option Res → Option α) (hT : ∀ o x, T o = some x → ∃ r, o = some r) (c : Cfg) (x : α) (h : T (RunT tb c) = some x) : ∃ f, T (evF tb f c) = some x := by
  obtain ⟨r, hr⟩ := hT _ _ h
  obtain ⟨f, hf⟩ := (RunT_iff tb c r).mp hr
  exact ⟨f, by rw [hf, ← hr]; exact h⟩
theorem to_mo {α : Type} (tb : Tbl) (T : Option Res → Option α) (hT : ∀ o x, T o = some x → ∃ r, o = some r) (c : Cfg) (f g : Nat) (x : α) (hl : f ≤ g) (h : T (evF tb f c) = some x) : T (evF tb g c) = some x := by
  obtain ⟨r, hr⟩ := hT _ _ h
  rw [evF_mono tb hl c r hr, ← hr]
  exact h
theorem toV_s (o : Option Res) (x : St) (h : toV o = some x) : ∃ r, o = some r := by
  obtain ⟨r, h1, -⟩ := Option.bind_eq_some_iff.mp h
  exact ⟨r, h1⟩
theorem toI_s (o : Option Res) (x : Int32 × St) (h : toI o = some x) : ∃ r, o = some r := by
  obtain ⟨r, h1, -⟩ := Option.bind_eq_some_iff.mp h
  exact ⟨r, h1⟩
theorem toR_s (n : Nat) (o : Option Res) (x : Option Nat × St) (h : toR n o = some x) : ∃ r, o = some r := by
  obtain ⟨r, h1, -⟩ := Option.bind_eq_some_iff.mp h
  exact ⟨r, h1⟩
theorem cal_co (tb : Tbl) : ∀ (t : Nat) (c0 : Cfg) (k : Option PV → St → Cfg) (y : Res), cal (RunT tb) (RunT tb) t c0 k = some y → ∃ f, cal (evF tb f) (evF tb f) t c0 k = some y
  | 0, c0, k, y, q => bind_co tb (A := fun f => toV (evF tb f c0)) (k := fun f q => evF tb f (k none q)) (to_co tb toV toV_s c0) (fun f g x hl h => to_mo tb toV toV_s c0 f g x hl h) (fun f g x y hl h => evF_mono tb hl _ y h) (fun x y h => (RunT_iff tb _ y).mp h) y q
  | 1, c0, k, y, q => bind_co tb (A := fun f => toI (evF tb f c0)) (k := fun f q => evF tb f (k (some (vI q.1)) q.2)) (to_co tb toI toI_s c0) (fun f g x hl h => to_mo tb toI toI_s c0 f g x hl h) (fun f g x y hl h => evF_mono tb hl _ y h) (fun x y h => (RunT_iff tb _ y).mp h) y q
  | n + 2, c0, k, y, q => bind_co tb (A := fun f => toR n (evF tb f c0)) (k := fun f q => q.1.elim (evF tb f (k (some vN) q.2)) (fun i => evF tb f (k (some (vR n i)) q.2))) (to_co tb (toR n) (toR_s n) c0) (fun f g x hl h => to_mo tb (toR n) (toR_s n) c0 f g x hl h) (fun f g x y hl h => by
      obtain ⟨o, S⟩ := x
      cases o with
      | none => exact evF_mono tb hl _ y h
      | some i => exact evF_mono tb hl _ y h) (fun x y h => by
      obtain ⟨o, S⟩ := x
      cases o with
      | none => exact (RunT_iff tb _ y).mp h
      | some i => exact (RunT_iff tb _ y).mp h) y q
theorem inp_co (tb : Tbl) : ∀ (a : Act) (y : Res), inp (RunT tb) (RunT tb) a = some y → ∃ f, inp (evF tb f) (evF tb f) a = some y
  | none, y, q => by cases q
  | some (.inl c), y, q => (RunT_iff tb c y).mp q
  | some (.inr (.inl (b, c, d))), y, q => by
    cases b with
    | true => exact (RunT_iff tb c y).mp q
    | false =>
      cases d with
      | none => cases q
      | some d => exact (RunT_iff tb d y).mp q
  | some (.inr (.inr (.inl (x, l, d)))), y, q => swi_co tb x l d y q
  | some (.inr (.inr (.inr (.inl r)))), y, q => ⟨0, q⟩
  | some (.inr (.inr (.inr (.inr (t, c0, k))))), y, q => cal_co tb t c0 k y q
theorem ev_le_run (tb : Tbl) (f : Nat) (c : Cfg) (y : Res) (h : evF tb f c = some y) : RunT tb c = some y := (RunT_iff tb c y).mpr ⟨f, h⟩
theorem opt_ext {α : Type} {a b : Option α} (h : ∀ y, a = some y ↔ b = some y) : a = b := by
  cases a with
  | none =>
    cases b with
    | none => rfl
    | some y => exact ((h y).mpr rfl)
  | some x => exact ((h x).mp rfl).symm
theorem RunT_eq (tb : Tbl) (c : Cfg) : RunT tb c = inp (RunT tb) (RunT tb) (stp tb c) := opt_ext fun y => by
  constructor
  · intro h
    obtain ⟨f, hf⟩ := (RunT_iff tb c y).mp h
    cases f with
    | zero => cases hf
    | succ f => exact inp_le (ev_le_run tb f) (ev_le_run tb f) _ y hf
  · intro h
    obtain ⟨f, hf⟩ := inp_co tb _ y h
    exact (RunT_iff tb c y).mpr ⟨f + 1, hf⟩
/-- n steps laid out, up to the cuts, behind them what is made of the answer -/
def swiT {α : Type} (rk : Cfg → Option α) (x : Int32) : List (Int32 × Cfg) → Cfg → Option α
  | [], d => rk d
  | (k, c) :: t, d => bif decide (x = k) then rk c else swiT rk x t d
def calT {α : Type} (rc : Cfg → Option Res) (rk : Cfg → Option α) : Nat → Cfg → (Option PV → St → Cfg) → Option α
  | 0, c0, k => (toV (rc c0)).bind fun q => rk (k none q)
  | 1, c0, k => (toI (rc c0)).bind fun q => rk (k (some (vI q.1)) q.2)
  | n + 2, c0, k => (toR n (rc c0)).bind fun q => q.1.elim (rk (k (some vN) q.2)) (fun i => rk (k (some (vR n i)) q.2))
def inpT {α : Type} (T : Res → Option α) (rc : Cfg → Option Res) (rk : Cfg → Option α) : Act → Option α
  | none => none
  | some (.inl c) => rk c
  | some (.inr (.inl (b, c, d))) => bif b then rk c else d.elim none rk
  | some (.inr (.inr (.inl (x, l, d)))) => swiT rk x l d
  | some (.inr (.inr (.inr (.inl r)))) => T r
  | some (.inr (.inr (.inr (.inr (t, c0, k))))) => calT rc rk t c0 k
noncomputable def unr {α : Type} (T : Res → Option α) (tb : Tbl) (cut : Nat → Bool) : Nat → Cfg → Option α
  | 0, c => (RunT tb c).bind T
  | n + 1, c => bif cut c.2.1 then (RunT tb c).bind T else inpT T (RunT tb) (unr T tb cut n) (stp tb c)
theorem swi_T {α : Type} (T : Res → Option α) (r : Cfg → Option Res) (x : Int32) : ∀ (l : List (Int32 × Cfg)) (d : Cfg), (swi r x l d).bind T = swiT (fun c => (r c).bind T) x l d
  | [], d => rfl
  | (k, c) :: t, d => by
    unfold swi swiT
    cases decide (x = k) with
    | true => rfl
    | false => exact swi_T T r x t d
theorem cal_T {α : Type} (T : Res → Option α) (rc r : Cfg → Option Res) : ∀ (t : Nat) (c0 : Cfg) (k : Option PV → St → Cfg), (cal rc r t c0 k).bind T = calT rc (fun c => (r c).bind T) t c0 k
  | 0, c0, k => Option.bind_assoc _ _ _
  | 1, c0, k => Option.bind_assoc _ _ _
  | n + 2, c0, k => (Option.bind_assoc _ _ _).trans (congrArg _ (funext fun q => by
      obtain ⟨o, S⟩ := q
      cases o <;> rfl))
theorem inp_T {α : Type} (T : Res → Option α) (rc r : Cfg → Option Res) : ∀ (a : Act), (inp rc r a).bind T = inpT T rc (fun c => (r c).bind T) a
  | none => rfl
  | some (.inl c) => rfl
  | some (.inr (.inl (b, c, d))) => by cases b <;> cases d <;> rfl
  | some (.inr (.inr (.inl (x, l, d)))) => swi_T T r x l d
  | some (.inr (.inr (.inr (.inl r)))) => rfl
  | some (.inr (.inr (.inr (.inr (t, c0, k))))) => cal_T T rc r t c0 k
theorem unr_eq {α : Type} (T : Res → Option α) (tb : Tbl) (cut : Nat → Bool) : ∀ (n : Nat) (c : Cfg), (RunT tb c).bind T = unr T tb cut n c
  | 0, c => rfl
  | n + 1, c => by
    unfold unr
    cases cut c.2.1 with
    | true => rfl
    | false =>
      rw [RunT_eq tb c, inp_T, funext (unr_eq T tb cut n)]
      rfl
theorem unr_go {α : Type} (T : Res → Option α) (tb : Tbl) (cut : Nat → Bool) (n : Nat) (c : Cfg) : (RunT tb c).bind T = inpT T (RunT tb) (unr T tb cut n) (stp tb c) := by
  rw [RunT_eq tb c, inp_T, funext (unr_eq T tb cut n)]
