/-! THE STORE IN THE HEAP -/
def tysL (cA : Nat → ClassId) : List (ClassId × FieldType) := [(cA 0, .int), (cA 1, .boolean), (cA 2, .object RX0), (cA 3, .object RX3), (cA 4, .object RX8)]
def cn (ad : Nat → Nat → Nat) : PV → Value
  | .inl x => .int x
  | .inr (.inl x) => .long x
  | .inr (.inr none) => .null
  | .inr (.inr (some (k, i))) => .ref (ad k i)
/-- which class of rows -/
def acN (k : Nat) : Nat := if (gA k).1 = 2 then 0 else if (gA k).1 = 3 then 1 else if (gA k).2.2.1 = 0 then 2 else if (gA k).2.2.1 = 3 then 3 else 4
def fv (ad : Nat → Nat → Nat) (S : St) (f i : Nat) : Value := if (gF f).1 = 1 then .ref (ad (gF f).2.1 (i + (gF f).2.2.1)) else if (gF f).1 = 0 ∨ (gF f).1 = 5 then .int (S f i 0) else .ref (ad (1000 + f) i)
def nfl (k : Nat) : Nat := ((gN gT k).getD []).length
def ct (cA : Nat → ClassId) (ad : Nat → Nat → Nat) (S : St) (k i : Nat) : va_E :=
  if 1000 ≤ k then
    if (gA k).1 = 4 then .inl (cA (acN k), (gA k).2.1, .inr (.inr (.inr (.inr (fun j => some (ad (gA k).2.2.1 (j + (gA k).2.2.2)))))))
    else .inl (cA (acN k), (gA k).2.1, .inl (fun j => S (k - 1000) i j))
  else .inr (k, (List.range (nfl k)).map (fun j => fv ad S (64 * k + j) i))
def wsO (cA : Nat → ClassId) (ad : Nat → Nat → Nat) (cells : List (Nat × Nat)) (S : St) : va_W := cells.map (fun q => (ad q.1 q.2, ct cA ad S q.1 q.2))
def VV (cells : List (Nat × Nat)) : PV → Prop
  | .inr (.inr (some (k, i))) => (k, i) ∈ cells
  | _ => True
def Vp (cells : List (Nat × Nat)) (pl : Pl) : Prop := ∀ v, some v ∈ pl → VV cells v
def Vs (cells : List (Nat × Nat)) (st : List PV) : Prop := ∀ v, v ∈ st → VV cells v
/-- what the cells lead to is among them -/
def Cl (cells : List (Nat × Nat)) : Prop :=
  (∀ k i, (k, i) ∈ cells → k < 1000 → k < 13) ∧
  (∀ k i j, (k, i) ∈ cells → k < 1000 → j < nfl k → (gF (64 * k + j)).1 = 1 → ((gF (64 * k + j)).2.1, i + (gF (64 * k + j)).2.2.1) ∈ cells) ∧
  (∀ k i j, (k, i) ∈ cells → k < 1000 → j < nfl k → 2 ≤ (gF (64 * k + j)).1 → (gF (64 * k + j)).1 ≤ 4 → (1000 + (64 * k + j), i) ∈ cells) ∧
  (∀ k i j, (k, i) ∈ cells → (gA k).1 = 4 → j < (gA k).2.1 → ((gA k).2.2.1, j + (gA k).2.2.2) ∈ cells) ∧
  (∀ k i n, (k, i) ∈ cells → k < 12 → n < 12 → ∀ j, j < (gN gCnt n).getD 0 → (n, j) ∈ cells) ∧
  (∀ k i, (k, i) ∈ cells → 1000 ≤ k → 2 ≤ (gA k).1 ∧ (gA k).1 ≤ 4)
def LsO (ad : Nat → Nat → Nat) (ls : Array Slot) (nL : Nat) (pl : Pl) : Prop := ls.size = nL ∧ lv_wf ls ∧ pl.length ≤ nL ∧ ∀ (i : Nat) (v : PV), pl[i]? = some (some v) → ls[i]? = some (.val (cn ad v))
theorem nth_some {pl : Pl} : ∀ {i : Nat} {v : PV}, nth pl i = some v → pl[i]? = some (some v) := by
  induction pl with
  | nil => intro i v h; cases h
  | cons a l ih =>
    intro i v h
    cases i with
    | zero => exact congrArg some h
    | succ n => exact ih (i := n) h
theorem nth_mem {pl : Pl} {i : Nat} {v : PV} (h : nth pl i = some v) : some v ∈ pl := List.mem_of_getElem? (nth_some h)
theorem msk_sub : ∀ (bs : List Bool) (pl : Pl) (i : Nat) (v : PV), (msk bs pl)[i]? = some (some v) → pl[i]? = some (some v)
  | [], [], i, v, h => h
  | _ :: _, [], i, v, h => h
  | [], _ :: _, i, v, h => h
  | b :: bs, a :: l, 0, v, h => by
    cases b with
    | true => exact h
    | false => cases h
  | b :: bs, a :: l, i + 1, v, h => msk_sub bs l i v h
theorem msk_len : ∀ (bs : List Bool) (pl : Pl), (msk bs pl).length = pl.length
  | [], [] => rfl
  | _ :: _, [] => rfl
  | [], _ :: _ => rfl
  | b :: bs, a :: l => congrArg (· + 1) (msk_len bs l)
theorem gom_sub (o : Option (List Bool)) (pl : Pl) (i : Nat) (v : PV) (h : (gom o pl)[i]? = some (some v)) : pl[i]? = some (some v) := by
  cases o with
  | none => exact h
  | some bs => exact msk_sub bs pl i v h
theorem gom_len (o : Option (List Bool)) (pl : Pl) : (gom o pl).length = pl.length := by
  cases o with
  | none => rfl
  | some bs => exact msk_len bs pl
theorem LsO.gom {ad : Nat → Nat → Nat} {ls : Array Slot} {nL : Nat} {pl : Pl} (h : LsO ad ls nL pl) (o : Option (List Bool)) : LsO ad ls nL (gom o pl) :=
  ⟨h.1, h.2.1, by rw [gom_len]; exact h.2.2.1, fun i v q => h.2.2.2 i v (gom_sub o pl i v q)⟩
theorem Vp.gom {cells : List (Nat × Nat)} {pl : Pl} (h : Vp cells pl) (o : Option (List Bool)) : Vp cells (gom o pl) := fun v q => by
  obtain ⟨i, hi⟩ := List.mem_iff_getElem?.mp q
  exact h v (List.mem_of_getElem? (gom_sub o pl i v hi))
/-- the listed locals, as the kit lists them -/
def ents (ad : Nat → Nat → Nat) : Nat → Pl → List (Nat × Value)
  | _, [] => []
  | n, none :: l => ents ad (n + 1) l
  | n, some v :: l => (n, cn ad v) :: ents ad (n + 1) l
theorem ents_mem (ad : Nat → Nat → Nat) : ∀ (pl : Pl) (n i : Nat) (v : PV), pl[i]? = some (some v) → (n + i, cn ad v) ∈ ents ad n pl
  | none :: l, n, 0, v, h => by cases h
  | some w :: l, n, 0, v, h => by cases h; exact List.mem_cons_self
  | none :: l, n, i + 1, v, h => by
    have := ents_mem ad l (n + 1) i v h
    rw [show n + (i + 1) = n + 1 + i by omega]
    exact this
  | some w :: l, n, i + 1, v, h => by
    have := ents_mem ad l (n + 1) i v h
    rw [show n + (i + 1) = n + 1 + i by omega]
    exact List.mem_cons_of_mem _ this
theorem ents_of (ad : Nat → Nat → Nat) : ∀ (pl : Pl) (n : Nat) (q : Nat × Value), q ∈ ents ad n pl → ∃ i v, q = (n + i, cn ad v) ∧ pl[i]? = some (some v)
  | none :: l, n, q, h => by
    obtain ⟨i, v, h1, h2⟩ := ents_of ad l (n + 1) q h
    exact ⟨i + 1, v, by rw [h1, show n + 1 + i = n + (i + 1) by omega], h2⟩
  | some w :: l, n, q, h => by
    rcases List.mem_cons.mp h with h | h
    · exact ⟨0, w, h, rfl⟩
    · obtain ⟨i, v, h1, h2⟩ := ents_of ad l (n + 1) q h
      exact ⟨i + 1, v, by rw [h1, show n + 1 + i = n + (i + 1) by omega], h2⟩
theorem LsO.has {ad : Nat → Nat → Nat} {ls : Array Slot} {nL : Nat} {pl : Pl} (h : LsO ad ls nL pl) : lv_has ls nL (ents ad 0 pl) := ⟨h.1, h.2.1, fun q hq => by
  obtain ⟨i, v, rfl, h2⟩ := ents_of ad pl 0 q hq
  rw [Nat.zero_add]
  exact h.2.2.2 i v h2⟩
theorem isL_cat (ad : Nat → Nat → Nat) (v : PV) : ((cn ad v).category = 2 ↔ isL v = true) := by
  rcases v with x | x | o
  · simp [cn, isL, Value.category]
  · simp [cn, isL, Value.category]
  · cases o with
    | none => simp [cn, isL, Value.category]
    | some q => simp [cn, isL, Value.category]
theorem isL_cat1 (ad : Nat → Nat → Nat) (v : PV) (h : isL v = false) : (cn ad v).category = 1 := by
  rcases lv_cat (cn ad v) with q | q
  · exact q
  · rw [(isL_cat ad v).mp q] at h; cases h
theorem setL_len : ∀ (pl : Pl) (i : Nat) (v : PV), (setL pl i v).length = pl.length
  | [], _, _ => by unfold setL; rfl
  | a :: l, 0, v => by
    unfold setL
    cases isL v with
    | true => cases l <;> rfl
    | false => rfl
  | a :: l, 1, v => by unfold setL; exact congrArg (· + 1) (setL_len l 0 v)
  | a :: l, n + 2, v => by unfold setL; exact congrArg (· + 1) (setL_len l (n + 1) v)
/-- what is known behind a store: the value; else what was known, at another place, not the second half's, not a long's just ahead -/
theorem setL_get : ∀ (pl : Pl) (i : Nat) (v : PV) (j : Nat) (w : PV), (setL pl i v)[j]? = some (some w) → (j = i ∧ w = v) ∨ (pl[j]? = some (some w) ∧ j ≠ i ∧ (j = i + 1 → isL v = false) ∧ (j + 1 = i → isL w = false))
  | [], i, v, j, w, h => by
    unfold setL at h
    cases h
  | a :: l, 0, v, 0, w, h => by
    unfold setL at h
    cases h
    exact Or.inl ⟨rfl, rfl⟩
  | a :: l, 0, v, j + 1, w, h => by
    unfold setL at h
    cases hv : isL v with
    | false =>
      rw [hv] at h
      exact Or.inr ⟨h, by omega, fun _ => rfl, by omega⟩
    | true =>
      rw [hv] at h
      cases l with
      | nil => cases h
      | cons b l =>
        cases j with
        | zero => cases h
        | succ j => exact Or.inr ⟨h, by omega, fun q => by omega, by omega⟩
  | a :: l, 1, v, 0, w, h => by
    unfold setL at h
    cases a with
    | none => cases h
    | some a =>
      cases ha : isL a with
      | true => simp [isLo, ha] at h
      | false =>
        simp [isLo, ha] at h
        subst h
        exact Or.inr ⟨rfl, by omega, by omega, fun _ => ha⟩
  | a :: l, 1, v, j + 1, w, h => by
    unfold setL at h
    rcases setL_get l 0 v j w h with ⟨rfl, rfl⟩ | ⟨h1, h2, h3, h4⟩
    · exact Or.inl ⟨rfl, rfl⟩
    · exact Or.inr ⟨h1, by omega, fun q => h3 (by omega), by omega⟩
  | a :: l, n + 2, v, 0, w, h => by
    unfold setL at h
    exact Or.inr ⟨h, by omega, by omega, by omega⟩
  | a :: l, n + 2, v, j + 1, w, h => by
    unfold setL at h
    rcases setL_get l (n + 1) v j w h with ⟨h1, rfl⟩ | ⟨h1, h2, h3, h4⟩
    · exact Or.inl ⟨by omega, rfl⟩
    · exact Or.inr ⟨h1, by omega, fun q => h3 (by omega), fun q => h4 (by omega)⟩
theorem LsO.set1 {ad : Nat → Nat → Nat} {ls' : Array Slot} {nL i : Nat} {pl : Pl} {v : PV} (hlen : pl.length ≤ nL) (hv : isL v = false)
    (h : lv_has ls' nL ((i, cn ad v) :: (ents ad 0 pl).filter (fun q => !(q.1 == i) && !(q.1 + 1 == i && q.2.category == 2)))) : LsO ad ls' nL (setL pl i v) := by
  refine ⟨h.1, h.2.1, by rw [setL_len]; exact hlen, fun j w hj => ?_⟩
  rcases setL_get pl i v j w hj with ⟨rfl, rfl⟩ | ⟨h1, h2, h3, h4⟩
  · exact h.2.2 _ List.mem_cons_self
  · refine h.2.2 (j, cn ad w) (List.mem_cons_of_mem _ (List.mem_filter.mpr ⟨?_, ?_⟩))
    · have := ents_mem ad pl 0 j w h1
      rwa [Nat.zero_add] at this
    · simp only [Bool.and_eq_true, Bool.not_eq_true', beq_eq_false_iff_ne, ne_eq, Bool.and_eq_false_iff]
      refine ⟨h2, ?_⟩
      by_cases q : j + 1 = i
      · right
        have := h4 q
        rw [isL_cat1 ad w this]
        decide
      · exact Or.inl q
theorem LsO.set2 {ad : Nat → Nat → Nat} {ls' : Array Slot} {nL i : Nat} {pl : Pl} {v : PV} (hlen : pl.length ≤ nL) (hv : isL v = true)
    (h : lv_has ls' nL ((i, cn ad v) :: (ents ad 0 pl).filter (fun q => !(q.1 == i) && (!(q.1 == i + 1) && !(q.1 + 1 == i && q.2.category == 2))))) : LsO ad ls' nL (setL pl i v) := by
  refine ⟨h.1, h.2.1, by rw [setL_len]; exact hlen, fun j w hj => ?_⟩
  rcases setL_get pl i v j w hj with ⟨rfl, rfl⟩ | ⟨h1, h2, h3, h4⟩
  · exact h.2.2 _ List.mem_cons_self
  · refine h.2.2 (j, cn ad w) (List.mem_cons_of_mem _ (List.mem_filter.mpr ⟨?_, ?_⟩))
    · have := ents_mem ad pl 0 j w h1
      rwa [Nat.zero_add] at this
    · simp only [Bool.and_eq_true, Bool.not_eq_true', beq_eq_false_iff_ne, ne_eq, Bool.and_eq_false_iff]
      refine ⟨h2, fun q => ?_, ?_⟩
      · rw [h3 q] at hv; cases hv
      by_cases q : j + 1 = i
      · right
        have := h4 q
        rw [isL_cat1 ad w this]
        decide
      · exact Or.inl q
theorem Vp.set {cells : List (Nat × Nat)} {pl : Pl} {i : Nat} {v : PV} (h : Vp cells pl) (hv : VV cells v) : Vp cells (setL pl i v) := fun w hw => by
  obtain ⟨j, hj⟩ := List.mem_iff_getElem?.mp hw
  rcases setL_get pl i v j w hj with ⟨-, rfl⟩ | ⟨h1, -⟩
  · exact hv
  · exact h w (List.mem_of_getElem? h1)
theorem wsO_at {cA : Nat → ClassId} {ad : Nat → Nat → Nat} {cells : List (Nat × Nat)} {k i : Nat} (h : (k, i) ∈ cells) (S : St) : ∃ q0 : Nat, cells[q0]? = some (k, i) ∧ (wsO cA ad cells S)[q0]? = some (ad k i, ct cA ad S k i) := by
  obtain ⟨q0, hq⟩ := List.mem_iff_getElem?.mp h
  exact ⟨q0, hq, by unfold wsO; rw [List.getElem?_map, hq]; rfl⟩
theorem wsO_ad {cA : Nat → ClassId} {ad : Nat → Nat → Nat} {cells : List (Nat × Nat)} {S : St} {j : Nat} {p : Nat × va_E} (h : (wsO cA ad cells S)[j]? = some p) : ∃ (k i : Nat), cells[j]? = some (k, i) ∧ p = (ad k i, ct cA ad S k i) := by
  unfold wsO at h
  rw [List.getElem?_map] at h
  cases hc : cells[j]? with
  | none => rw [hc] at h; cases h
  | some q =>
    rw [hc] at h
    exact ⟨q.1, q.2, rfl, (Option.some.inj h).symm⟩
theorem wsO_D {cA : Nat → ClassId} {ad : Nat → Nat → Nat} {cells : List (Nat × Nat)} {S S' : St} {A : Nat → Prop} (h : va_D A (wsO cA ad cells S)) : va_D A (wsO cA ad cells S') := by
  have key : ∀ (j : Nat) (p : Nat × va_E), (wsO cA ad cells S')[j]? = some p → ∃ p', (wsO cA ad cells S)[j]? = some p' ∧ p'.1 = p.1 := fun j p hp => by
    obtain ⟨k, i, h1, rfl⟩ := wsO_ad hp
    exact ⟨(ad k i, ct cA ad S k i), by unfold wsO; rw [List.getElem?_map, h1]; rfl, rfl⟩
  refine ⟨fun i j p q hp hq e => ?_, fun j p hp => ?_⟩
  · obtain ⟨p', a1, a2⟩ := key i p hp
    obtain ⟨q', b1, b2⟩ := key j q hq
    exact h.1 i j p' q' a1 b1 (by rw [a2, b2, e])
  · obtain ⟨p', a1, a2⟩ := key j p hp
    rw [← a2]
    exact h.2 j p' a1
/-- one cell changes -/
theorem wsO_set {cA : Nat → ClassId} {ad : Nat → Nat → Nat} {cells : List (Nat × Nat)} {S S' : St} {A : Nat → Prop} {q0 k i : Nat} {e : va_E} (hD : va_D A (wsO cA ad cells S)) (hq : cells[q0]? = some (k, i)) (he : e = ct cA ad S' k i) (ho : ∀ k' i', (k', i') ∈ cells → (k', i') ≠ (k, i) → ct cA ad S' k' i' = ct cA ad S k' i') : (wsO cA ad cells S).set q0 (ad k i, e) = wsO cA ad cells S' := by
  apply List.ext_getElem?
  intro j
  by_cases hj : j = q0
  · subst hj
    have hl : j < (wsO cA ad cells S).length := by
      unfold wsO
      rw [List.length_map]
      exact (List.getElem?_eq_some_iff.mp hq).1
    rw [List.getElem?_set_self hl]
    unfold wsO
    rw [List.getElem?_map, hq, he]
    rfl
  · rw [List.getElem?_set_ne (fun q => hj q.symm)]
    unfold wsO
    rw [List.getElem?_map, List.getElem?_map]
    cases hc : cells[j]? with
    | none => rfl
    | some q =>
      obtain ⟨k', i'⟩ := q
      have hne : (k', i') ≠ (k, i) := fun z => by
        have h1 : (wsO cA ad cells S)[j]? = some (ad k i, ct cA ad S k i) := by unfold wsO; rw [List.getElem?_map, hc, z]; rfl
        have h2 : (wsO cA ad cells S)[q0]? = some (ad k i, ct cA ad S k i) := by unfold wsO; rw [List.getElem?_map, hq]; rfl
        exact hj (hD.1 j q0 _ _ h1 h2 rfl)
      show some (ad k' i', ct cA ad S k' i') = some (ad k' i', ct cA ad S' k' i')
      rw [ho k' i' (List.mem_of_getElem? hc) hne]
theorem gA_f (f : Nat) : gA (1000 + f) = gF f := by
  unfold gA
  rw [show Nat.ble 1000 (1000 + f) = true from Nat.ble_eq_true_of_le (Nat.le_add_right _ _), Nat.add_sub_cancel_left]
  rfl
theorem st_wr_ne {S : St} {f i j f' i' : Nat} {v : Int32} (h : ¬ (f' = f ∧ i' = i)) : st_wr S f i j v f' i' = S f' i' := by
  unfold st_wr st_up
  rw [if_neg h]
theorem st_up_ne {S : St} {f i f' i' : Nat} {g : Nat → Int32} (h : ¬ (f' = f ∧ i' = i)) : st_up S f i g f' i' = S f' i' := by
  unfold st_up
  rw [if_neg h]
theorem st_up_eq {S : St} {f i : Nat} {g : Nat → Int32} : st_up S f i g f i = g := by
  unfold st_up
  rw [if_pos ⟨rfl, rfl⟩]
theorem st_wr_eq {S : St} {f i j : Nat} {v : Int32} : st_wr S f i j v f i = upd (S f i) j v := st_up_eq
theorem fv_up {ad : Nat → Nat → Nat} {S : St} {f i : Nat} {g : Nat → Int32} {f' i' : Nat} (h : ¬ (f' = f ∧ i' = i) ∨ (gF f).1 ≠ 0 ∧ (gF f).1 ≠ 5) : fv ad (st_up S f i g) f' i' = fv ad S f' i' := by
  unfold fv
  by_cases e : f' = f ∧ i' = i
  · obtain ⟨rfl, rfl⟩ := e
    rcases h with h | ⟨h1, h2⟩
    · exact absurd ⟨rfl, rfl⟩ h
    · have hn : ¬ ((gF f').1 = 0 ∨ (gF f').1 = 5) := fun q => q.elim h1 h2
      simp only [if_neg hn]
  · rw [st_up_ne e]
/-- a field of an object changes -/
theorem ct_put {cA : Nat → ClassId} {ad : Nat → Nat → Nat} {S : St} {ci k i : Nat} {x : Int32} (hci : ci < 1000) (hk : k < nfl ci) (hk64 : k < 64) (hg : (gF (64 * ci + k)).1 = 0 ∨ (gF (64 * ci + k)).1 = 5) :
    Sum.inr (ci, ((List.range (nfl ci)).map (fun j => fv ad S (64 * ci + j) i)).set k (.int x)) = ct cA ad (st_wr S (64 * ci + k) i 0 x) ci i := by
  unfold ct
  rw [if_neg (by omega)]
  congr 2
  apply List.ext_getElem?
  intro j
  by_cases hj : j = k
  · subst hj
    rw [List.getElem?_set_self (by simpa using hk), List.getElem?_map, List.getElem?_range hk]
    show _ = some (fv ad (st_wr S (64 * ci + j) i 0 x) (64 * ci + j) i)
    unfold fv
    rw [if_neg (by rcases hg with q | q <;> rw [q] <;> decide), if_pos hg, st_wr_eq]
    rfl
  · rw [List.getElem?_set_ne (fun q => hj q.symm), List.getElem?_map, List.getElem?_map]
    cases hr : (List.range (nfl ci))[j]? with
    | none => rfl
    | some z =>
      have hz : z = j := by
        obtain ⟨h1, h2⟩ := List.getElem?_eq_some_iff.mp hr
        rw [← h2]; simp
      subst hz
      show some (fv ad S (64 * ci + z) i) = some (fv ad (st_wr S (64 * ci + k) i 0 x) (64 * ci + z) i)
      unfold st_wr
      rw [fv_up (Or.inl (fun q => hj (by omega)))]
theorem ct_put_ne {cA : Nat → ClassId} {ad : Nat → Nat → Nat} {S : St} {cells : List (Nat × Nat)} {ci k i : Nat} {x : Int32} (hC : Cl cells) (hk64 : k < 64) (hN : ∀ c, nfl c ≤ 64) (hg : (gF (64 * ci + k)).1 = 0 ∨ (gF (64 * ci + k)).1 = 5) :
    ∀ k' i', (k', i') ∈ cells → (k', i') ≠ (ci, i) → ct cA ad (st_wr S (64 * ci + k) i 0 x) k' i' = ct cA ad S k' i' := by
  intro k' i' hm hne
  unfold ct
  by_cases hk : 1000 ≤ k'
  · rw [if_pos hk, if_pos hk]
    by_cases h4 : (gA k').1 = 4
    · rw [if_pos h4, if_pos h4]
    · rw [if_neg h4, if_neg h4]
      have h2 := hC.2.2.2.2.2 k' i' hm hk
      have : k' = 1000 + (k' - 1000) := by omega
      rw [st_wr_ne]
      rintro ⟨q, -⟩
      rw [this, gA_f, q] at h2
      rcases hg with e | e <;> rw [e] at h2 <;> omega
  · rw [if_neg hk, if_neg hk]
    congr 2
    apply List.map_congr_left
    intro j hj
    have hj' := List.mem_range.mp hj
    have := hN k'
    unfold st_wr
    rw [fv_up]
    left
    rintro ⟨q1, q2⟩
    have : k' = ci := by omega
    exact hne (by rw [this, q2])
/-- a row changes -/
theorem ct_row {cA : Nat → ClassId} {ad : Nat → Nat → Nat} {S : St} {k i : Nat} {g : Nat → Int32} (hk : 1000 ≤ k) (h4 : (gA k).1 ≠ 4) : Sum.inl (cA (acN k), (gA k).2.1, Sum.inl g) = ct cA ad (st_up S (k - 1000) i g) k i := by
  unfold ct
  rw [if_pos hk, if_neg h4, st_up_eq]
theorem ct_row_ne {cA : Nat → ClassId} {ad : Nat → Nat → Nat} {S : St} {cells : List (Nat × Nat)} {k i : Nat} {g : Nat → Int32} (hk : 1000 ≤ k) (hg : 2 ≤ (gA k).1 ∧ (gA k).1 ≤ 4) :
    ∀ k' i', (k', i') ∈ cells → (k', i') ≠ (k, i) → ct cA ad (st_up S (k - 1000) i g) k' i' = ct cA ad S k' i' := by
  intro k' i' hm hne
  have e : k = 1000 + (k - 1000) := by omega
  rw [e, gA_f] at hg
  unfold ct
  by_cases hk' : 1000 ≤ k'
  · rw [if_pos hk', if_pos hk']
    by_cases h4 : (gA k').1 = 4
    · rw [if_pos h4, if_pos h4]
    · rw [if_neg h4, if_neg h4, st_up_ne]
      rintro ⟨q1, q2⟩
      exact hne (by rw [q2, show k' = k by omega])
  · rw [if_neg hk', if_neg hk']
    congr 2
    apply List.map_congr_left
    intro j _
    rw [fv_up]
    right
    constructor <;> intro q <;> rw [q] at hg <;> omega
theorem ct_arr {cA : Nat → ClassId} {ad : Nat → Nat → Nat} {S : St} {k i : Nat} (hk : 1000 ≤ k) (h4 : (gA k).1 ≠ 4) : ct cA ad S k i = Sum.inl (cA (acN k), (gA k).2.1, Sum.inl (S (k - 1000) i)) := by
  unfold ct
  rw [if_pos hk, if_neg h4]
theorem ct_obj {cA : Nat → ClassId} {ad : Nat → Nat → Nat} {S : St} {k i : Nat} (hk : k < 1000) : ct cA ad S k i = Sum.inr (k, (List.range (nfl k)).map (fun j => fv ad S (64 * k + j) i)) := by
  unfold ct
  rw [if_neg (by omega)]
theorem gA_ge {k t : Nat} (h : (gA k).1 = t) (ht : t ≠ 9) : 1000 ≤ k := by
  unfold gA at h
  cases hb : Nat.ble 1000 k with
  | true => exact Nat.le_of_ble_eq_true hb
  | false => rw [hb] at h; exact absurd h.symm ht
theorem nfl_le : ∀ c, nfl c ≤ 64 := by
  intro c
  unfold nfl
  have : ∀ n, n < 13 → ((gN gT n).getD []).length ≤ 64 := by decide +kernel
  by_cases h : c < 13
  · exact this c h
  · have : gN gT c = none := by
      have g : ∀ (l : List (List (Nat × Nat × Nat × Nat))) (n : Nat), l.length ≤ n → gN l n = none := by
        intro l
        induction l with
        | nil => intro n _; rfl
        | cons a l ih =>
          intro n hn
          cases n with
          | zero => simp at hn
          | succ n => exact ih n (by simpa using hn)
      exact g gT c (by show 13 ≤ c; omega)
    rw [this]
    simp
