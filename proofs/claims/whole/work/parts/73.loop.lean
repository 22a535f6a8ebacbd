/-! LOOPS THAT FILL A ROW WITH NEW OBJECTS -/
def catN (ws : Nat → va_W) : Nat → va_W
  | 0 => []
  | n + 1 => catN ws n ++ ws n
def catC (cs : Nat → List (Nat × Nat)) : Nat → List (Nat × Nat)
  | 0 => []
  | n + 1 => catC cs n ++ cs n
theorem catN_congr {ws ws' : Nat → va_W} : ∀ (n : Nat), (∀ y, y < n → ws y = ws' y) → catN ws n = catN ws' n
  | 0, _ => rfl
  | n + 1, h => by
    show catN ws n ++ ws n = catN ws' n ++ ws' n
    rw [catN_congr n (fun y hy => h y (by omega)), h n (by omega)]
theorem mem_catC {cs : Nat → List (Nat × Nat)} {q : Nat × Nat} : ∀ (n : Nat), q ∈ catC cs n ↔ ∃ y, y < n ∧ q ∈ cs y
  | 0 => ⟨fun h => absurd h List.not_mem_nil, fun ⟨y, h, _⟩ => absurd h (by omega)⟩
  | n + 1 => by
    show q ∈ catC cs n ++ cs n ↔ _
    rw [List.mem_append, mem_catC n]
    constructor
    · rintro (⟨y, h1, h2⟩ | h)
      · exact ⟨y, by omega, h2⟩
      · exact ⟨n, by omega, h⟩
    · rintro ⟨y, h1, h2⟩
      by_cases e : y = n
      · subst e; exact Or.inr h2
      · exact Or.inl ⟨y, by omega, h2⟩
theorem wsO_app {cA : Nat → ClassId} {ad : Nat → Nat → Nat} {S : St} (a b : List (Nat × Nat)) : wsO cA ad (a ++ b) S = wsO cA ad a S ++ wsO cA ad b S := List.map_append
theorem wsO_cat {cA : Nat → ClassId} {ad : Nat → Nat → Nat} {S : St} {cs : Nat → List (Nat × Nat)} : ∀ n : Nat, wsO cA ad (catC cs n) S = catN (fun y => wsO cA ad (cs y) S) n
  | 0 => rfl
  | n + 1 => by
    show wsO cA ad (catC cs n ++ cs n) S = catN _ n ++ wsO cA ad (cs n) S
    rw [wsO_app, wsO_cat n]
theorem wsO_cons {cA : Nat → ClassId} {ad : Nat → Nat → Nat} {S : St} (k i : Nat) (t : List (Nat × Nat)) : wsO cA ad ((k, i) :: t) S = (ad k i, ct cA ad S k i) :: wsO cA ad t S := rfl
theorem wsO_ext {cA : Nat → ClassId} {ad ad' : Nat → Nat → Nat} {S : St} {cells : List (Nat × Nat)} (h : ∀ k i, (k, i) ∈ cells → ad k i = ad' k i ∧ ct cA ad S k i = ct cA ad' S k i) : wsO cA ad cells S = wsO cA ad' cells S := List.map_congr_left (fun q hq => by
  obtain ⟨h1, h2⟩ := h q.1 q.2 hq
  show (ad q.1 q.2, ct cA ad S q.1 q.2) = (ad' q.1 q.2, ct cA ad' S q.1 q.2)
  rw [h1, h2])
abbrev rowE (f : Nat → Option Nat) : (Nat → Int32) ⊕ ((Nat → Int64) ⊕ ((Nat → UInt32) ⊕ ((Nat → UInt64) ⊕ (Nat → Option Nat)))) := .inr (.inr (.inr (.inr f)))
/-- a row of objects: what lies beyond it is free -/
theorem P_row {D : va_G} {H : Heap} {wa wb : va_W} {a n : Nat} {c : ClassId} {f g : Nat → Option Nat} (hP : va_P D vwCl (wa ++ (a, .inl (c, n, rowE f)) :: wb) H) (h : ∀ j, j < n → f j = g j) : va_P D vwCl (wa ++ (a, .inl (c, n, rowE g)) :: wb) H := by
  refine (P_l hP).app (fun k q hq => ?_)
  cases k with
  | zero =>
    cases hq
    have h1 := P_r hP 0 _ rfl
    have e : vp_cell c (n, rowE f) = vp_cell c (n, rowE g) := by
      show arrV c n (fun j => va_rf (f j)) = arrV c n (fun j => va_rf (g j))
      unfold arrV
      congr 2
      funext j
      show va_rf (f j.val) = va_rf (g j.val)
      rw [h j.val j.isLt]
    show H[a]? = some (vp_cell c (n, rowE g))
    rw [← e]
    exact h1
  | succ k => exact P_r hP (k + 1) q hq
theorem set_mid {α : Type} (a : List α) (x y : α) (b : List α) : (a ++ x :: b).set a.length y = a ++ y :: b := by
  rw [List.set_append_right _ _ (Nat.le_refl _), Nat.sub_self]
  rfl
theorem get_mid {α : Type} (a : List α) (x : α) (b : List α) : (a ++ x :: b)[a.length]? = some x := by
  rw [List.getElem?_append_right (Nat.le_refl _), Nat.sub_self]
  rfl
theorem D_mid {A : Nat → Prop} {wa wb : va_W} {a : Nat} {e e' : va_E} (hD : va_D A (wa ++ (a, e) :: wb)) : va_D A (wa ++ (a, e') :: wb) := by
  have := hD.set (e := e') (get_mid wa (a, e) wb)
  rw [set_mid] at this
  exact this
section LOOP
variable {D : va_G} {cA : Nat → ClassId} {own : String} {cc : ByteArray} {nL : Nat} {p : Program} {l : Launch} {e : Env} {R : Room} {s : State} {m : MethodId} {args : Array Value} {below : List Frame} {meth : Method} {c : Code} {Q : State → Prop} {A : Nat → Prop} {ls : Array Slot} {rest : List Value}
theorem g_getF {H : Heap} {locs : List Loc} {cells slots pc : Nat} {ws : va_W} (X : Cw D cA own cc nL p s m args c) {k j N ix h0 : Nat} {C : String} {T : u_T} {fs : List Value} {v : Value} (hc : vwCl[k]? = some (C, T, N)) (hws : ∀ w ∈ u_ws C T N, w ∈ bwL) (hP : va_P D vwCl ((h0, .inr (k, fs)) :: ws) H) (hj : j < N) (hlk : Cond.fieldLink own ix (T j).1 (T j).2.1 (T j).2.2.1 ∈ bwL) (hv : fs[j]? = some v) (hdg : decode cc pc = .ok (.getfield ix, 3))
    (kk : W p l e R s m args below meth c H locs cells slots Q (F0 m (pc + 3) ls (v :: rest))) : W p l e R s m args below meth c H locs cells slots Q (F0 m pc ls (.ref h0 :: rest)) :=
  va_get X.1 X.2.1 X.2.2.2.2.1 hws X.2.2.2.1 X.2.2.2.2.2.1 hP 0 rfl hc j hj (X.2.2.2.2.1 _ hlk) (fun _ h => h) hv hdg kk
/-- a made object into a row -/
theorem g_aast {H : Heap} {locs : List Loc} {cells slots pc : Nat} {wa wb : va_W} (X : Cw D cA own cc nL p s m args c) {k ci n a v : Nat} {f : Nat → Option Nat} {vs : List Value} {r : vw_C} (hP : va_P D vwCl (wa ++ (a, .inl (cA k, n, rowE f)) :: wb) H) (hD : va_D A (wa ++ (a, .inl (cA k, n, rowE f)) :: wb)) (hS : va_S A s.heap H locs) (hk : (tysL cA)[k]? = some (cA k, .object r.1)) (hv : (v, Sum.inr (ci, vs)) ∈ wa ++ (a, Sum.inl (cA k, n, rowE f)) :: wb) (hc : vwCl[ci]? = some r) {i : Int32} (hin : vp_in i n) (hdg : decode cc pc = .ok (.aastore, 1))
    (kk : ∀ (H1 : Heap) (locs1 : List Loc), va_P D vwCl (wa ++ (a, .inl (cA k, n, rowE (va_up f i.toNatClampNeg (some v)))) :: wb) H1 → va_D A (wa ++ (a, .inl (cA k, n, rowE (va_up f i.toNatClampNeg (some v)))) :: wb) → va_S A s.heap H1 locs1 → W p l e R s m args below meth c H1 locs1 cells slots Q (F0 m (pc + 1) ls rest)) : W p l e R s m args below meth c H locs cells slots Q (F0 m pc ls (.ref v :: .int i :: .ref a :: rest)) := by
  obtain ⟨qk, hqk⟩ := List.mem_iff_getElem?.mp hv
  refine va_astq X.1 X.2.1 X.2.2.2.2.2.1 hP hD hS wa.length k qk ci (get_mid _ _ _) hk hqk hc hin hdg (fun H1 locs1 h1 h2 h3 => ?_)
  rw [set_mid] at h1 h2
  exact kk H1 locs1 h1 h2 h3
set_option maxHeartbeats 2000000 in
theorem mk_loop (X : Cw D cA own cc 2 p s m args c) (hA : ∀ q, s.heap.size ≤ q → A q) {h0 k j N ix a ka n t Nt ix1 ix2 nL' d' mc ms c0 s0 pcB pc0 pcE : Nat} {C Ct : String} {T Tt : u_T} {ty : Nat → FieldType} {fs fs0 : List Value} {y' : MethodName} {cc' : ByteArray} {Post : Nat → Nat → va_W → Prop} {wa wb : va_W} {off : Int}
    (hc : vwCl[k]? = some (C, T, N)) (hws : ∀ w ∈ u_ws C T N, w ∈ bwL) (hj : j < N) (hlk : Cond.fieldLink own ix (T j).1 (T j).2.1 (T j).2.2.1 ∈ bwL) (hfv : fs[j]? = some (.ref a)) (hka : (tysL cA)[ka]? = some (cA ka, .object Ct))
    (hct : vwCl[t]? = some (Ct, Tt, Nt)) (hwst : ∀ w ∈ u_ws Ct Tt Nt, w ∈ bwL) (hty : ∀ k, k < Nt → parseFieldDescriptor (Tt k).2.2.1 = some (ty k)) (hfs : ∀ j, j < Nt → defaultValue (ty j) = vp_V fs0 j) (hcl : Cond.classLink own ix1 Ct ∈ bwL) (hinst : Cond.instantiable Ct Nt ∈ bwL) (hini : Cond.initialized Ct ∈ bwL)
    (hM : ∀ i, MetC D cA l y' cc' nL' t fs0 d' mc ms (Post i)) (hPost : ∀ i q w, Post i q w → ∃ vs w', w = (q, Sum.inr (t, vs)) :: w') (hE : Ce y' cc' nL' none 0) (hname : y'.name = "<init>") (him : Cond.instanceMethod y' ∈ bwL) (hlk2 : Cond.methodLink own ix2 y' ∈ bwL ∨ ∃ host, Cond.methodLinkNest own ix2 y' host ∈ nwL) (hroom : d' + 1 ≤ R.frames ∧ 8 + (nL' + 11) + 64 * d' ≤ R.locals) (hrc : c0 + (1 + mc) * n ≤ R.cells) (hrs : s0 + (Nt + ms) * n ≤ R.slots) (hn : n ≤ 200)
    (e1 : decode cc pcB = .ok (.aload_n 0, 1)) (e2 : decode cc (pcB + 1) = .ok (.getfield ix, 3)) (e3 : decode cc (pcB + 1 + 3) = .ok (.iload_n 1, 1)) (e4 : decode cc (pcB + 1 + 3 + 1) = .ok (.new ix1, 3)) (e5 : decode cc (pcB + 1 + 3 + 1 + 3) = .ok (.dup, 1)) (e6 : decode cc (pcB + 1 + 3 + 1 + 3 + 1) = .ok (.invokespecial ix2, 3)) (e7 : decode cc (pcB + 1 + 3 + 1 + 3 + 1 + 3) = .ok (.aastore, 1)) (e8 : decode cc (pcB + 1 + 3 + 1 + 3 + 1 + 3 + 1) = .ok (.iinc 1 1, 3)) (e9 : decode cc (pcB + 1 + 3 + 1 + 3 + 1 + 3 + 1 + 3) = .ok (.goto off, 3)) (e10 : ((pcB + 1 + 3 + 1 + 3 + 1 + 3 + 1 + 3 : Nat) : Int) + off = (pc0 : Int))
    (htest : ∀ (H : Heap) (locs : List Loc) (cells slots : Nat) (ls : Array Slot) (i : Nat), i ≤ n → lv_has ls 2 [(1, .int (iI i)), (0, .ref h0)] → W p l e R s m args below meth c H locs cells slots Q (F0 m (if i < n then pcB else pcE) ls []) → W p l e R s m args below meth c H locs cells slots Q (F0 m pc0 ls []))
    (done : ∀ (H : Heap) (locs : List Loc) (ls : Array Slot) (vs : Nat → Nat) (wy : Nat → va_W), (∀ y, y < n → Post y (vs y) (wy y)) → va_P D vwCl (((h0, .inr (k, fs)) :: wa) ++ (a, .inl (cA ka, n, rowE (fun j => if j < n then some (vs j) else none))) :: (wb ++ catN wy n)) H → va_D A (((h0, .inr (k, fs)) :: wa) ++ (a, .inl (cA ka, n, rowE (fun j => if j < n then some (vs j) else none))) :: (wb ++ catN wy n)) → va_S A s.heap H locs → W p l e R s m args below meth c H locs (c0 + (1 + mc) * n) (s0 + (Nt + ms) * n) Q (F0 m pcE ls [])) :
    ∀ (r i : Nat), i + r = n → ∀ (H : Heap) (locs : List Loc) (ls : Array Slot) (vs : Nat → Nat) (wy : Nat → va_W), (∀ y, y < i → Post y (vs y) (wy y)) → lv_has ls 2 [(1, .int (iI i)), (0, .ref h0)] → va_P D vwCl (((h0, .inr (k, fs)) :: wa) ++ (a, .inl (cA ka, n, rowE (fun j => if j < i then some (vs j) else none))) :: (wb ++ catN wy i)) H → va_D A (((h0, .inr (k, fs)) :: wa) ++ (a, .inl (cA ka, n, rowE (fun j => if j < i then some (vs j) else none))) :: (wb ++ catN wy i)) → va_S A s.heap H locs → W p l e R s m args below meth c H locs (c0 + (1 + mc) * i) (s0 + (Nt + ms) * i) Q (F0 m pc0 ls []) := by
  intro r
  induction r with
  | zero =>
    intro i hi H locs ls vs wy hy hl hP hD hS
    have hi : i = n := by omega
    subst hi
    refine htest H locs _ _ ls i (Nat.le_refl _) hl ?_
    rw [if_neg (by omega)]
    exact done H locs ls vs wy hy hP hD hS
  | succ r ih =>
    intro i hi H locs ls vs wy hy hl hP hD hS
    have hin : i < n := by omega
    have hm1 : (1 + mc) * i + (1 + mc) ≤ (1 + mc) * n := by
      have : (1 + mc) * (i + 1) ≤ (1 + mc) * n := Nat.mul_le_mul_left _ (by omega)
      rwa [Nat.mul_add, Nat.mul_one] at this
    have hm2 : (Nt + ms) * i + (Nt + ms) ≤ (Nt + ms) * n := by
      have : (Nt + ms) * (i + 1) ≤ (Nt + ms) * n := Nat.mul_le_mul_left _ (by omega)
      rwa [Nat.mul_add, Nat.mul_one] at this
    refine htest H locs _ _ ls i (by omega) hl ?_
    rw [if_pos hin]
    refine lv_aload_n X.1 X.2.1 e1 rfl (lv_at hl 1 rfl) ?_
    refine g_getF (k := k) (j := j) (ws := wa ++ (a, .inl (cA ka, n, rowE (fun j => if j < i then some (vs j) else none))) :: (wb ++ catN wy i)) X hc hws hP hj hlk hfv e2 ?_
    refine lv_iload_n X.1 X.2.1 e3 rfl (lv_at hl 0 rfl) ?_
    refine g_newo (k := t) (q0 := h0) X hA hP hD hS hl.1 hct hwst hty hfs hcl hinst hini (hM i) hE hname him hlk2 hroom (by omega) (by omega) e4 e5 e6 (by show 1 + (1 + (1 + 0)) ≤ 8; omega) (fun q w H locs hPo hP hD hS => ?_)
    obtain ⟨vs1, w', hw⟩ := hPost i q w hPo
    have ea : (((h0, Sum.inr (k, fs)) :: wa) ++ (a, Sum.inl (cA ka, n, rowE (fun j => if j < i then some (vs j) else none))) :: (wb ++ catN wy i)) ++ w = ((h0, Sum.inr (k, fs)) :: wa) ++ (a, Sum.inl (cA ka, n, rowE (fun j => if j < i then some (vs j) else none))) :: ((wb ++ catN wy i) ++ w) := by
      simp only [List.append_assoc, List.cons_append]
    rw [ea] at hP hD
    have hcl2 : (iI (i : Int)).toNatClampNeg = i := by rw [iI_cl (by omega)]; omega
    refine g_aast (k := ka) (ci := t) (vs := vs1) X hP hD hS hka (List.mem_append_right _ (List.mem_cons_of_mem _ (List.mem_append_right _ (by rw [hw]; exact List.mem_cons_self)))) hct (by
      refine fun q => ?_
      rcases q with q | q
      · have : (0 : Int32) = iI 0 := by decide
        rw [this, iI_lt (by omega) (by omega)] at q
        omega
      · rw [hcl2] at q
        omega) e7 (fun H locs hP hD hS => ?_)
    refine lv_iinc (k := 0) (v := iI ((i + 1 : Nat) : Int)) (lv' := [(1, .int (iI ((i + 1 : Nat) : Int))), (0, .ref h0)]) X.1 X.2.1 e8 hl rfl (by
      have : Int32.ofInt 1 = iI 1 := by decide
      rw [this, iI_add]
      rfl) (by decide) rfl (fun ls hl => ?_)
    refine lv_goto X.1 X.2.1 e9 e10 ?_
    refine W.widen (k := c0 + (1 + mc) * (i + 1)) (n := s0 + (Nt + ms) * (i + 1)) (by rw [Nat.mul_add, Nat.mul_one]; omega) (by rw [Nat.mul_add, Nat.mul_one]; omega) ?_
    have ev : va_up (fun j => if j < i then some (vs j) else none) (iI (i : Int)).toNatClampNeg (some q) = fun j => if j < i + 1 then some ((fun y => if y = i then q else vs y) j) else none := by
      funext j
      rw [hcl2]
      unfold va_up
      by_cases h1 : j = i
      · subst h1
        simp
      · by_cases h2 : j < i
        · simp [h1, h2, Nat.lt_succ_of_lt h2]
        · simp [h1, h2]
          omega
    have ew : (wb ++ catN wy i) ++ w = wb ++ catN (fun y => if y = i then w else wy y) (i + 1) := by
      show _ = wb ++ (catN (fun y => if y = i then w else wy y) i ++ (if i = i then w else wy i))
      have e9 : catN (fun y => if y = i then w else wy y) i = catN wy i := catN_congr i (fun y hy => if_neg (by omega))
      rw [if_pos rfl, e9, List.append_assoc]
    rw [ev, ew] at hP hD
    refine ih (i + 1) (by omega) H locs ls (fun y => if y = i then q else vs y) (fun y => if y = i then w else wy y) (fun y hy' => ?_) hl hP hD hS
    by_cases h1 : y = i
    · subst h1
      simp only [if_pos]
      exact hPo
    · simp only [if_neg h1]
      exact hy y (by omega)
end LOOP
theorem postK_hd {cA : Nat → ClassId} {k i : Nat} {cs : List (Nat × Nat)} (hk : k < 1000) {q : Nat} {w : va_W} (h : PostK cA k i ((k, i) :: cs) q w) : ∃ vs w', w = (q, Sum.inr (k, vs)) :: w' := by
  obtain ⟨ad, rfl, rfl⟩ := h
  refine ⟨(List.range (nfl k)).map (fun j => fv ad S0 (64 * k + j) i), wsO cA ad cs S0, ?_⟩
  show (ad k i, ct cA ad S0 k i) :: wsO cA ad cs S0 = _
  rw [ct_obj hk]
/-- one layout out of many -/
theorem all_ad {cA : Nat → ClassId} {n t off : Nat} {cs : Nat → List (Nat × Nat)} {vs : Nat → Nat} {wy : Nat → va_W} (h : ∀ y, y < n → PostK cA t (y + off) (cs y) (vs y) (wy y)) : ∃ AD : Nat → Nat → Nat → Nat, ∀ y, y < n → AD y t (y + off) = vs y ∧ wy y = wsO cA (AD y) (cs y) S0 := by
  refine ⟨fun y => if hy : y < n then (h y hy).choose else fun _ _ => 0, fun y hy => ?_⟩
  simp only [dif_pos hy]
  exact (h y hy).choose_spec
