/-! NUMBERS: 32-bit numbers as whole numbers in their range -/
def iI (a : Int) : Int32 := Int32.ofInt a
def iL (a : Int) : Int64 := Int64.ofInt a
theorem iI_add (a b : Int) : iI a + iI b = iI (a + b) := (Int32.ofInt_add a b).symm
theorem iI_sub (a b : Int) : iI a - iI b = iI (a - b) := (Int32.ofInt_sub a b).symm
theorem iI_mul (a b : Int) : iI a * iI b = iI (a * b) := (Int32.ofInt_mul a b).symm
theorem iI_neg (a : Int) : -iI a = iI (-a) := (Int32.ofInt_neg a).symm
theorem iI_toInt (x : Int32) : iI x.toInt = x := Int32.ofInt_toInt x
theorem toInt_iI {a : Int} (h : -2147483648 ≤ a ∧ a < 2147483648) : (iI a).toInt = a := Int32.toInt_ofInt_of_le (by omega) (by omega)
theorem iI_ex (x : Int32) : ∃ a : Int, -2147483648 ≤ a ∧ a < 2147483648 ∧ x = iI a := ⟨x.toInt, x.le_toInt, x.toInt_lt, (iI_toInt x).symm⟩
theorem iI_lt {a b : Int} (ha : -2147483648 ≤ a ∧ a < 2147483648) (hb : -2147483648 ≤ b ∧ b < 2147483648) : (iI a < iI b) ↔ a < b := by
  rw [Int32.lt_iff_toInt_lt, toInt_iI ha, toInt_iI hb]
theorem iI_le {a b : Int} (ha : -2147483648 ≤ a ∧ a < 2147483648) (hb : -2147483648 ≤ b ∧ b < 2147483648) : (iI a ≤ iI b) ↔ a ≤ b := by
  rw [Int32.le_iff_toInt_le, toInt_iI ha, toInt_iI hb]
theorem iI_eq {a b : Int} (ha : -2147483648 ≤ a ∧ a < 2147483648) (hb : -2147483648 ≤ b ∧ b < 2147483648) : (iI a = iI b) ↔ a = b := by
  rw [← Int32.toInt_inj, toInt_iI ha, toInt_iI hb]
theorem iI_cl {a : Int} (ha : 0 ≤ a ∧ a < 2147483648) : (iI a).toNatClampNeg = a.toNat := by
  unfold Int32.toNatClampNeg
  rw [toInt_iI (by omega)]
theorem inb_iI {a : Int} {n : Nat} (ha : -2147483648 ≤ a ∧ a < 2147483648) : inb (iI a) n = decide (0 ≤ a ∧ a < n) := by
  unfold inb
  rw [show (0 : Int32) = iI 0 from rfl]
  by_cases h : a < 0
  · rw [decide_eq_true ((iI_lt ha (by omega)).mpr h), decide_eq_false (by omega)]
    rfl
  · rw [decide_eq_false (fun q => h ((iI_lt ha (by omega)).mp q)), iI_cl (by omega)]
    by_cases h2 : a < n
    · rw [decide_eq_true (by omega)]
      have : Nat.ble n a.toNat = false := by
        cases hb : Nat.ble n a.toNat with
        | false => rfl
        | true => have := Nat.le_of_ble_eq_true hb; omega
      rw [this]; rfl
    · rw [decide_eq_false (by omega), Nat.ble_eq_true_of_le (by omega)]; rfl
theorem inb_t {a : Int} {n : Nat} (ha : 0 ≤ a ∧ a < n) (hn : n < 100000) : inb (iI a) n = true := by
  rw [inb_iI (by omega), decide_eq_true ha]
theorem iI_div {a b : Int} (ha : -2147483648 < a ∧ a < 2147483648) (hb : -2147483648 ≤ b ∧ b < 2147483648) : iI a / iI b = iI (a.tdiv b) := by
  rw [← Int32.toInt_inj, Int32.toInt_div_of_ne_left, toInt_iI (by omega), toInt_iI hb, toInt_iI]
  · constructor
    · have := Int.natAbs_tdiv_le_natAbs a b
      omega
    · have := Int.natAbs_tdiv_le_natAbs a b
      omega
  · intro h
    have := congrArg Int32.toInt h
    rw [toInt_iI (by omega)] at this
    have e : Int32.minValue.toInt = -2147483648 := by decide
    omega
theorem iI_divp {a b : Int} (ha : 0 ≤ a ∧ a < 2147483648) (hb : 0 ≤ b ∧ b < 2147483648) : iI a / iI b = iI (a / b) := by
  rw [iI_div (by omega) (by omega), Int.tdiv_eq_ediv_of_nonneg ha.1]
theorem zn_0 : zn 0 = 0 := by decide
theorem zn_1 : zn 1 = 1 := by decide
theorem iL_of {a : Int} (h : -2147483648 ≤ a ∧ a < 2147483648) : (iI a).toInt64 = iL a := by
  rw [← Int64.toInt_inj, Int32.toInt_toInt64, toInt_iI h]
  exact (Int64.toInt_ofInt_of_le (by omega) (by omega)).symm
theorem toInt_iL {a : Int} (h : -9223372036854775808 ≤ a ∧ a < 9223372036854775808) : (iL a).toInt = a := Int64.toInt_ofInt_of_le (by omega) (by omega)
theorem lg_cmp_iL {a b : Int} (ha : -9223372036854775808 ≤ a ∧ a < 9223372036854775808) (hb : -9223372036854775808 ≤ b ∧ b < 9223372036854775808) : lg_cmp (iL a) (iL b) = if b < a then 1 else if a = b then 0 else -1 := by
  unfold lg_cmp
  have h1 : (iL a > iL b) ↔ b < a := by
    show iL b < iL a ↔ _
    rw [Int64.lt_iff_toInt_lt, toInt_iL ha, toInt_iL hb]
  have h2 : (iL a = iL b) ↔ a = b := by rw [← Int64.toInt_inj, toInt_iL ha, toInt_iL hb]
  by_cases q1 : b < a
  · rw [if_pos q1, if_pos (h1.mpr q1)]
  · rw [if_neg q1, if_neg (fun z => q1 (h1.mp z))]
    by_cases q2 : a = b
    · rw [if_pos q2, if_pos (h2.mpr q2)]
    · rw [if_neg q2, if_neg (fun z => q2 (h2.mp z))]
/-- a store's place behind a change -/
theorem wr_ap (S : St) (f i j : Nat) (v : Int32) (f' i' j' : Nat) : st_wr S f i j v f' i' j' = if f' = f ∧ i' = i ∧ j' = j then v else S f' i' j' := by
  unfold st_wr st_up upd
  by_cases h : f' = f ∧ i' = i
  · obtain ⟨rfl, rfl⟩ := h
    by_cases hj : j' = j
    · simp [hj]
    · simp [hj]
  · rw [if_neg h, if_neg (fun q => h ⟨q.1, q.2.1⟩)]
theorem wr_row (S : St) (f i j : Nat) (v : Int32) (f' i' : Nat) : st_wr S f i j v f' i' = if f' = f ∧ i' = i then upd (S f i) j v else S f' i' := rfl
theorem up_row (S : St) (f i : Nat) (g : Nat → Int32) (f' i' : Nat) : st_up S f i g f' i' = if f' = f ∧ i' = i then g else S f' i' := rfl
theorem upd_ap (g : Nat → Int32) (k : Nat) (v : Int32) (j : Nat) : upd g k v j = if j = k then v else g j := rfl
theorem bif_d {α : Type} (p : Prop) [Decidable p] (a b : α) : (bif decide p then a else b) = if p then a else b := by
  by_cases h : p <;> simp [h]
theorem bif_n {α : Type} (p : Prop) [Decidable p] (a b : α) : (bif !decide p then a else b) = if p then b else a := by
  by_cases h : p <;> simp [h]
theorem ifm {α β : Type} (g : α → β) (p : Prop) [Decidable p] (a b : α) : g (if p then a else b) = if p then g a else g b := by
  by_cases h : p <;> simp [h]
theorem bind_if {α β : Type} (p : Prop) [Decidable p] (a b : Option α) (k : α → Option β) : (if p then a else b).bind k = if p then a.bind k else b.bind k := by
  by_cases h : p <;> simp [h]
/-- a truth as a number -/
def bI (p : Prop) [Decidable p] : Int32 := if p then 1 else 0
theorem bI_t {p : Prop} [Decidable p] (h : p) : bI p = iI 1 := by unfold bI; rw [if_pos h]; rfl
theorem bI_f {p : Prop} [Decidable p] (h : ¬ p) : bI p = iI 0 := by unfold bI; rw [if_neg h]; rfl
theorem bI_0 {p : Prop} [Decidable p] : (bI p = iI 0) ↔ ¬ p := by
  by_cases h : p
  · rw [bI_t h]; exact ⟨fun q => absurd q (by decide), fun q => absurd h q⟩
  · rw [bI_f h]; exact ⟨fun _ => h, fun _ => rfl⟩
theorem bI_1 {p : Prop} [Decidable p] : (bI p = iI 1) ↔ p := by
  by_cases h : p
  · rw [bI_t h]; exact ⟨fun _ => h, fun _ => rfl⟩
  · rw [bI_f h]; exact ⟨fun q => absurd q (by decide), fun q => absurd q h⟩
theorem zn_b {p : Prop} [Decidable p] : zn (bI p) = bI p := by
  by_cases h : p
  · rw [bI_t h]; decide
  · rw [bI_f h]; decide
theorem zn_i0 : zn (iI 0) = iI 0 := by decide
theorem zn_i1 : zn (iI 1) = iI 1 := by decide
theorem bI_c {p q : Prop} [Decidable p] [Decidable q] (h : p ↔ q) : bI p = bI q := by
  by_cases hp : p
  · rw [bI_t hp, bI_t (h.mp hp)]
  · rw [bI_f hp, bI_f (fun z => hp (h.mpr z))]
theorem li_0 : (0 : Int32) = iI 0 := by decide
theorem li_1 : (1 : Int32) = iI 1 := by decide
theorem li_2 : (2 : Int32) = iI 2 := by decide
theorem li_3 : (3 : Int32) = iI 3 := by decide
theorem li_4 : (4 : Int32) = iI 4 := by decide
theorem li_5 : (5 : Int32) = iI 5 := by decide
theorem li_6 : (6 : Int32) = iI 6 := by decide
theorem li_7 : (7 : Int32) = iI 7 := by decide
theorem li_8 : (8 : Int32) = iI 8 := by decide
theorem li_9 : (9 : Int32) = iI 9 := by decide
theorem li_10 : (10 : Int32) = iI 10 := by decide
theorem li_11 : (11 : Int32) = iI 11 := by decide
theorem li_12 : (12 : Int32) = iI 12 := by decide
theorem li_13 : (13 : Int32) = iI 13 := by decide
theorem li_14 : (14 : Int32) = iI 14 := by decide
theorem li_15 : (15 : Int32) = iI 15 := by decide
theorem li_16 : (16 : Int32) = iI 16 := by decide
theorem li_17 : (17 : Int32) = iI 17 := by decide
theorem li_18 : (18 : Int32) = iI 18 := by decide
theorem li_19 : (19 : Int32) = iI 19 := by decide
theorem li_20 : (20 : Int32) = iI 20 := by decide
theorem li_21 : (21 : Int32) = iI 21 := by decide
theorem li_22 : (22 : Int32) = iI 22 := by decide
theorem li_23 : (23 : Int32) = iI 23 := by decide
theorem li_24 : (24 : Int32) = iI 24 := by decide
theorem li_25 : (25 : Int32) = iI 25 := by decide
theorem li_26 : (26 : Int32) = iI 26 := by decide
theorem li_27 : (27 : Int32) = iI 27 := by decide
theorem li_28 : (28 : Int32) = iI 28 := by decide
theorem li_29 : (29 : Int32) = iI 29 := by decide
theorem li_30 : (30 : Int32) = iI 30 := by decide
theorem li_31 : (31 : Int32) = iI 31 := by decide
theorem li_32 : (32 : Int32) = iI 32 := by decide
theorem li_33 : (33 : Int32) = iI 33 := by decide
theorem li_34 : (34 : Int32) = iI 34 := by decide
theorem li_35 : (35 : Int32) = iI 35 := by decide
theorem li_36 : (36 : Int32) = iI 36 := by decide
theorem li_37 : (37 : Int32) = iI 37 := by decide
theorem li_38 : (38 : Int32) = iI 38 := by decide
theorem li_39 : (39 : Int32) = iI 39 := by decide
theorem li_40 : (40 : Int32) = iI 40 := by decide
theorem li_41 : (41 : Int32) = iI 41 := by decide
theorem li_42 : (42 : Int32) = iI 42 := by decide
theorem li_43 : (43 : Int32) = iI 43 := by decide
theorem li_44 : (44 : Int32) = iI 44 := by decide
theorem li_45 : (45 : Int32) = iI 45 := by decide
theorem li_46 : (46 : Int32) = iI 46 := by decide
theorem li_47 : (47 : Int32) = iI 47 := by decide
theorem li_48 : (48 : Int32) = iI 48 := by decide
theorem li_49 : (49 : Int32) = iI 49 := by decide
theorem li_50 : (50 : Int32) = iI 50 := by decide
theorem li_51 : (51 : Int32) = iI 51 := by decide
theorem li_52 : (52 : Int32) = iI 52 := by decide
theorem li_53 : (53 : Int32) = iI 53 := by decide
theorem li_54 : (54 : Int32) = iI 54 := by decide
theorem li_55 : (55 : Int32) = iI 55 := by decide
theorem li_56 : (56 : Int32) = iI 56 := by decide
theorem li_57 : (57 : Int32) = iI 57 := by decide
theorem li_58 : (58 : Int32) = iI 58 := by decide
theorem li_59 : (59 : Int32) = iI 59 := by decide
theorem li_60 : (60 : Int32) = iI 60 := by decide
theorem li_61 : (61 : Int32) = iI 61 := by decide
theorem li_62 : (62 : Int32) = iI 62 := by decide
theorem li_63 : (63 : Int32) = iI 63 := by decide
theorem li_64 : (64 : Int32) = iI 64 := by decide
theorem li_90 : (90 : Int32) = iI 90 := by decide
theorem li_99 : (99 : Int32) = iI 99 := by decide
theorem li_100 : (100 : Int32) = iI 100 := by decide
theorem li_104 : (104 : Int32) = iI 104 := by decide
theorem li_115 : (115 : Int32) = iI 115 := by decide
theorem li_120 : (120 : Int32) = iI 120 := by decide
theorem li_121 : (121 : Int32) = iI 121 := by decide
theorem li_122 : (122 : Int32) = iI 122 := by decide
theorem li_123 : (123 : Int32) = iI 123 := by decide
theorem li_124 : (124 : Int32) = iI 124 := by decide
theorem li_125 : (125 : Int32) = iI 125 := by decide
theorem li_126 : (126 : Int32) = iI 126 := by decide
theorem li_127 : (127 : Int32) = iI 127 := by decide
theorem li_128 : (128 : Int32) = iI 128 := by decide
theorem li_129 : (129 : Int32) = iI 129 := by decide
theorem li_130 : (130 : Int32) = iI 130 := by decide
theorem li_131 : (131 : Int32) = iI 131 := by decide
theorem li_132 : (132 : Int32) = iI 132 := by decide
theorem li_133 : (133 : Int32) = iI 133 := by decide
theorem li_134 : (134 : Int32) = iI 134 := by decide
theorem li_135 : (135 : Int32) = iI 135 := by decide
theorem li_136 : (136 : Int32) = iI 136 := by decide
theorem li_199 : (199 : Int32) = iI 199 := by decide
theorem li_200 : (200 : Int32) = iI 200 := by decide
theorem li_255 : (255 : Int32) = iI 255 := by decide
theorem li_256 : (256 : Int32) = iI 256 := by decide
theorem li_512 : (512 : Int32) = iI 512 := by decide
theorem li_680 : (680 : Int32) = iI 680 := by decide
theorem li_999 : (999 : Int32) = iI 999 := by decide
theorem li_1000 : (1000 : Int32) = iI 1000 := by decide
theorem li_1194 : (1194 : Int32) = iI 1194 := by decide
theorem li_1199 : (1199 : Int32) = iI 1199 := by decide
theorem li_1200 : (1200 : Int32) = iI 1200 := by decide
theorem li_9999 : (9999 : Int32) = iI 9999 := by decide
theorem li_10000 : (10000 : Int32) = iI 10000 := by decide
theorem li_27064 : (27064 : Int32) = iI 27064 := by decide
theorem li_27200 : (27200 : Int32) = iI 27200 := by decide
theorem li_99999 : (99999 : Int32) = iI 99999 := by decide
theorem li_1000000000 : (1000000000 : Int32) = iI 1000000000 := by decide
theorem li_2000000000 : (2000000000 : Int32) = iI 2000000000 := by decide

theorem mx_i {a b : Int} (ha : -2147483648 ≤ a ∧ a < 2147483648) (hb : -2147483648 ≤ b ∧ b < 2147483648) : mx32 (iI a) (iI b) = iI (max a b) := by
  unfold mx32
  by_cases h : a < b
  · rw [if_pos ((iI_lt ha hb).mpr h), show max a b = b by omega]
  · rw [if_neg (fun q => h ((iI_lt ha hb).mp q)), show max a b = a by omega]
theorem mn_i {a b : Int} (ha : -2147483648 ≤ a ∧ a < 2147483648) (hb : -2147483648 ≤ b ∧ b < 2147483648) : mn32 (iI a) (iI b) = iI (min a b) := by
  unfold mn32
  by_cases h : b < a
  · rw [if_pos ((iI_lt hb ha).mpr h), show min a b = b by omega]
  · rw [if_neg (fun q => h ((iI_lt hb ha).mp q)), show min a b = a by omega]
theorem ab_i {a : Int} (ha : -2147483648 < a ∧ a < 2147483648) : ab32 (iI a) = iI (a.natAbs : Int) := by
  unfold ab32
  rw [show (0 : Int32) = iI 0 from rfl]
  by_cases h : 0 ≤ a
  · rw [if_pos ((iI_le (by omega) (by omega)).mpr h), show (a.natAbs : Int) = a by omega]
  · rw [if_neg (fun q => h ((iI_le (by omega) (by omega)).mp q)), iI_sub, show (a.natAbs : Int) = 0 - a by omega]
theorem lL_0 : (0 : Int64) = iL 0 := by decide
theorem lL_1 : (1 : Int64) = iL 1 := by decide
theorem lL_3 : (3 : Int64) = iL 3 := by decide
theorem lL_5 : (5 : Int64) = iL 5 := by decide
theorem lL_8 : (8 : Int64) = iL 8 := by decide
theorem lL_9 : (9 : Int64) = iL 9 := by decide
theorem lL_11 : (11 : Int64) = iL 11 := by decide
theorem lL_17 : (17 : Int64) = iL 17 := by decide
theorem lL_29 : (29 : Int64) = iL 29 := by decide
theorem lL_60 : (60 : Int64) = iL 60 := by decide
theorem lL_99 : (99 : Int64) = iL 99 := by decide
theorem lL_999 : (999 : Int64) = iL 999 := by decide
theorem lL_9999 : (9999 : Int64) = iL 9999 := by decide
theorem lL_99999 : (99999 : Int64) = iL 99999 := by decide
