theorem op_beds {n : Nat} {X M : St} (h : Rel n X M) : Both n (f_x_beds X) (f_m_beds M) := by
  sorry
