set_option maxRecDepth 100000 in
theorem ev_MT_ok : ev_okM ev_XT ev_MT := fun k M hk => by
  have h := ev_allP_get ev_MT 0 ⟨em_0, em_1, em_2, em_3, em_4, em_5, em_6, em_7, em_8, em_9, em_10, em_11, em_12, em_13, em_14, em_15, trivial⟩ k M hk
  rw [Nat.zero_add] at h
  exact h
