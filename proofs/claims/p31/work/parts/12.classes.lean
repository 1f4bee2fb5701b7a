/-! THE CLASSES ARE AS THE TABLES SAY -/
theorem en_lays {C : String} {T : u_T} {N : Nat} (is : List Nat) (h : (List.range N).all (fun k => ev_w is k (u_lay C T k)) = true) : ∀ w ∈ u_ws C T N, w ∈ en_WS := by
  intro w hw
  obtain ⟨k, hk, rfl⟩ := List.mem_map.mp hw
  exact ev_w_in (List.all_eq_true.mp h k hk)
theorem en_pars {q : vw_C} (h : (List.range q.2.2).all (fun k => (parseFieldDescriptor (q.2.1 k).2.2.1).isSome) = true) : ∀ k, k < q.2.2 → parseFieldDescriptor (q.2.1 k).2.2.1 = some (en_ty q k) := by
  intro k hk
  have h1 := List.all_eq_true.mp h k (List.mem_range.mpr hk)
  unfold en_ty
  cases hp : parseFieldDescriptor (q.2.1 k).2.2.1 with
  | none => rw [hp] at h1; cases h1
  | some ty => rfl
theorem en_c0 : (∀ w ∈ u_ws "MeadowSigns$Formula" en_T0 4, w ∈ en_WS) ∧ (∀ k, k < 4 → parseFieldDescriptor (en_T0 k).2.2.1 = some (en_ty ("MeadowSigns$Formula", en_T0, 4) k)) ∧ ∀ a, a < 4 → ∀ b, b < 4 → a ≠ b → (en_T0 a).2.1 ≠ (en_T0 b).2.1 := ⟨en_lays [1043, 1045, 1047, 1049] (by decide +kernel), en_pars (q := ("MeadowSigns$Formula", en_T0, 4)) (by decide +kernel), by decide +kernel⟩
theorem en_c1 : (∀ w ∈ u_ws "MeadowSigns$Hearsay" en_T1 8, w ∈ en_WS) ∧ (∀ k, k < 8 → parseFieldDescriptor (en_T1 k).2.2.1 = some (en_ty ("MeadowSigns$Hearsay", en_T1, 8) k)) ∧ ∀ a, a < 8 → ∀ b, b < 8 → a ≠ b → (en_T1 a).2.1 ≠ (en_T1 b).2.1 := ⟨en_lays [2179, 2165, 2167, 2169, 2171, 2173, 2175, 2177] (by decide +kernel), en_pars (q := ("MeadowSigns$Hearsay", en_T1, 8)) (by decide +kernel), by decide +kernel⟩
theorem en_c2 : (∀ w ∈ u_ws "MeadowSigns$History" en_T2 6, w ∈ en_WS) ∧ (∀ k, k < 6 → parseFieldDescriptor (en_T2 k).2.2.1 = some (en_ty ("MeadowSigns$History", en_T2, 6) k)) ∧ ∀ a, a < 6 → ∀ b, b < 6 → a ≠ b → (en_T2 a).2.1 ≠ (en_T2 b).2.1 := ⟨en_lays [2035, 2027, 2033, 2031, 2029, 2037] (by decide +kernel), en_pars (q := ("MeadowSigns$History", en_T2, 6)) (by decide +kernel), by decide +kernel⟩
theorem en_c3 : (∀ w ∈ u_ws "MeadowSigns$Parser" en_T3 8, w ∈ en_WS) ∧ (∀ k, k < 8 → parseFieldDescriptor (en_T3 k).2.2.1 = some (en_ty ("MeadowSigns$Parser", en_T3, 8) k)) ∧ ∀ a, a < 8 → ∀ b, b < 8 → a ≠ b → (en_T3 a).2.1 ≠ (en_T3 b).2.1 := ⟨en_lays [1203, 1205, 1207, 1209, 1211, 1213, 1215, 1217] (by decide +kernel), en_pars (q := ("MeadowSigns$Parser", en_T3, 8)) (by decide +kernel), by decide +kernel⟩
theorem en_c4 : (∀ w ∈ u_ws "MeadowSigns$Planner" en_T4 14, w ∈ en_WS) ∧ (∀ k, k < 14 → parseFieldDescriptor (en_T4 k).2.2.1 = some (en_ty ("MeadowSigns$Planner", en_T4, 14) k)) ∧ ∀ a, a < 14 → ∀ b, b < 14 → a ≠ b → (en_T4 a).2.1 ≠ (en_T4 b).2.1 := ⟨en_lays [2120, 2142, 2122, 2124, 2140, 2126, 2130, 2128, 2138, 2132, 2134, 2136, 2144, 2146] (by decide +kernel), en_pars (q := ("MeadowSigns$Planner", en_T4, 14)) (by decide +kernel), by decide +kernel⟩
theorem en_c5 : (∀ w ∈ u_ws "MeadowSigns$Reader" en_T5 15, w ∈ en_WS) ∧ (∀ k, k < 15 → parseFieldDescriptor (en_T5 k).2.2.1 = some (en_ty ("MeadowSigns$Reader", en_T5, 15) k)) ∧ ∀ a, a < 15 → ∀ b, b < 15 → a ≠ b → (en_T5 a).2.1 ≠ (en_T5 b).2.1 := ⟨en_lays [2076, 2068, 2078, 2084, 2066, 2080, 2070, 2074, 2090, 2082, 2072, 2086, 2088, 2092, 2094] (by decide +kernel), en_pars (q := ("MeadowSigns$Reader", en_T5, 15)) (by decide +kernel), by decide +kernel⟩
theorem en_c6 : (∀ w ∈ u_ws "MeadowSigns$State" en_T6 6, w ∈ en_WS) ∧ (∀ k, k < 6 → parseFieldDescriptor (en_T6 k).2.2.1 = some (en_ty ("MeadowSigns$State", en_T6, 6) k)) ∧ ∀ a, a < 6 → ∀ b, b < 6 → a ≠ b → (en_T6 a).2.1 ≠ (en_T6 b).2.1 := ⟨en_lays [2000, 2002, 2004, 2008, 2006, 2010] (by decide +kernel), en_pars (q := ("MeadowSigns$State", en_T6, 6)) (by decide +kernel), by decide +kernel⟩
theorem en_c7 : (∀ w ∈ u_ws "MeadowSigns$Tape" en_T7 8, w ∈ en_WS) ∧ (∀ k, k < 8 → parseFieldDescriptor (en_T7 k).2.2.1 = some (en_ty ("MeadowSigns$Tape", en_T7, 8) k)) ∧ ∀ a, a < 8 → ∀ b, b < 8 → a ≠ b → (en_T7 a).2.1 ≠ (en_T7 b).2.1 := ⟨en_lays [1176, 1174, 1178, 1180, 1182, 1184, 1186, 1188] (by decide +kernel), en_pars (q := ("MeadowSigns$Tape", en_T7, 8)) (by decide +kernel), by decide +kernel⟩
theorem en_c8 : (∀ w ∈ u_ws "MeadowSigns$Told" en_T8 18, w ∈ en_WS) ∧ (∀ k, k < 18 → parseFieldDescriptor (en_T8 k).2.2.1 = some (en_ty ("MeadowSigns$Told", en_T8, 18) k)) ∧ ∀ a, a < 18 → ∀ b, b < 18 → a ≠ b → (en_T8 a).2.1 ≠ (en_T8 b).2.1 := ⟨en_lays [1111, 1119, 1137, 1117, 1133, 1135, 1113, 1139, 1131, 1141, 1143, 1145, 1115, 1121, 1123, 1125, 1127, 1129] (by decide +kernel), en_pars (q := ("MeadowSigns$Told", en_T8, 18)) (by decide +kernel), by decide +kernel⟩
theorem en_c9 : (∀ w ∈ u_ws "MeadowSigns" en_T9 9, w ∈ en_WS) ∧ (∀ k, k < 9 → parseFieldDescriptor (en_T9 k).2.2.1 = some (en_ty ("MeadowSigns", en_T9, 9) k)) ∧ ∀ a, a < 9 → ∀ b, b < 9 → a ≠ b → (en_T9 a).2.1 ≠ (en_T9 b).2.1 := ⟨en_lays [2207, 2213, 2219, 2221, 2217, 2223, 2215, 2211, 2209] (by decide +kernel), en_pars (q := ("MeadowSigns", en_T9, 9)) (by decide +kernel), by decide +kernel⟩
theorem en_c10 : (∀ w ∈ u_ws "MeadowSignsModel" en_T10 80, w ∈ en_WS) ∧ (∀ k, k < 80 → parseFieldDescriptor (en_T10 k).2.2.1 = some (en_ty ("MeadowSignsModel", en_T10, 80) k)) ∧ ∀ a, a < 80 → ∀ b, b < 80 → a ≠ b → (en_T10 a).2.1 ≠ (en_T10 b).2.1 := ⟨en_lays [6134, 6086, 6162, 6160, 6082, 6156, 6172, 6170, 6180, 6216, 6092, 6168, 6192, 6136, 6064, 6084, 6060, 6190, 6110, 6218, 6178, 6066, 6212, 6068, 6072, 6096, 6118, 6210, 6088, 6094, 6176, 6090, 6098, 6116, 6174, 6214, 6070, 6074, 6076, 6184, 6062, 6078, 6080, 6100, 6102, 6104, 6106, 6108, 6112, 6114, 6120, 6122, 6124, 6126, 6128, 6130, 6132, 6138, 6140, 6142, 6144, 6146, 6148, 6150, 6152, 6154, 6158, 6164, 6166, 6182, 6186, 6188, 6194, 6196, 6198, 6200, 6202, 6204, 6206, 6208] (by decide +kernel), en_pars (q := ("MeadowSignsModel", en_T10, 80)) (by decide +kernel), by decide +kernel⟩
theorem en_all : en_ok := by
  intro q hq
  simp only [en_classes, List.mem_cons, List.not_mem_nil, or_false] at hq
  rcases hq with rfl | rfl | rfl | rfl | rfl | rfl | rfl | rfl | rfl | rfl | rfl
  · exact en_c0
  · exact en_c1
  · exact en_c2
  · exact en_c3
  · exact en_c4
  · exact en_c5
  · exact en_c6
  · exact en_c7
  · exact en_c8
  · exact en_c9
  · exact en_c10
