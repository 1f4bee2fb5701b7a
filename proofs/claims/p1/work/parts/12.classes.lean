/-! THE CLASSES ARE AS THE TABLES SAY -/
theorem en_lays {C : String} {T : u_T} {N : Nat} (is : List Nat) (h : (List.range N).all (fun k => ev_w is k (u_lay C T k)) = true) : ∀ w ∈ u_ws C T N, w ∈ en_WS := by
  intro w hw
  obtain ⟨k, hk, rfl⟩ := List.mem_map.mp hw
  exact ev_w_in (List.all_eq_true.mp h k hk)
theorem en_pars {q : vw_C} (h : (List.range q.2.2).all (fun k => (parseFieldDescriptor (q.2.1 k).2.2.1).isSome) = true) : ∀ k, k < q.2.2 → parseFieldDescriptor (q.2.1 k).2.2.1 = some (en_ty q k) := by
  intro k hk
  have h1 := List.all_eq_true.mp h k (List.mem_range.mpr hk)
  unfold en_ty
  cases hp : parseFieldDescriptor (q.2.1 k).2.2.1 with
  | none => rw [hp] at h1; cases h1
  | some ty => rfl
theorem en_c0 : (∀ w ∈ u_ws "MeadowSigns$Formula" en_T0 4, w ∈ en_WS) ∧ (∀ k, k < 4 → parseFieldDescriptor (en_T0 k).2.2.1 = some (en_ty ("MeadowSigns$Formula", en_T0, 4) k)) ∧ ∀ a, a < 4 → ∀ b, b < 4 → a ≠ b → (en_T0 a).2.1 ≠ (en_T0 b).2.1 := ⟨en_lays [176, 178, 180, 182] (by decide +kernel), en_pars (q := ("MeadowSigns$Formula", en_T0, 4)) (by decide +kernel), by decide +kernel⟩
theorem en_c1 : (∀ w ∈ u_ws "MeadowSigns$Hearsay" en_T1 8, w ∈ en_WS) ∧ (∀ k, k < 8 → parseFieldDescriptor (en_T1 k).2.2.1 = some (en_ty ("MeadowSigns$Hearsay", en_T1, 8) k)) ∧ ∀ a, a < 8 → ∀ b, b < 8 → a ≠ b → (en_T1 a).2.1 ≠ (en_T1 b).2.1 := ⟨en_lays [552, 538, 540, 542, 544, 546, 548, 550] (by decide +kernel), en_pars (q := ("MeadowSigns$Hearsay", en_T1, 8)) (by decide +kernel), by decide +kernel⟩
theorem en_c2 : (∀ w ∈ u_ws "MeadowSigns$History" en_T2 6, w ∈ en_WS) ∧ (∀ k, k < 6 → parseFieldDescriptor (en_T2 k).2.2.1 = some (en_ty ("MeadowSigns$History", en_T2, 6) k)) ∧ ∀ a, a < 6 → ∀ b, b < 6 → a ≠ b → (en_T2 a).2.1 ≠ (en_T2 b).2.1 := ⟨en_lays [408, 400, 406, 404, 402, 410] (by decide +kernel), en_pars (q := ("MeadowSigns$History", en_T2, 6)) (by decide +kernel), by decide +kernel⟩
theorem en_c3 : (∀ w ∈ u_ws "MeadowSigns$Parser" en_T3 8, w ∈ en_WS) ∧ (∀ k, k < 8 → parseFieldDescriptor (en_T3 k).2.2.1 = some (en_ty ("MeadowSigns$Parser", en_T3, 8) k)) ∧ ∀ a, a < 8 → ∀ b, b < 8 → a ≠ b → (en_T3 a).2.1 ≠ (en_T3 b).2.1 := ⟨en_lays [336, 338, 340, 342, 344, 346, 348, 350] (by decide +kernel), en_pars (q := ("MeadowSigns$Parser", en_T3, 8)) (by decide +kernel), by decide +kernel⟩
theorem en_c4 : (∀ w ∈ u_ws "MeadowSigns$Planner" en_T4 14, w ∈ en_WS) ∧ (∀ k, k < 14 → parseFieldDescriptor (en_T4 k).2.2.1 = some (en_ty ("MeadowSigns$Planner", en_T4, 14) k)) ∧ ∀ a, a < 14 → ∀ b, b < 14 → a ≠ b → (en_T4 a).2.1 ≠ (en_T4 b).2.1 := ⟨en_lays [493, 515, 495, 497, 513, 499, 503, 501, 511, 505, 507, 509, 517, 519] (by decide +kernel), en_pars (q := ("MeadowSigns$Planner", en_T4, 14)) (by decide +kernel), by decide +kernel⟩
theorem en_c5 : (∀ w ∈ u_ws "MeadowSigns$Reader" en_T5 15, w ∈ en_WS) ∧ (∀ k, k < 15 → parseFieldDescriptor (en_T5 k).2.2.1 = some (en_ty ("MeadowSigns$Reader", en_T5, 15) k)) ∧ ∀ a, a < 15 → ∀ b, b < 15 → a ≠ b → (en_T5 a).2.1 ≠ (en_T5 b).2.1 := ⟨en_lays [449, 441, 451, 457, 439, 453, 443, 447, 463, 455, 445, 459, 461, 465, 467] (by decide +kernel), en_pars (q := ("MeadowSigns$Reader", en_T5, 15)) (by decide +kernel), by decide +kernel⟩
theorem en_c6 : (∀ w ∈ u_ws "MeadowSigns$State" en_T6 6, w ∈ en_WS) ∧ (∀ k, k < 6 → parseFieldDescriptor (en_T6 k).2.2.1 = some (en_ty ("MeadowSigns$State", en_T6, 6) k)) ∧ ∀ a, a < 6 → ∀ b, b < 6 → a ≠ b → (en_T6 a).2.1 ≠ (en_T6 b).2.1 := ⟨en_lays [373, 375, 377, 381, 379, 383] (by decide +kernel), en_pars (q := ("MeadowSigns$State", en_T6, 6)) (by decide +kernel), by decide +kernel⟩
theorem en_c7 : (∀ w ∈ u_ws "MeadowSigns$Tape" en_T7 8, w ∈ en_WS) ∧ (∀ k, k < 8 → parseFieldDescriptor (en_T7 k).2.2.1 = some (en_ty ("MeadowSigns$Tape", en_T7, 8) k)) ∧ ∀ a, a < 8 → ∀ b, b < 8 → a ≠ b → (en_T7 a).2.1 ≠ (en_T7 b).2.1 := ⟨en_lays [309, 307, 311, 313, 315, 317, 319, 321] (by decide +kernel), en_pars (q := ("MeadowSigns$Tape", en_T7, 8)) (by decide +kernel), by decide +kernel⟩
theorem en_c8 : (∀ w ∈ u_ws "MeadowSigns$Told" en_T8 18, w ∈ en_WS) ∧ (∀ k, k < 18 → parseFieldDescriptor (en_T8 k).2.2.1 = some (en_ty ("MeadowSigns$Told", en_T8, 18) k)) ∧ ∀ a, a < 18 → ∀ b, b < 18 → a ≠ b → (en_T8 a).2.1 ≠ (en_T8 b).2.1 := ⟨en_lays [244, 252, 270, 250, 266, 268, 246, 272, 264, 274, 276, 278, 248, 254, 256, 258, 260, 262] (by decide +kernel), en_pars (q := ("MeadowSigns$Told", en_T8, 18)) (by decide +kernel), by decide +kernel⟩
theorem en_c9 : (∀ w ∈ u_ws "MeadowSigns" en_T9 9, w ∈ en_WS) ∧ (∀ k, k < 9 → parseFieldDescriptor (en_T9 k).2.2.1 = some (en_ty ("MeadowSigns", en_T9, 9) k)) ∧ ∀ a, a < 9 → ∀ b, b < 9 → a ≠ b → (en_T9 a).2.1 ≠ (en_T9 b).2.1 := ⟨en_lays [580, 586, 592, 594, 590, 596, 588, 584, 582] (by decide +kernel), en_pars (q := ("MeadowSigns", en_T9, 9)) (by decide +kernel), by decide +kernel⟩
theorem en_c10 : (∀ w ∈ u_ws "MeadowSignsModel" en_T10 80, w ∈ en_WS) ∧ (∀ k, k < 80 → parseFieldDescriptor (en_T10 k).2.2.1 = some (en_ty ("MeadowSignsModel", en_T10, 80) k)) ∧ ∀ a, a < 80 → ∀ b, b < 80 → a ≠ b → (en_T10 a).2.1 ≠ (en_T10 b).2.1 := ⟨en_lays [1467, 1419, 1495, 1493, 1415, 1489, 1505, 1503, 1513, 1549, 1425, 1501, 1525, 1469, 1397, 1417, 1393, 1523, 1443, 1551, 1511, 1399, 1545, 1401, 1405, 1429, 1451, 1543, 1421, 1427, 1509, 1423, 1431, 1449, 1507, 1547, 1403, 1407, 1409, 1517, 1395, 1411, 1413, 1433, 1435, 1437, 1439, 1441, 1445, 1447, 1453, 1455, 1457, 1459, 1461, 1463, 1465, 1471, 1473, 1475, 1477, 1479, 1481, 1483, 1485, 1487, 1491, 1497, 1499, 1515, 1519, 1521, 1527, 1529, 1531, 1533, 1535, 1537, 1539, 1541] (by decide +kernel), en_pars (q := ("MeadowSignsModel", en_T10, 80)) (by decide +kernel), by decide +kernel⟩
theorem en_all : en_ok := by
  intro q hq
  simp only [en_classes, List.mem_cons, List.not_mem_nil, or_false] at hq
  rcases hq with rfl | rfl | rfl | rfl | rfl | rfl | rfl | rfl | rfl | rfl | rfl
  · exact en_c0
  · exact en_c1
  · exact en_c2
  · exact en_c3
  · exact en_c4
  · exact en_c5
  · exact en_c6
  · exact en_c7
  · exact en_c8
  · exact en_c9
  · exact en_c10
