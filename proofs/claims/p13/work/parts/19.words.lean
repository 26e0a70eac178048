theorem iX8 : ∀ w ∈ u_ws RX8 TX8 3, w ∈ gw := by
  intro w hw
  obtain ⟨k, hk, rfl⟩ := List.mem_map.mp hw
  have hk := List.mem_range.mp hk
  match k, hk with
  | 0, _ => exact tbt (tb1 (List.mem_of_getElem? (i := 177) rfl)) rfl
  | 1, _ => exact tbt (tb1 (List.mem_of_getElem? (i := 179) rfl)) rfl
  | 2, _ => exact tbt (tb1 (List.mem_of_getElem? (i := 181) rfl)) rfl
  | (k + 3), hk => exact absurd hk (by omega)