/-! WHAT THE TABLES SAY OF EACH CLASS, for any number -/
theorem vT_get : ∀ c, c < 13 → vwCl[c]? = some (vT c) := by
  intro c hc
  match c, hc with
  | 0, _ => rfl
  | 1, _ => rfl
  | 2, _ => rfl
  | 3, _ => rfl
  | 4, _ => rfl
  | 5, _ => rfl
  | 6, _ => rfl
  | 7, _ => rfl
  | 8, _ => rfl
  | 9, _ => rfl
  | 10, _ => rfl
  | 11, _ => rfl
  | 12, _ => rfl
  | n + 13, h => exact absurd h (by omega)
theorem vT_len : ∀ c, c < 13 → (vT c).2.2 = flen.getD c 0 ∧ (vT c).1 = cN c ∧ (vT c).2.2 ≤ 88 := by
  intro c hc
  match c, hc with
  | 0, _ => exact ⟨rfl, rfl, by decide⟩
  | 1, _ => exact ⟨rfl, rfl, by decide⟩
  | 2, _ => exact ⟨rfl, rfl, by decide⟩
  | 3, _ => exact ⟨rfl, rfl, by decide⟩
  | 4, _ => exact ⟨rfl, rfl, by decide⟩
  | 5, _ => exact ⟨rfl, rfl, by decide⟩
  | 6, _ => exact ⟨rfl, rfl, by decide⟩
  | 7, _ => exact ⟨rfl, rfl, by decide⟩
  | 8, _ => exact ⟨rfl, rfl, by decide⟩
  | 9, _ => exact ⟨rfl, rfl, by decide⟩
  | 10, _ => exact ⟨rfl, rfl, by decide⟩
  | 11, _ => exact ⟨rfl, rfl, by decide⟩
  | 12, _ => exact ⟨rfl, rfl, by decide⟩
  | n + 13, h => exact absurd h (by omega)
theorem gd_lay (C : String) (T : u_T) (k : Nat) : goodWord (u_lay C T k) = true := by
  unfold u_lay
  split <;> rfl
theorem gd_uw {C : String} {T : u_T} {N : Nat} (h : ∀ w ∈ u_ws C T N, w ∈ lw_tbl) : ∀ w ∈ u_ws C T N, w ∈ TB := by
  intro w hw
  refine tb (h w hw) ?_
  obtain ⟨k, -, rfl⟩ := List.mem_map.mp hw
  exact gd_lay C T k
theorem vT_uw : ∀ c, c < 13 → ∀ w ∈ u_ws (vT c).1 (vT c).2.1 (vT c).2.2, w ∈ TB := by
  intro c hc
  match c, hc with
  | 0, _ => exact gd_uw uw_0
  | 1, _ => exact gd_uw uw_1
  | 2, _ => exact gd_uw uw_2
  | 3, _ => exact gd_uw uw_3
  | 4, _ => exact gd_uw uw_4
  | 5, _ => exact gd_uw uw_5
  | 6, _ => exact gd_uw uw_6
  | 7, _ => exact gd_uw uw_7
  | 8, _ => exact gd_uw uw_8
  | 9, _ => exact gd_uw uw_9
  | 10, _ => exact gd_uw uw_10
  | 11, _ => exact gd_uw uw_11
  | 12, _ => exact gd_uw uw_12
  | n + 13, h => exact absurd h (by omega)
theorem vT_nm : ∀ c, c < 13 → ∀ a, a < (vT c).2.2 → ∀ b, b < (vT c).2.2 → a ≠ b → ((vT c).2.1 a).2.1 ≠ ((vT c).2.1 b).2.1 := by
  intro c hc
  match c, hc with
  | 0, _ => exact nmX0
  | 1, _ => exact nmX1
  | 2, _ => exact nmX2
  | 3, _ => exact nmX3
  | 4, _ => exact nmX4
  | 5, _ => exact nmX5
  | 6, _ => exact nmX6
  | 7, _ => exact nmX7
  | 8, _ => exact nmX8
  | 9, _ => exact nmX9
  | 10, _ => exact nmX10
  | 11, _ => exact nmX11
  | 12, _ => exact nmX12
  | n + 13, h => exact absurd h (by omega)
def tcd (t : FieldType) : Nat := match t with
  | .int => 0
  | .long => 1
  | .boolean => 3
  | .object _ => 2
  | .array _ => 2
  | _ => 9
def vty (c : Nat) : Nat → FieldType := match c with
  | 0 => tyX0
  | 1 => tyX1
  | 2 => tyX2
  | 3 => tyX3
  | 4 => tyX4
  | 5 => tyX5
  | 6 => tyX6
  | 7 => tyX7
  | 8 => tyX8
  | 9 => tyX9
  | 10 => tyX10
  | 11 => tyX11
  | 12 => tyX12
  | _ => fun _ => .int
theorem vT_ty : ∀ c, c < 13 → ∀ k, k < (vT c).2.2 → parseFieldDescriptor ((vT c).2.1 k).2.2.1 = some (vty c k) := by
  intro c hc
  match c, hc with
  | 0, _ => exact tyX0_ok
  | 1, _ => exact tyX1_ok
  | 2, _ => exact tyX2_ok
  | 3, _ => exact tyX3_ok
  | 4, _ => exact tyX4_ok
  | 5, _ => exact tyX5_ok
  | 6, _ => exact tyX6_ok
  | 7, _ => exact tyX7_ok
  | 8, _ => exact tyX8_ok
  | 9, _ => exact tyX9_ok
  | 10, _ => exact tyX10_ok
  | 11, _ => exact tyX11_ok
  | 12, _ => exact tyX12_ok
  | n + 13, h => exact absurd h (by omega)
theorem vtd_0 : ∀ k, k < 8 → tcd (tyX0 k) = fty (0 + k) ∧ (TX0 k).1 = RX0 ∧ (TX0 k).2.2.2 = ffin (0 + k) := by decide +kernel
theorem vtd_1 : ∀ k, k < 6 → tcd (tyX1 k) = fty (100 + k) ∧ (TX1 k).1 = RX1 ∧ (TX1 k).2.2.2 = ffin (100 + k) := by decide +kernel
theorem vtd_2 : ∀ k, k < 7 → tcd (tyX2 k) = fty (200 + k) ∧ (TX2 k).1 = RX2 ∧ (TX2 k).2.2.2 = ffin (200 + k) := by decide +kernel
theorem vtd_3 : ∀ k, k < 2 → tcd (tyX3 k) = fty (300 + k) ∧ (TX3 k).1 = RX3 ∧ (TX3 k).2.2.2 = ffin (300 + k) := by decide +kernel
theorem vtd_4 : ∀ k, k < 2 → tcd (tyX4 k) = fty (400 + k) ∧ (TX4 k).1 = RX4 ∧ (TX4 k).2.2.2 = ffin (400 + k) := by decide +kernel
theorem vtd_5 : ∀ k, k < 18 → tcd (tyX5 k) = fty (500 + k) ∧ (TX5 k).1 = RX5 ∧ (TX5 k).2.2.2 = ffin (500 + k) := by decide +kernel
theorem vtd_6 : ∀ k, k < 6 → tcd (tyX6 k) = fty (600 + k) ∧ (TX6 k).1 = RX6 ∧ (TX6 k).2.2.2 = ffin (600 + k) := by decide +kernel
theorem vtd_7 : ∀ k, k < 7 → tcd (tyX7 k) = fty (700 + k) ∧ (TX7 k).1 = RX7 ∧ (TX7 k).2.2.2 = ffin (700 + k) := by decide +kernel
theorem vtd_8 : ∀ k, k < 6 → tcd (tyX8 k) = fty (800 + k) ∧ (TX8 k).1 = RX8 ∧ (TX8 k).2.2.2 = ffin (800 + k) := by decide +kernel
theorem vtd_9 : ∀ k, k < 7 → tcd (tyX9 k) = fty (900 + k) ∧ (TX9 k).1 = RX9 ∧ (TX9 k).2.2.2 = ffin (900 + k) := by decide +kernel
theorem vtd_10 : ∀ k, k < 3 → tcd (tyX10 k) = fty (1000 + k) ∧ (TX10 k).1 = RX10 ∧ (TX10 k).2.2.2 = ffin (1000 + k) := by decide +kernel
theorem vtd_11 : ∀ k, k < 10 → tcd (tyX11 k) = fty (1100 + k) ∧ (TX11 k).1 = RX11 ∧ (TX11 k).2.2.2 = ffin (1100 + k) := by decide +kernel
theorem vtd_12 : ∀ k, k < 88 → tcd (tyX12 k) = fty (1200 + k) ∧ (TX12 k).1 = RX12 ∧ (TX12 k).2.2.2 = ffin (1200 + k) := by decide +kernel
theorem vT_td : ∀ c, c < 13 → ∀ k, k < (vT c).2.2 → tcd (vty c k) = fty (100 * c + k) ∧ ((vT c).2.1 k).1 = (vT c).1 ∧ ((vT c).2.1 k).2.2.2 = ffin (100 * c + k) := by
  intro c hc
  match c, hc with
  | 0, _ => exact vtd_0
  | 1, _ => exact vtd_1
  | 2, _ => exact vtd_2
  | 3, _ => exact vtd_3
  | 4, _ => exact vtd_4
  | 5, _ => exact vtd_5
  | 6, _ => exact vtd_6
  | 7, _ => exact vtd_7
  | 8, _ => exact vtd_8
  | 9, _ => exact vtd_9
  | 10, _ => exact vtd_10
  | 11, _ => exact vtd_11
  | 12, _ => exact vtd_12
  | n + 13, h => exact absurd h (by omega)
