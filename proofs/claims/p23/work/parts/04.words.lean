/-- the links to a nest mate's members -/
def lw_nl : List (String × Nat × MethodName) := [(RX8, 9, yX2_init), (RX2, 11, yX6_init), (RX2, 27, yX3_init), (RX2, 34, yX7_init), (RX1, 17, yX2_init), (RX8, 31, yX4_init), (RX2, 53, yX8_bitOf), (RX0, 34, yX8_columnOf), (RX0, 57, yX8_bitOf), (RX3, 27, yX8_bitOf), (RX2, 120, yX8_columnOf), (RX6, 38, yX8_bitOf)]
def lw_nest : List Cond := lw_nl.map (fun q => .methodLinkNest q.1 q.2.1 q.2.2 "PulledPanels")
theorem x_nestIn : ∀ v ∈ lw_nest, v ∈ lw_tbl := by decide +kernel
theorem x_nestT : ∀ v ∈ lw_nest, v.onTables = true := by
  intro v hv
  obtain ⟨q, -, rfl⟩ := List.mem_map.mp hv
  rfl
theorem x_nestW : ∀ v ∈ lw_nest, ∀ {s U : State}, s.WarmedH U.vm → va_Nw v s → va_Nw v U := by
  intro v hv s U hW h
  obtain ⟨q, -, rfl⟩ := List.mem_map.mp hv
  exact va_Nw.warmM hW h
theorem x_maxS : Cond.static Lib.Math.max.name ∈ lw_good := x_good 44 (by decide +kernel) rfl
theorem x_minS : Cond.static Lib.Math.min.name ∈ lw_good := x_good 334 (by decide +kernel) rfl
theorem x_mathI : Cond.initialized "java/lang/Math" ∈ lw_good := x_good 9 (by decide +kernel) rfl
theorem x_sysI : Cond.initialized "java/lang/System" ∈ lw_good := x_good 16 (by decide +kernel) rfl
theorem x_copyS : Cond.static arraycopyName ∈ lw_good := x_good 337 (by decide +kernel) rfl
theorem x_copyN : Cond.native arraycopyName ∈ lw_good := x_good 338 (by decide +kernel) rfl
theorem x_maxC : Cond.code Lib.Math.max.name Lib.Math.max.code 2 (some .int) ∈ lw_good := x_good 45 (by decide +kernel) rfl
theorem x_minC : Cond.code Lib.Math.min.name Lib.Math.min.code 2 (some .int) ∈ lw_good := x_good 335 (by decide +kernel) rfl
