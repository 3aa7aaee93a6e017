set_option maxRecDepth 100000 in
theorem ld_tX1 : ∀ w ∈ wsX10, w ∈ lw_tbl := by decide +kernel
set_option maxRecDepth 100000 in
theorem ld_tX2 : ∀ w ∈ wsX20, w ∈ lw_tbl := by decide +kernel
set_option maxRecDepth 100000 in
theorem ld_tX3 : ∀ w ∈ wsX30, w ∈ lw_tbl := by decide +kernel
theorem ld_tall : ∀ w ∈ wsL_law, w ∈ lw_tbl := List.forall_mem_append.mpr ⟨List.forall_mem_append.mpr ⟨List.forall_mem_append.mpr ⟨List.forall_mem_append.mpr ⟨List.forall_mem_append.mpr ⟨List.forall_mem_append.mpr ⟨ld_tk1, List.forall_mem_append.mpr ⟨ld_tk2, List.forall_mem_append.mpr ⟨ld_tk3, List.forall_mem_append.mpr ⟨ld_tk4, List.forall_mem_append.mpr ⟨ld_tk5, List.forall_mem_append.mpr ⟨ld_tk6, List.forall_mem_append.mpr ⟨ld_tk7, List.forall_mem_append.mpr ⟨ld_tk8, List.forall_mem_append.mpr ⟨ld_tk9, List.forall_mem_append.mpr ⟨ld_tk10, List.forall_mem_append.mpr ⟨ld_tk11, List.forall_mem_append.mpr ⟨ld_tk12, List.forall_mem_append.mpr ⟨ld_tk13, List.forall_mem_append.mpr ⟨ld_tk14, List.forall_mem_append.mpr ⟨ld_tk15, List.forall_mem_append.mpr ⟨ld_tk16, List.forall_mem_append.mpr ⟨ld_tk17, List.forall_mem_append.mpr ⟨ld_tk18, List.forall_mem_append.mpr ⟨ld_tk19, List.forall_mem_append.mpr ⟨ld_tk20, List.forall_mem_append.mpr ⟨ld_tk21, List.forall_mem_append.mpr ⟨ld_tk22, List.forall_mem_append.mpr ⟨ld_tk23, List.forall_mem_append.mpr ⟨ld_tk24, List.forall_mem_append.mpr ⟨ld_tk25, List.forall_mem_append.mpr ⟨ld_tk26, ld_tk27⟩⟩⟩⟩⟩⟩⟩⟩⟩⟩⟩⟩⟩⟩⟩⟩⟩⟩⟩⟩⟩⟩⟩⟩⟩⟩, ld_tX2⟩, ld_tX3⟩, ld_tX1⟩, ld_tX0⟩, fun _ h => absurd h List.not_mem_nil⟩
set_option maxRecDepth 100000 in
theorem ld_nwt : ∀ w ∈ ld_nws, w ∈ lw_tbl := by decide +kernel
set_option maxRecDepth 100000 in
theorem ld_aot : Cond.arrayOver (.object RX0) ∈ lw_tbl := by decide +kernel
theorem ld_nwS {A : Array Value} {s : State} (hts : ∀ w ∈ lw_tbl, w.before A s = true) : ld_NW s := by
  intro w hw
  have h := hts w (ld_nwt w hw)
  have h2 := ld_NW_all w hw
  cases w <;> first | exact va_tabs rfl rfl h | cases h2
theorem ld_aoS {A : Array Value} {s : State} (hts : ∀ w ∈ lw_tbl, w.before A s = true) : va_AO RX0 s := va_AO.of (hts _ ld_aot)
