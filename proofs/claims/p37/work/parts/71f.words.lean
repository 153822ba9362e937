theorem tw_1688 : (Cond.code yX11_count cX11_count 2 (some .int)) ∈ lw_tbl := List.mem_append_right _ (List.mem_append_right _ (List.mem_append_right _ (List.mem_append_left _ (List.mem_of_getElem? (i := 184) rfl))))
theorem tw_1689 : (Cond.fieldLink RX11 203 "PorridgeSea$Sea" "lumps" "I") ∈ lw_tbl := List.mem_append_right _ (List.mem_append_left _ (List.mem_of_getElem? (i := 123) rfl))
set_option maxRecDepth 20000 in
theorem in_wsX11_count : ∀ w ∈ wsX11_count, w ∈ lw_tbl := by
  unfold wsX11_count
  exact (List.forall_mem_cons.mpr ⟨tw_1688, (List.forall_mem_append.mpr ⟨(List.forall_mem_append.mpr ⟨(List.forall_mem_cons.mpr ⟨tw_139, (List.forall_mem_cons.mpr ⟨tw_1261, (List.forall_mem_cons.mpr ⟨tw_1262, (List.forall_mem_cons.mpr ⟨tw_1689, (List.forall_mem_cons.mpr ⟨tw_1283, (List.forall_mem_cons.mpr ⟨tw_1019, (List.forall_mem_cons.mpr ⟨tw_1018, (List.forall_mem_cons.mpr ⟨tw_144, (fun _ h => absurd h List.not_mem_nil)⟩)⟩)⟩)⟩)⟩)⟩)⟩)⟩), in_wsX110⟩), in_wsX70⟩)⟩)
theorem tw_1690 : (Cond.selects RX11 yX11_count yX11_count) ∈ lw_tbl := List.mem_append_right _ (List.mem_append_right _ (List.mem_append_right _ (List.mem_append_left _ (List.mem_of_getElem? (i := 183) rfl))))
theorem tw_1691 : (Cond.instanceMethod yX11_count) ∈ lw_tbl := List.mem_append_right _ (List.mem_append_right _ (List.mem_append_right _ (List.mem_append_left _ (List.mem_of_getElem? (i := 182) rfl))))
theorem tw_1692 : (Cond.methodLink RL 184 yX11_count) ∈ lw_tbl := List.mem_append_right _ (List.mem_append_right _ (List.mem_append_right _ (List.mem_append_left _ (List.mem_of_getElem? (i := 181) rfl))))
set_option maxRecDepth 20000 in
theorem gl_X11_count : GoodIn lw_tbl (wsV RL 184 RX11 yX11_count wsX11_count) := goodIn_sub (List.forall_mem_append.mpr ⟨(List.forall_mem_cons.mpr ⟨tw_1692, (List.forall_mem_cons.mpr ⟨tw_1691, (List.forall_mem_cons.mpr ⟨tw_1690, (List.forall_mem_cons.mpr ⟨tw_322, (fun _ h => absurd h List.not_mem_nil)⟩)⟩)⟩)⟩), in_wsX11_count⟩) (by decide +kernel)
theorem tw_1693 : (Cond.code yX12_count cX12_count 2 (some .int)) ∈ lw_tbl := List.mem_append_right _ (List.mem_append_right _ (List.mem_append_right _ (List.mem_append_right _ (List.mem_append_right _ (List.mem_append_right _ (List.mem_append_right _ (List.mem_append_right _ (List.mem_append_right _ (List.mem_of_getElem? (i := 2) rfl)))))))))
set_option maxRecDepth 20000 in
theorem in_wsX12_count : ∀ w ∈ wsX12_count, w ∈ lw_tbl := by
  unfold wsX12_count
  exact (List.forall_mem_cons.mpr ⟨tw_1693, (List.forall_mem_append.mpr ⟨(List.forall_mem_cons.mpr ⟨tw_335, (List.forall_mem_cons.mpr ⟨tw_298, (List.forall_mem_cons.mpr ⟨tw_334, (fun _ h => absurd h List.not_mem_nil)⟩)⟩)⟩), in_wsX120⟩)⟩)
theorem tw_1694 : (Cond.selects RX12 yX12_count yX12_count) ∈ lw_tbl := List.mem_append_right _ (List.mem_append_right _ (List.mem_append_right _ (List.mem_append_right _ (List.mem_append_right _ (List.mem_append_right _ (List.mem_append_right _ (List.mem_append_right _ (List.mem_append_right _ (List.mem_of_getElem? (i := 1) rfl)))))))))
theorem tw_1695 : (Cond.instanceMethod yX12_count) ∈ lw_tbl := List.mem_append_right _ (List.mem_append_right _ (List.mem_append_right _ (List.mem_append_right _ (List.mem_append_right _ (List.mem_append_right _ (List.mem_append_right _ (List.mem_append_right _ (List.mem_append_right _ (List.mem_of_getElem? (i := 0) rfl)))))))))
theorem tw_1696 : (Cond.methodLink RL 187 yX12_count) ∈ lw_tbl := List.mem_append_right _ (List.mem_append_right _ (List.mem_append_right _ (List.mem_append_right _ (List.mem_append_right _ (List.mem_append_right _ (List.mem_append_right _ (List.mem_append_right _ (List.mem_append_left _ (List.mem_of_getElem? (i := 239) rfl)))))))))
set_option maxRecDepth 20000 in
theorem gl_X12_count : GoodIn lw_tbl (wsV RL 187 RX12 yX12_count wsX12_count) := goodIn_sub (List.forall_mem_append.mpr ⟨(List.forall_mem_cons.mpr ⟨tw_1696, (List.forall_mem_cons.mpr ⟨tw_1695, (List.forall_mem_cons.mpr ⟨tw_1694, (List.forall_mem_cons.mpr ⟨tw_306, (fun _ h => absurd h List.not_mem_nil)⟩)⟩)⟩)⟩), in_wsX12_count⟩) (by decide +kernel)
