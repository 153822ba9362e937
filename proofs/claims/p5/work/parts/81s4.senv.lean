set_option maxHeartbeats 4000000 in
set_option maxRecDepth 100000 in
theorem sv_el2_24 : ∀ j, j < 24 → (Cond.eq (.elem (.field (strT 2) "java/lang/String" "value" "[B") (.int (Int32.ofNat (24 + j)))) (.int ((bytS.getD 2 []).getD (24 + j) 0))) ∈ flatC (Jvm.Cond.and given_1 narrow_1) := by decide +kernel
set_option maxHeartbeats 4000000 in
set_option maxRecDepth 100000 in
theorem sv_el2_48 : ∀ j, j < 24 → (Cond.eq (.elem (.field (strT 2) "java/lang/String" "value" "[B") (.int (Int32.ofNat (48 + j)))) (.int ((bytS.getD 2 []).getD (48 + j) 0))) ∈ flatC (Jvm.Cond.and given_1 narrow_1) := by decide +kernel
