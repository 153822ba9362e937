set_option maxHeartbeats 4000000 in
set_option maxRecDepth 100000 in
theorem sv_el1_72 : ∀ j, j < 19 → (Cond.eq (.elem (.field (strT 1) "java/lang/String" "value" "[B") (.int (Int32.ofNat (72 + j)))) (.int ((bytS.getD 1 []).getD (72 + j) 0))) ∈ flatC (Jvm.Cond.and given_1 narrow_1) := by decide +kernel
set_option maxHeartbeats 4000000 in
set_option maxRecDepth 100000 in
theorem sv_el2_0 : ∀ j, j < 24 → (Cond.eq (.elem (.field (strT 2) "java/lang/String" "value" "[B") (.int (Int32.ofNat j))) (.int ((bytS.getD 2 []).getD j 0))) ∈ flatC (Jvm.Cond.and given_1 narrow_1) := by decide +kernel
