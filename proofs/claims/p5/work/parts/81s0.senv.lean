def strT (i : Nat) : Term := ([Term.string RX5 62, Term.string RX5 68, Term.string RX5 70, Term.string RX11 314, Term.string RX11 319, Term.string RX11 327, Term.string RX11 332] : List Term).getD i (Term.string RX5 62)
set_option maxHeartbeats 4000000 in
set_option maxRecDepth 100000 in
theorem sv_el0_0 : ∀ j, j < 24 → (Cond.eq (.elem (.field (strT 0) "java/lang/String" "value" "[B") (.int (Int32.ofNat j))) (.int ((bytS.getD 0 []).getD j 0))) ∈ flatC (Jvm.Cond.and given_1 narrow_1) := by decide +kernel
set_option maxHeartbeats 4000000 in
set_option maxRecDepth 100000 in
theorem sv_el0_24 : ∀ j, j < 24 → (Cond.eq (.elem (.field (strT 0) "java/lang/String" "value" "[B") (.int (Int32.ofNat (24 + j)))) (.int ((bytS.getD 0 []).getD (24 + j) 0))) ∈ flatC (Jvm.Cond.and given_1 narrow_1) := by decide +kernel
