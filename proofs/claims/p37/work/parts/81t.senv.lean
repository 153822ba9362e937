set_option maxHeartbeats 4000000 in
set_option maxRecDepth 100000 in
theorem sv_ex : ∀ i, i < 7 → (Cond.exactly (strT i) "java/lang/String") ∈ flatC (Jvm.Cond.and given_1 narrow_1) := by decide +kernel
set_option maxHeartbeats 4000000 in
set_option maxRecDepth 100000 in
theorem sv_co : ∀ i, i < 7 → (Cond.eq (.field (strT i) "java/lang/String" "coder" "B") (.int 0)) ∈ flatC (Jvm.Cond.and given_1 narrow_1) := by decide +kernel
set_option maxHeartbeats 4000000 in
set_option maxRecDepth 100000 in
theorem sv_ar : ∀ i, i < 7 → (Cond.arrayOf (.field (strT i) "java/lang/String" "value" "[B") .byte) ∈ flatC (Jvm.Cond.and given_1 narrow_1) := by decide +kernel
set_option maxHeartbeats 4000000 in
set_option maxRecDepth 100000 in
theorem sv_le : ∀ i, i < 7 → (Cond.eq (.length (.field (strT i) "java/lang/String" "value" "[B")) (.int (Int32.ofNat (lenS.getD i 0)))) ∈ flatC (Jvm.Cond.and given_1 narrow_1) := by decide +kernel
set_option maxHeartbeats 4000000 in
set_option maxRecDepth 100000 in
theorem sv_el0 : ∀ j, j < 49 → (Cond.eq (.elem (.field (strT 0) "java/lang/String" "value" "[B") (.int (Int32.ofNat j))) (.int ((bytS.getD 0 []).getD j 0))) ∈ flatC (Jvm.Cond.and given_1 narrow_1) := by
  intro j hj
  by_cases h0 : j < 24
  · exact sv_el0_0 j h0
  by_cases h1 : j < 48
  · have h9 := sv_el0_24 (j - 24) (by omega)
    rw [show 24 + (j - 24) = j by omega] at h9
    exact h9
  have h9 := sv_el0_48 (j - 48) (by omega)
  rw [show 48 + (j - 48) = j by omega] at h9
  exact h9
set_option maxHeartbeats 4000000 in
set_option maxRecDepth 100000 in
theorem sv_el1 : ∀ j, j < 91 → (Cond.eq (.elem (.field (strT 1) "java/lang/String" "value" "[B") (.int (Int32.ofNat j))) (.int ((bytS.getD 1 []).getD j 0))) ∈ flatC (Jvm.Cond.and given_1 narrow_1) := by
  intro j hj
  by_cases h0 : j < 24
  · exact sv_el1_0 j h0
  by_cases h1 : j < 48
  · have h9 := sv_el1_24 (j - 24) (by omega)
    rw [show 24 + (j - 24) = j by omega] at h9
    exact h9
  by_cases h2 : j < 72
  · have h9 := sv_el1_48 (j - 48) (by omega)
    rw [show 48 + (j - 48) = j by omega] at h9
    exact h9
  have h9 := sv_el1_72 (j - 72) (by omega)
  rw [show 72 + (j - 72) = j by omega] at h9
  exact h9
set_option maxHeartbeats 4000000 in
set_option maxRecDepth 100000 in
theorem sv_el2 : ∀ j, j < 77 → (Cond.eq (.elem (.field (strT 2) "java/lang/String" "value" "[B") (.int (Int32.ofNat j))) (.int ((bytS.getD 2 []).getD j 0))) ∈ flatC (Jvm.Cond.and given_1 narrow_1) := by
  intro j hj
  by_cases h0 : j < 24
  · exact sv_el2_0 j h0
  by_cases h1 : j < 48
  · have h9 := sv_el2_24 (j - 24) (by omega)
    rw [show 24 + (j - 24) = j by omega] at h9
    exact h9
  by_cases h2 : j < 72
  · have h9 := sv_el2_48 (j - 48) (by omega)
    rw [show 48 + (j - 48) = j by omega] at h9
    exact h9
  have h9 := sv_el2_72 (j - 72) (by omega)
  rw [show 72 + (j - 72) = j by omega] at h9
  exact h9
set_option maxHeartbeats 4000000 in
set_option maxRecDepth 100000 in
theorem sv_el3 : ∀ j, j < 6 → (Cond.eq (.elem (.field (strT 3) "java/lang/String" "value" "[B") (.int (Int32.ofNat j))) (.int ((bytS.getD 3 []).getD j 0))) ∈ flatC (Jvm.Cond.and given_1 narrow_1) := by decide +kernel
set_option maxHeartbeats 4000000 in
set_option maxRecDepth 100000 in
theorem sv_el4 : ∀ j, j < 4 → (Cond.eq (.elem (.field (strT 4) "java/lang/String" "value" "[B") (.int (Int32.ofNat j))) (.int ((bytS.getD 4 []).getD j 0))) ∈ flatC (Jvm.Cond.and given_1 narrow_1) := by decide +kernel
set_option maxHeartbeats 4000000 in
set_option maxRecDepth 100000 in
theorem sv_el5 : ∀ j, j < 1 → (Cond.eq (.elem (.field (strT 5) "java/lang/String" "value" "[B") (.int (Int32.ofNat j))) (.int ((bytS.getD 5 []).getD j 0))) ∈ flatC (Jvm.Cond.and given_1 narrow_1) := by decide +kernel
set_option maxHeartbeats 4000000 in
set_option maxRecDepth 100000 in
theorem sv_el6 : ∀ j, j < 7 → (Cond.eq (.elem (.field (strT 6) "java/lang/String" "value" "[B") (.int (Int32.ofNat j))) (.int ((bytS.getD 6 []).getD j 0))) ∈ flatC (Jvm.Cond.and given_1 narrow_1) := by decide +kernel
theorem sv_el : ∀ i, i < 7 → ∀ j, j < lenS.getD i 0 → (Cond.eq (.elem (.field (strT i) "java/lang/String" "value" "[B") (.int (Int32.ofNat j))) (.int ((bytS.getD i []).getD j 0))) ∈ flatC (Jvm.Cond.and given_1 narrow_1) := by
  intro i hi
  rcases (show i = 0 ∨ i = 1 ∨ i = 2 ∨ i = 3 ∨ i = 4 ∨ i = 5 ∨ i = 6 by omega) with rfl | rfl | rfl | rfl | rfl | rfl | rfl
  · exact sv_el0
  · exact sv_el1
  · exact sv_el2
  · exact sv_el3
  · exact sv_el4
  · exact sv_el5
  · exact sv_el6
set_option maxHeartbeats 4000000 in
set_option maxRecDepth 100000 in
theorem sv_ne : ∀ i, i < 7 → ∀ j, j < 7 → i ≠ j → (Cond.not (Cond.eq (strT i) (strT j))) ∈ flatC (Jvm.Cond.and given_1 narrow_1) ∨ (Cond.not (Cond.eq (strT j) (strT i))) ∈ flatC (Jvm.Cond.and given_1 narrow_1) := by decide +kernel
set_option maxHeartbeats 4000000 in
set_option maxRecDepth 100000 in
theorem senv_of {args : Array Value} {s : State} {A : Nat → Prop} (hts : ∀ w ∈ lw_tbl, w.before args s = true) (hflat : ∀ c ∈ flatC (Jvm.Cond.and given_1 narrow_1), c.before args s = true) (hAn : ∀ a, a < s.heap.size → ¬ A a) : ∃ adK adV : Nat → Nat, SEnv adK adV A s s.heap := by
  obtain ⟨adK, adV, h1, h2⟩ := vk_Sof (N := 7) (tm := strT) (len := lenS) (byt := bytS) (A := A) (by decide) (fun i hi => hflat _ (sv_ex i hi)) (fun i hi => hflat _ (sv_co i hi)) (fun i hi => hflat _ (sv_ar i hi)) (fun i hi => hflat _ (sv_le i hi)) (fun i hi j hj => hflat _ (sv_el i hi j hj)) (fun i j hi hj hij => (sv_ne i hi j hj hij).imp (hflat _) (hflat _)) hAn
  exact ⟨adK, adV, h1, va_Zof (hts (.laysStatic "java/lang/String" "COMPACT_STRINGS" "Z") (List.mem_append_right _ (List.mem_append_right _ (List.mem_append_left _ (List.mem_of_getElem? (i := 226) rfl))))) (hts (.initialized "java/lang/String") (List.mem_append_right _ (List.mem_append_left _ (List.mem_of_getElem? (i := 15) rfl)))) (va_eqt (hflat _ (by decide +kernel))) hAn, va_Zqof (hts (.laysStatic "jdk/internal/util/Preconditions" "SIOOBE_FORMATTER" "Ljava/util/function/BiFunction;") (List.mem_append_right _ (List.mem_append_right _ (List.mem_append_right _ (List.mem_append_left _ (List.mem_of_getElem? (i := 2) rfl)))))) (hts (.initialized "jdk/internal/util/Preconditions") (List.mem_append_right _ (List.mem_append_left _ (List.mem_of_getElem? (i := 17) rfl)))) (hflat _ (by decide +kernel)) hAn, vk_R.of (hts (.stringRef RX5 62 "sea    thick  lump   boat   heat   cools  skin   ") (List.mem_append_right _ (List.mem_append_right _ (List.mem_append_left _ (List.mem_of_getElem? (i := 212) rfl))))) (h2 0 (by decide)), vk_R.of (hts (.stringRef RX5 68 "stir   row    column on     back   east   south  west   north  flour  milk   stove  day    ") (List.mem_append_right _ (List.mem_append_right _ (List.mem_append_right _ (List.mem_append_left _ (List.mem_of_getElem? (i := 25) rfl)))))) (h2 1 (by decide)), vk_R.of (hts (.stringRef RX5 70 "or     and    not    eaten  afloat landed by     load   depth  left   number ") (List.mem_append_right _ (List.mem_append_right _ (List.mem_append_right _ (List.mem_append_left _ (List.mem_of_getElem? (i := 26) rfl)))))) (h2 2 (by decide)), vk_R.of (hts (.stringRef RX11 314 " eaten") (List.mem_append_right _ (List.mem_append_right _ (List.mem_append_right _ (List.mem_append_right _ (List.mem_append_right _ (List.mem_append_left _ (List.mem_of_getElem? (i := 39) rfl)))))))) (h2 3 (by decide)), vk_R.of (hts (.stringRef RX11 319 " at ") (List.mem_append_right _ (List.mem_append_right _ (List.mem_append_right _ (List.mem_append_right _ (List.mem_append_right _ (List.mem_append_left _ (List.mem_of_getElem? (i := 46) rfl)))))))) (h2 4 (by decide)), vk_R.of (hts (.stringRef RX11 327 " ") (List.mem_append_right _ (List.mem_append_right _ (List.mem_append_right _ (List.mem_append_right _ (List.mem_append_right _ (List.mem_append_left _ (List.mem_of_getElem? (i := 51) rfl)))))))) (h2 5 (by decide)), vk_R.of (hts (.stringRef RX11 332 " sinks ") (List.mem_append_right _ (List.mem_append_right _ (List.mem_append_right _ (List.mem_append_right _ (List.mem_append_right _ (List.mem_append_left _ (List.mem_of_getElem? (i := 52) rfl)))))))) (h2 6 (by decide))⟩
