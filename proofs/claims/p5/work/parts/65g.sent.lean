section SentSpec
/-- what may be said, read from a place on: the next place, the ONES so far -/
abbrev SRes := Except (Nat × Nat) (Nat × Nat)
def srP : SRes → Nat
  | .error _ => 0
  | .ok v => v.1
def srO : SRes → Nat
  | .error _ => 0
  | .ok v => v.2
/-- the NAME of a LUMP -/
def pBy (B : Nat → Nat) (n m : Nat) (ν : Nat → Nat) (L p : Nat) : Except (Nat × Nat) Nat :=
  if tW B n m p ≠ 31 then .error (1, tF B n m p) else if isFd ν 0 L (tC B n p) then .ok (tT B n m p) else .error (3, tF B n m p)
/-- a sign and a NUMBER -/
def pCmp (B : Nat → Nat) (n m p : Nat) : Except (Nat × Nat) Nat :=
  if tK B n m p = 60 ∨ tK B n m p = 61 ∨ tK B n m p = 62 then
    match pNum B n m 0 999 (tT B n m p) with
    | .error e => .error e
    | .ok _ => .ok (tT B n m (tT B n m p))
  else .error (1, tF B n m p)
def sLoop (B : Nat → Nat) (n m w : Nat) (f : Nat → Nat → SRes) : Nat → Nat → Nat → SRes
  | 0, p, o => .ok (p, o)
  | k + 1, p, o => if tW B n m p = w then
      match f (tT B n m p) o with
      | .error e => .error e
      | .ok v => sLoop B n m w f k v.1 v.2
    else .ok (p, o)
def sSeq (B : Nat → Nat) (n m w : Nat) (f : Nat → Nat → SRes) (p o : Nat) : SRes :=
  match f p o with
  | .error e => .error e
  | .ok v => sLoop B n m w f 30 v.1 v.2
abbrev sFst (B : Nat → Nat) (n m p : Nat) : Prop := tK B n m p = 40 ∨ (22 ≤ tW B n m p ∧ tW B n m p ≤ 30)
def sAt (x : Except (Nat × Nat) Nat) (o : Nat) : SRes :=
  match x with
  | .error e => .error e
  | .ok q => .ok (q, o)
def sBr (B : Nat → Nat) (n m : Nat) (x : SRes) : SRes :=
  match x with
  | .error e => .error e
  | .ok v => if tK B n m v.1 = 41 then .ok (tT B n m v.1, v.2) else .error (1, tF B n m v.1)
/-- one thing said, at most d of them within each other -/
def sOne (B : Nat → Nat) (n m : Nat) (ν : Nat → Nat) (L : Nat) : Nat → Nat → Nat → SRes
  | 0, p, _ => if sFst B n m p then .error (4, tF B n m p) else .error (1, tF B n m p)
  | d + 1, p, o => if sFst B n m p then
      (if 20 ≤ o then .error (4, tF B n m p)
      else if tK B n m p = 40 then sBr B n m (sSeq B n m 20 (sSeq B n m 21 (sOne B n m ν L d)) (tT B n m p) (o + 1))
      else if tW B n m p = 22 then sOne B n m ν L d (tT B n m p) (o + 1)
      else if tW B n m p = 26 then sAt (pBy B n m ν L (tT B n m p)) (o + 1)
      else if 27 ≤ tW B n m p then sAt (pCmp B n m (tT B n m p)) (o + 1)
      else .ok (tT B n m p, o + 1))
    else .error (1, tF B n m p)
def sAnd (B : Nat → Nat) (n m : Nat) (ν : Nat → Nat) (L d p o : Nat) : SRes := sSeq B n m 21 (sOne B n m ν L d) p o
def sOr (B : Nat → Nat) (n m : Nat) (ν : Nat → Nat) (L d p o : Nat) : SRes := sSeq B n m 20 (sAnd B n m ν L d) p o
/-- a SENTENCE: its ONES -/
def pSent (B : Nat → Nat) (n : Nat) (ν : Nat → Nat) (L : Nat) : Except (Nat × Nat) Nat :=
  match sOr B n 200 ν L 8 0 0 with
  | .error e => .error e
  | .ok v => if tK B n 200 v.1 = 0 then .ok v.2 else .error (1, tF B n 200 v.1)
def Mn (f : Nat → Nat → SRes) : Prop := ∀ p o v, f p o = .ok v → o < v.2 ∧ v.2 ≤ 20
section SentRows
variable {B : Nat → Nat} {n m w p o : Nat} {ν : Nat → Nat} {L d : Nat} {f : Nat → Nat → SRes}
theorem isOk {α : Type} {x : Except (Nat × Nat) α} (h : isO x = true) : ∃ v, x = .ok v := by
  cases x with
  | error e => exact Bool.noConfusion h
  | ok v => exact ⟨v, rfl⟩
theorem sL_mn (hf : Mn f) : ∀ k p o v, o ≤ 20 → sLoop B n m w f k p o = .ok v → o ≤ v.2 ∧ v.2 ≤ 20 := by
  intro k
  induction k with
  | zero =>
    intro p o v ho h
    rw [sLoop] at h
    injection h with h
    subst h
    exact ⟨Nat.le_refl _, ho⟩
  | succ k ih =>
    intro p o v ho h
    rw [sLoop] at h
    by_cases q : tW B n m p = w
    · rw [if_pos q] at h
      cases h1 : f (tT B n m p) o with
      | error e => rw [h1] at h; exact absurd h (by simp)
      | ok u =>
        rw [h1] at h
        have h2 := hf _ _ _ h1
        have h3 := ih _ _ _ h2.2 h
        omega
    · rw [if_neg q] at h
      injection h with h
      subst h
      exact ⟨Nat.le_refl _, ho⟩
theorem sSeq_mn (hf : Mn f) : Mn (sSeq B n m w f) := by
  intro p o v h
  unfold sSeq at h
  cases h1 : f p o with
  | error e => rw [h1] at h; exact absurd h (by simp)
  | ok u =>
    rw [h1] at h
    have h2 := hf _ _ _ h1
    have h3 := sL_mn hf _ _ _ _ h2.2 h
    omega
theorem sAt_mn {x : Except (Nat × Nat) Nat} {v : Nat × Nat} (h : sAt x o = .ok v) : v.2 = o := by
  cases x with
  | error e => exact absurd h (by simp [sAt])
  | ok q => injection h with h; rw [← h]
theorem sBr_mn {x : SRes} {v : Nat × Nat} (h : sBr B n m x = .ok v) : ∃ u, x = .ok u ∧ v.2 = u.2 := by
  cases x with
  | error e => exact absurd h (by simp [sBr])
  | ok u =>
    unfold sBr at h
    dsimp only at h
    by_cases q : tK B n m u.1 = 41
    · rw [if_pos q] at h
      injection h with h
      exact ⟨u, rfl, by rw [← h]⟩
    · rw [if_neg q] at h; exact absurd h (by simp)
theorem sOne_mn (d : Nat) : Mn (sOne B n m ν L d) := by
  induction d with
  | zero =>
    intro p o v h
    rw [sOne] at h
    split at h <;> exact absurd h (by simp)
  | succ d ih =>
    intro p o v h
    rw [sOne] at h
    split at h
    · split at h
      · exact absurd h (by simp)
      · split at h
        · obtain ⟨u, h1, h2⟩ := sBr_mn h
          have h3 := sSeq_mn (sSeq_mn ih) _ _ _ h1
          omega
        · split at h
          · have h3 := ih _ _ _ h
            omega
          · split at h
            · have h3 := sAt_mn h
              omega
            · split at h
              · have h3 := sAt_mn h
                omega
              · injection h with h
                rw [← h]
                dsimp only
                omega
    · exact absurd h (by simp)
theorem sAnd_mn (d : Nat) : Mn (sAnd B n m ν L d) := sSeq_mn (sOne_mn d)
theorem sL_fuel (hf : Mn f) : ∀ k k' p o, 21 - o ≤ k → 21 - o ≤ k' → o ≤ 20 → sLoop B n m w f k p o = sLoop B n m w f k' p o := by
  intro k
  induction k with
  | zero => intro k' p o h1 h2 h3; omega
  | succ k ih =>
    intro k' p o h1 h2 h3
    cases k' with
    | zero => omega
    | succ k' =>
      rw [sLoop, sLoop]
      by_cases q : tW B n m p = w
      · rw [if_pos q, if_pos q]
        cases h4 : f (tT B n m p) o with
        | error e => rfl
        | ok v =>
          have h5 := hf _ _ _ h4
          exact ih k' v.1 v.2 (by omega) (by omega) h5.2
      · rw [if_neg q, if_neg q]
theorem sL_no (h : ¬ tW B n m p = w) : sLoop B n m w f 30 p o = .ok (p, o) := by rw [sLoop, if_neg h]
theorem sL_err (h : tW B n m p = w) (h2 : isO (f (tT B n m p) o) = false) : sLoop B n m w f 30 p o = .error (erA (f (tT B n m p) o), erB (f (tT B n m p) o)) := by
  rw [sLoop, if_pos h]
  cases h4 : f (tT B n m p) o with
  | error e => rfl
  | ok v => rw [h4] at h2; exact Bool.noConfusion h2
theorem sL_yes (hf : Mn f) (ho : o ≤ 20) (h : tW B n m p = w) (h2 : isO (f (tT B n m p) o) = true) : sLoop B n m w f 30 p o = sLoop B n m w f 30 (srP (f (tT B n m p) o)) (srO (f (tT B n m p) o)) := by
  obtain ⟨v, hv⟩ := isOk h2
  have h3 := hf _ _ _ hv
  rw [sLoop, if_pos h, hv]
  exact sL_fuel hf 29 30 v.1 v.2 (by omega) (by omega) h3.2
theorem sS_err (h2 : isO (f p o) = false) : sSeq B n m w f p o = .error (erA (f p o), erB (f p o)) := by
  unfold sSeq
  cases h4 : f p o with
  | error e => rfl
  | ok v => rw [h4] at h2; exact Bool.noConfusion h2
theorem sS_ok (h2 : isO (f p o) = true) : sSeq B n m w f p o = sLoop B n m w f 30 (srP (f p o)) (srO (f p o)) := by
  obtain ⟨v, hv⟩ := isOk h2
  unfold sSeq
  rw [hv]
  rfl
theorem so_bad (h : ¬ sFst B n m p) : sOne B n m ν L d p o = .error (1, tF B n m p) := by
  cases d with
  | zero => rw [sOne, if_neg h]
  | succ d => rw [sOne, if_neg h]
theorem so_deep (h : sFst B n m p) : sOne B n m ν L 0 p o = .error (4, tF B n m p) := by rw [sOne, if_pos h]
theorem so_full (h : sFst B n m p) (h2 : 20 ≤ o) : sOne B n m ν L d p o = .error (4, tF B n m p) := by
  cases d with
  | zero => rw [sOne, if_pos h]
  | succ d => rw [sOne, if_pos h, if_pos h2]
theorem so_br (h : tK B n m p = 40) (h2 : ¬ 20 ≤ o) : sOne B n m ν L (d + 1) p o = sBr B n m (sOr B n m ν L d (tT B n m p) (o + 1)) := by
  rw [sOne, if_pos (Or.inl h), if_neg h2, if_pos h]
  rfl
theorem so_not (h0 : ¬ tK B n m p = 40) (h : tW B n m p = 22) (h2 : ¬ 20 ≤ o) : sOne B n m ν L (d + 1) p o = sOne B n m ν L d (tT B n m p) (o + 1) := by
  rw [sOne, if_pos (Or.inr (by omega)), if_neg h2, if_neg h0, if_pos h]
theorem so_by (h0 : ¬ tK B n m p = 40) (h : tW B n m p = 26) (h2 : ¬ 20 ≤ o) : sOne B n m ν L (d + 1) p o = sAt (pBy B n m ν L (tT B n m p)) (o + 1) := by
  rw [sOne, if_pos (Or.inr (by omega)), if_neg h2, if_neg h0, if_neg (by omega), if_pos h]
theorem so_cmp (h0 : ¬ tK B n m p = 40) (h : 27 ≤ tW B n m p) (h3 : tW B n m p ≤ 30) (h2 : ¬ 20 ≤ o) : sOne B n m ν L (d + 1) p o = sAt (pCmp B n m (tT B n m p)) (o + 1) := by
  rw [sOne, if_pos (Or.inr (by omega)), if_neg h2, if_neg h0, if_neg (by omega), if_neg (by omega), if_pos h]
theorem so_at (h0 : ¬ tK B n m p = 40) (h : 23 ≤ tW B n m p) (h3 : tW B n m p ≤ 25) (h2 : ¬ 20 ≤ o) : sOne B n m ν L (d + 1) p o = .ok (tT B n m p, o + 1) := by
  rw [sOne, if_pos (Or.inr (by omega)), if_neg h2, if_neg h0, if_neg (by omega), if_neg (by omega), if_neg (by omega)]
theorem sBr_e {x : SRes} (h : isO x = false) : sBr B n m x = .error (erA x, erB x) := by
  cases x with
  | error e => rfl
  | ok v => exact Bool.noConfusion h
theorem sBr_s {x : SRes} (h : isO x = true) (h2 : ¬ tK B n m (srP x) = 41) : sBr B n m x = .error (1, tF B n m (srP x)) := by
  obtain ⟨v, rfl⟩ := isOk h
  exact if_neg h2
theorem sBr_o {x : SRes} (h : isO x = true) (h2 : tK B n m (srP x) = 41) : sBr B n m x = .ok (tT B n m (srP x), srO x) := by
  obtain ⟨v, rfl⟩ := isOk h
  exact if_pos h2
theorem sAt_e {x : Except (Nat × Nat) Nat} (h : isO x = false) : sAt x o = .error (erA x, erB x) := by
  cases x with
  | error e => rfl
  | ok v => exact Bool.noConfusion h
theorem sAt_o {x : Except (Nat × Nat) Nat} (h : isO x = true) : sAt x o = .ok (okV x, o) := by
  obtain ⟨v, rfl⟩ := isOk h
  rfl
theorem by_1 (h : ¬ tW B n m p = 31) : pBy B n m ν L p = .error (1, tF B n m p) := by unfold pBy; rw [if_pos h]
theorem by_3 (h : tW B n m p = 31) (h2 : ¬ isFd ν 0 L (tC B n p)) : pBy B n m ν L p = .error (3, tF B n m p) := by unfold pBy; rw [if_neg (fun z => z h), if_neg h2]
theorem by_o (h : tW B n m p = 31) (h2 : isFd ν 0 L (tC B n p)) : pBy B n m ν L p = .ok (tT B n m p) := by unfold pBy; rw [if_neg (fun z => z h), if_pos h2]
theorem cmp_1 (h : ¬ (tK B n m p = 60 ∨ tK B n m p = 61 ∨ tK B n m p = 62)) : pCmp B n m p = .error (1, tF B n m p) := by unfold pCmp; rw [if_neg h]
theorem cmp_e {e : Nat × Nat} (h : tK B n m p = 60 ∨ tK B n m p = 61 ∨ tK B n m p = 62) (h2 : pNum B n m 0 999 (tT B n m p) = .error e) : pCmp B n m p = .error e := by unfold pCmp; rw [if_pos h, h2]
theorem cmp_o {v : Nat} (h : tK B n m p = 60 ∨ tK B n m p = 61 ∨ tK B n m p = 62) (h2 : pNum B n m 0 999 (tT B n m p) = .ok v) : pCmp B n m p = .ok (tT B n m (tT B n m p)) := by unfold pCmp; rw [if_pos h, h2]
theorem sent_e (h : isO (sOr B n 200 ν L 8 0 0) = false) : pSent B n ν L = .error (erA (sOr B n 200 ν L 8 0 0), erB (sOr B n 200 ν L 8 0 0)) := by
  unfold pSent
  cases h1 : sOr B n 200 ν L 8 0 0 with
  | error e => rfl
  | ok v => rw [h1] at h; exact Bool.noConfusion h
theorem sent_k (h : isO (sOr B n 200 ν L 8 0 0) = true) (h2 : ¬ tK B n 200 (srP (sOr B n 200 ν L 8 0 0)) = 0) : pSent B n ν L = .error (1, tF B n 200 (srP (sOr B n 200 ν L 8 0 0))) := by
  unfold pSent
  obtain ⟨v, hv⟩ := isOk h
  rw [hv] at h2 ⊢
  exact if_neg h2
theorem sent_o (h : isO (sOr B n 200 ν L 8 0 0) = true) (h2 : tK B n 200 (srP (sOr B n 200 ν L 8 0 0)) = 0) : pSent B n ν L = .ok (srO (sOr B n 200 ν L 8 0 0)) := by
  unfold pSent
  obtain ⟨v, hv⟩ := isOk h
  rw [hv] at h2 ⊢
  exact if_pos h2
/-- the class's names (LUMPS: base 0; BOATS: base 6) -/
def NL (ν : Nat → Nat) (base L : Nat) (g : Nat → Int64) : Prop := ∀ k, k < L → g k = Int64.ofNat (ν (base + k)) ∧ GN (ν (base + k))
/-- the reference's -/
def NLm (ν : Nat → Nat) (base L : Nat) (g : Nat → Int64) : Prop := ∀ k, k < L → g (base + k) = Int64.ofNat (cv (ν (base + k))) ∧ GN (ν (base + k))
theorem NL_has {g : Nat → Int64} {base : Nat} (h : NL ν base L g) {x : Nat} (hx : GN x) : hasJ L g (Int64.ofNat x) ↔ isFd ν base L x := by
  constructor
  · rintro ⟨j, hj, e⟩
    refine ⟨j, hj, ?_⟩
    rw [(h j hj).1] at e
    exact (N8_eq (h j hj).2 hx).mp e
  · rintro ⟨j, hj, e⟩
    refine ⟨j, hj, ?_⟩
    rw [(h j hj).1, e]
theorem NLm_at {g : Nat → Int64} {base : Nat} (h : NLm ν base L g) {x k : Nat} (hx : GN x) (hk : k < L) : g (base + k) = Int64.ofNat (cv x) ↔ ν (base + k) = x := by
  rw [(h k hk).1]
  exact N27_eq (h k hk).2 hx
theorem RT_w3 {bt : Nat → Nat} {n m p bg pl : Nat} {kind word num : Int32} {lets : Int64} (h : RT bt n m p kind bg pl word num lets) : (word.toInt = ((tW bt n m p : Nat) : Int) ∧ tW bt n m p ≤ 31) ∨ (word.toInt = -1 ∧ tW bt n m p = 99) := by
  rcases h.2.2.2.1 with ⟨h1, h2⟩ | ⟨h1, h2⟩
  · refine Or.inl ?_
    have h3 : tW bt n m p ≤ 31 := by
      unfold tW
      rw [if_pos h1]
      exact wix_le _
    exact ⟨by rw [h2, ia_n _ (by omega)], h3⟩
  · refine Or.inr ⟨by rw [h2]; decide, ?_⟩
    unfold tW
    rw [if_neg h1]
end SentRows
end SentSpec
set_option maxRecDepth 20000 in
theorem lf_f_put9_1   : (nI 1) = nI 1 := by
  try have k_0 := ia_n 1 (by first | decide | omega)
  try simp only [ia_lt, ia_le, ia_eq, ia_m1, ia_0, ia_1, ne_eq, true_and, and_true, false_and, and_false, or_false, false_or, or_true, true_or, not_true_eq_false, not_false_eq_true] at *
  all_goals omega
set_option maxRecDepth 20000 in
theorem lf_f_put9_2 (ccodeCount : Nat) (iv_cse_0 : ccodeCount ≤ 40) (hc9 : ccodeCount < 40) : (ccodeCount + 1) ≤ 40 := by
  try simp only [ia_lt, ia_le, ia_eq, ia_m1, ia_0, ia_1, ne_eq, true_and, and_true, false_and, and_false, or_false, false_or, or_true, true_or, not_true_eq_false, not_false_eq_true] at *
  all_goals omega
set_option maxHeartbeats 4000000 in
set_option maxRecDepth 100000 in
theorem c_f_put9 (l : Launch) (dC : Nat → ClassId) (dI : Nat → Nat → Nat) (ky : Nat → ClassId) (sz : Nat) (se : Nat) (ccodes : Nat) (ccodeCount : Nat) (cones : Nat) (ccodesF : Nat → Int32) (x : Int32) (iv_cse_0 : ccodeCount ≤ 40) (iv_cse_1 : cones ≤ 20) (hc9 : ccodeCount < 40) : Met l yX9_put wsX9_put ({ frames := 0, cells := 0, slots := 0, locals := 0 }) (PcU dC dI ky [.ref se, .int x] [(se, .inr (9, [.ref ccodes, .int (nI ccodeCount), .int (nI cones)])), (ccodes, .inl (ky 0, 40, .inl ccodesF))] sz) (va_Qi (fun (r : Int32) (u : Nat × (Nat → Int32)) => match u with | (ccodeCountG, ccodesG) => (r = nI 1) ∧ (ccodeCountG ≤ 40) ∧ (ccodeCountG = ccodeCount + 1)) (BU dC dI ky (fun (u : Nat × (Nat → Int32)) => match u with | (ccodeCountG, ccodesG) => [(se, .inr (9, [.ref ccodes, .int (nI ccodeCountG), .int (nI cones)])), (ccodes, .inl (ky 0, 40, .inl ccodesG))]) (va_A [(se, .inr (9, [.ref ccodes, .int (nI ccodeCount), .int (nI cones)])), (ccodes, .inl (ky 0, 40, .inl ccodesF))] sz)) (va_A [(se, .inr (9, [.ref ccodes, .int (nI ccodeCount), .int (nI cones)])), (ccodes, .inl (ky 0, 40, .inl ccodesF))] sz)) 0 0 (va_A [(se, .inr (9, [.ref ccodes, .int (nI ccodeCount), .int (nI cones)])), (ccodes, .inl (ky 0, 40, .inl ccodesF))] sz) := by
  refine Met.ofW (cc := cX9_put) (maxL := 2) (ret := (some .boolean)) (by decide) rfl ?_
  intro p e s m args below meth c s₁ B hml hv
  obtain ⟨rfl, hsz, hP, hK, hD0⟩ := hv
  have hx := B.exec
  have hb := B.bytes
  have hr := B.returns
  have hts := atoms_spec (ws := wsX9_put) B.pre
  have hown : s.vm.findClass RX9 = some m.cls := findClass_of_methodNamed B.named
  have hlocks := B.notSynchronized
  have hin9 : ∀ w ∈ u_ws RX9 TX9 3, w ∈ wsX9_put := by decide +kernel
  subst hsz
  have hD := hD0.self (sz := s.heap.size)
  generalize hAe : va_A [(se, .inr (9, [.ref ccodes, .int (nI ccodeCount), .int (nI cones)])), (ccodes, .inl (ky 0, 40, .inl ccodesF))] s.heap.size = A at hD ⊢
  have hA : ∀ q : Nat, s.heap.size ≤ q → A q := fun q h => by rw [← hAe]; exact Or.inr h
  have hS : va_S A s.heap s.heap [] := va_S.rf
  have hl := lv_entry ([.ref se, .int x]) (n := 2) (Nat.le_of_ble_eq_true rfl)
  rw [lg_entry_eq]
  generalize (lg_sl ([.ref se, .int x]) ++ List.replicate (2 - (lg_sl ([.ref se, .int x])).length) Slot.unset).toArray = ls at hl ⊢
  have hl : lv_has ls 2 [(0, .ref se), (1, .int x)] := hl
  refine q_name (fun Q hQ => ?_)
  generalize ([.ref se, .int x] : List Value).toArray = args at hts hQ ⊢
  refine lv_aload_n hx hb dX9_put_0 rfl (lv_at hl 0 rfl) ?_
  refine va_get (D := (dC, dI)) (ci := 9) (v := .int (nI ccodeCount)) (C := RX9) (T := TX9) (N := 3) hx hb hts hin9 hown hK hP 0 rfl rfl 1 (by decide) (hts (.fieldLink RX9 15 "PorridgeSea$Sentence" "codeCount" "I") (List.mem_of_getElem? (i := 1) rfl)) (fun _ h9 => h9) rfl dX9_put_1 ?_
  refine lv_bipush (v := nI 40) hx hb dX9_put_4 (by decide) ?_
  refine n_icmp_lt (x := ccodeCount) (y := 40) (tgt := 11) hx hb (by omega) (by omega) dX9_put_6 (by decide) (fun c1 => ?_) (fun c1 => by exfalso; omega)
  refine lv_aload_n hx hb dX9_put_11 rfl (lv_at hl 0 rfl) ?_
  refine va_get (D := (dC, dI)) (ci := 9) (v := .ref ccodes) (C := RX9) (T := TX9) (N := 3) hx hb hts hin9 hown hK hP 0 rfl rfl 0 (by decide) (hts (.fieldLink RX9 11 "PorridgeSea$Sentence" "codes" "[I") (List.mem_of_getElem? (i := 2) rfl)) (fun _ h9 => h9) rfl dX9_put_12 ?_
  refine lv_aload_n hx hb dX9_put_15 rfl (lv_at hl 0 rfl) ?_
  refine va_get (D := (dC, dI)) (ci := 9) (v := .int (nI ccodeCount)) (C := RX9) (T := TX9) (N := 3) hx hb hts hin9 hown hK hP 0 rfl rfl 1 (by decide) (hts (.fieldLink RX9 15 "PorridgeSea$Sentence" "codeCount" "I") (List.mem_of_getElem? (i := 1) rfl)) (fun _ h9 => h9) rfl dX9_put_16 ?_
  refine lv_iload_n hx hb dX9_put_19 rfl (lv_at hl 1 rfl) ?_
  refine r_iast (x := x) hx hb hK hP hD hS 1 rfl ccodeCount (by omega) (by decide) dX9_put_20 (fun H locs hP hD hS => ?_)
  obtain ⟨g2, e3⟩ : ∃ z9, z9 = upd ccodesF ccodeCount x := ⟨_, rfl⟩
  rw [← e3] at hP hD
  have hP : va_P (dC, dI) vwCl [(se, .inr (9, [.ref ccodes, .int (nI ccodeCount), .int (nI cones)])), (ccodes, .inl (ky 0, 40, .inl g2))] H := hP
  have hD : va_D A [(se, .inr (9, [.ref ccodes, .int (nI ccodeCount), .int (nI cones)])), (ccodes, .inl (ky 0, 40, .inl g2))] := hD
  refine lv_aload_n hx hb dX9_put_21 rfl (lv_at hl 0 rfl) ?_
  refine lv_dup hx hb dX9_put_22 rfl ?_
  refine va_get (D := (dC, dI)) (ci := 9) (v := .int (nI ccodeCount)) (C := RX9) (T := TX9) (N := 3) hx hb hts hin9 hown hK hP 0 rfl rfl 1 (by decide) (hts (.fieldLink RX9 15 "PorridgeSea$Sentence" "codeCount" "I") (List.mem_of_getElem? (i := 1) rfl)) (fun _ h9 => h9) rfl dX9_put_23 ?_
  refine lv_iconst (v := nI 1) hx hb dX9_put_26 (by decide) ?_
  refine lv_iadd hx hb dX9_put_27 ?_
  refine r_ti (nI (ccodeCount + 1)) (nI_add _ _) ?_
  refine va_put (D := (dC, dI)) (ci := 9) (v := .int (nI (ccodeCount + 1))) (ty := .int) (C := RX9) (T := TX9) (N := 3) hx hb hts hin9 tyX9 tyX9_ok nmX9 hown hK hP hD hS 0 rfl rfl 1 (by decide) (hts (.fieldLink RX9 15 "PorridgeSea$Sentence" "codeCount" "I") (List.mem_of_getElem? (i := 1) rfl)) (fun _ h9 => h9) rfl (by decide +kernel) rfl rfl (Nat.le_of_ble_eq_true rfl) dX9_put_28 (fun H locs hP hD hS => ?_)
  have hP : va_P (dC, dI) vwCl [(se, .inr (9, [.ref ccodes, .int (nI (ccodeCount + 1)), .int (nI cones)])), (ccodes, .inl (ky 0, 40, .inl g2))] H := hP
  have hD : va_D A [(se, .inr (9, [.ref ccodes, .int (nI (ccodeCount + 1)), .int (nI cones)])), (ccodes, .inl (ky 0, 40, .inl g2))] := hD
  refine lv_iconst (v := nI 1) hx hb dX9_put_31 (by decide) ?_
  rw [hQ]
  exact W.zret (v := nI 1) hx hb hr (by decide) (fun t9 ht9 hW9 => ⟨⟨nI 1, ((ccodeCount + 1), g2), rfl, ⟨(lf_f_put9_1), (lf_f_put9_2 ccodeCount iv_cse_0 hc9), rfl⟩, by rw [ht9]; exact hP, va_K.moved hW9.alike hK, hD⟩, hS.F ht9⟩) hS.2.2 dX9_put_32
set_option maxRecDepth 20000 in
theorem lf_f_snBy_1 (ccodeCount : Nat) (bt : Nat → Nat) (rlength : Nat) (rmostBytes : Nat) (rplace : Nat) (rkind : Int32) (rbegin : Nat) (rword : Int32) (rnumber : Int32) (rletters : Int64) (rfaultKind : Int32) (rfaultPlace : Int32) (rtapeF : Nat → Int32) (lumps : Nat) (lumpNamesF : Nat → Int64) (gp : Nat) (gnu : Nat → Nat) (r1 : Int32) (rfaultKindG_15 : Int32) (rfaultPlaceG_16 : Int32) (iv_cse_0 : ccodeCount ≤ 40) (iv_rreader_0 : rlength ≤ 940) (iv_rreader_1 : rplace ≤ rlength) (iv_rreader_2 : rmostBytes ≤ 900) (iv_rreader_3 : rbegin ≤ 940) (hTC : TC bt rtapeF) (iv_a_4 : lumps ≤ 6) (hRT : RT bt rlength rmostBytes gp rkind rbegin rplace rword rnumber rletters) (hNL : NL gnu 0 lumps lumpNamesF) (hc9 : ccodeCount < 40) (p2 : r1 = rword) (c3 : r1 = nI 31) (t10 : ¬ hasJ lumps lumpNamesF rletters) (p18 : rfaultKindG_15 = (nI 3)) (p19 : rfaultPlaceG_16 = nI rbegin) : ((nI 0) = nI 1 ∧ (isO (pBy bt rlength rmostBytes gnu lumps gp) = true ∧ RT bt rlength rmostBytes (okV (pBy bt rlength rmostBytes gnu lumps gp)) rkind rbegin rplace rword rnumber rletters ∧ ccodeCount = ccodeCount + 1 ∧ rfaultKindG_15 = rfaultKind ∧ rfaultPlaceG_16 = rfaultPlace)) ∨ ((nI 0) = nI 0 ∧ (isO (pBy bt rlength rmostBytes gnu lumps gp) = false ∧ rfaultKindG_15 = nI (erA (pBy bt rlength rmostBytes gnu lumps gp)) ∧ rfaultPlaceG_16 = nI (erB (pBy bt rlength rmostBytes gnu lumps gp)))) := by
  have hw9 := RT_w hRT (k := 31) (by decide)
  have h31 : tW bt rlength rmostBytes gp = 31 := hw9.mp (by
    have kk31 := ia_n 31 (by decide)
    have b_rkind := ia_b rkind
    have b_rword := ia_b rword
    have b_rnumber := ia_b rnumber
    have b_rfaultKind := ia_b rfaultKind
    have b_rfaultPlace := ia_b rfaultPlace
    have b_r1 := ia_b r1
    have b_rfaultKindG_15 := ia_b rfaultKindG_15
    have b_rfaultPlaceG_16 := ia_b rfaultPlaceG_16
    have b_rletters := Int64.toInt_lt rletters
    try have k_0 := ia_n 31 (by first | decide | omega)
    try have k_1 := ia_n 3 (by first | decide | omega)
    try have k_2 := ia_n rbegin (by first | decide | omega)
    try have k_3 := ia_n 0 (by first | decide | omega)
    try have k_4 := ia_n 1 (by first | decide | omega)
    try have k_5 := ia_n (erA (pBy bt rlength rmostBytes gnu lumps gp)) (by first | decide | omega)
    try have k_6 := ia_n (erB (pBy bt rlength rmostBytes gnu lumps gp)) (by first | decide | omega)
    try simp only [ia_lt, ia_le, ia_eq, ia_m1, ia_0, ia_1, ne_eq, true_and, and_true, false_and, and_false, or_false, false_or, or_true, true_or, not_true_eq_false, not_false_eq_true] at *
    all_goals omega)
  have hk2 := tW_2 h31 (by decide)
  have q1 := ‹¬ hasJ lumps lumpNamesF rletters›
  rw [hRT.2.2.2.2.2 hk2] at q1
  rw [by_3 h31 (fun z => q1 ((NL_has hNL (tC_GN hk2)).mpr z))]
  exact Or.inr ⟨rfl, rfl, ‹_›, (Eq.trans (by assumption : _ = nI rbegin) (congrArg nI hRT.2.1))⟩
set_option maxRecDepth 20000 in
theorem lf_f_snBy_2 (bt : Nat → Nat) (rlength : Nat) (rmostBytes : Nat) (rplace : Nat) (rkind : Int32) (rbegin : Nat) (rword : Int32) (rnumber : Int32) (rletters : Int64) (rtapeF : Nat → Int32) (lumps : Nat) (lumpNamesF : Nat → Int64) (gp : Nat) (gnu : Nat → Nat) (r1 : Int32) (k6 : Nat) (iv_rreader_0 : rlength ≤ 940) (iv_rreader_1 : rplace ≤ rlength) (iv_rreader_2 : rmostBytes ≤ 900) (iv_rreader_3 : rbegin ≤ 940) (hTC : TC bt rtapeF) (iv_a_4 : lumps ≤ 6) (hRT : RT bt rlength rmostBytes gp rkind rbegin rplace rword rnumber rletters) (hNL : NL gnu 0 lumps lumpNamesF) (p2 : r1 = rword) (c3 : r1 = nI 31) (h8 : k6 < lumps) (h9 : fstJ lumpNamesF rletters k6) : k6 < 2147483648 := by
  have b_rkind := ia_b rkind
  have b_rword := ia_b rword
  have b_rnumber := ia_b rnumber
  have b_r1 := ia_b r1
  have b_rletters := Int64.toInt_lt rletters
  try have k_0 := ia_n 31 (by first | decide | omega)
  try simp only [ia_lt, ia_le, ia_eq, ia_m1, ia_0, ia_1, ne_eq, true_and, and_true, false_and, and_false, or_false, false_or, or_true, true_or, not_true_eq_false, not_false_eq_true] at *
  all_goals omega
set_option maxRecDepth 20000 in
theorem lf_f_snBy_3 (ccodeCount : Nat) (bt : Nat → Nat) (rlength : Nat) (rmostBytes : Nat) (rplace : Nat) (rkind : Int32) (rbegin : Nat) (rword : Int32) (rnumber : Int32) (rletters : Int64) (rfaultKind : Int32) (rfaultPlace : Int32) (rtapeF : Nat → Int32) (lumps : Nat) (lumpNamesF : Nat → Int64) (gp : Nat) (gnu : Nat → Nat) (r1 : Int32) (k6 : Nat) (rplaceG_23 : Nat) (rkindG_24 : Int32) (rbeginG_25 : Nat) (rwordG_26 : Int32) (rnumberG_27 : Int32) (rlettersG_28 : Int64) (y32 : Int32) (y34 : Int32) (ccodeCountG_39 : Nat) (iv_cse_0 : ccodeCount ≤ 40) (iv_rreader_0 : rlength ≤ 940) (iv_rreader_1 : rplace ≤ rlength) (iv_rreader_2 : rmostBytes ≤ 900) (iv_rreader_3 : rbegin ≤ 940) (hTC : TC bt rtapeF) (iv_a_4 : lumps ≤ 6) (hRT : RT bt rlength rmostBytes gp rkind rbegin rplace rword rnumber rletters) (hNL : NL gnu 0 lumps lumpNamesF) (hc9 : ccodeCount < 40) (p2 : r1 = rword) (c3 : r1 = nI 31) (h8 : k6 < lumps) (h9 : fstJ lumpNamesF rletters k6) (p29 : rplaceG_23 ≤ rlength) (p30 : rbeginG_25 ≤ 940) (p31 : RT bt rlength rmostBytes (tT bt rlength rmostBytes gp) rkindG_24 rbeginG_25 rplaceG_23 rwordG_26 rnumberG_27 rlettersG_28) (e33 : y32 = (nI k6) <<< ((nI 12) &&& 31)) (e35 : y34 = (nI 26) ||| y32) (p42 : ccodeCountG_39 ≤ 40) (p43 : ccodeCountG_39 = ccodeCount + 1) : ((nI 1) = nI 1 ∧ (isO (pBy bt rlength rmostBytes gnu lumps gp) = true ∧ RT bt rlength rmostBytes (okV (pBy bt rlength rmostBytes gnu lumps gp)) rkindG_24 rbeginG_25 rplaceG_23 rwordG_26 rnumberG_27 rlettersG_28 ∧ ccodeCountG_39 = ccodeCount + 1 ∧ rfaultKind = rfaultKind ∧ rfaultPlace = rfaultPlace)) ∨ ((nI 1) = nI 0 ∧ (isO (pBy bt rlength rmostBytes gnu lumps gp) = false ∧ rfaultKind = nI (erA (pBy bt rlength rmostBytes gnu lumps gp)) ∧ rfaultPlace = nI (erB (pBy bt rlength rmostBytes gnu lumps gp)))) := by
  have hw9 := RT_w hRT (k := 31) (by decide)
  have h31 : tW bt rlength rmostBytes gp = 31 := hw9.mp (by
    have kk31 := ia_n 31 (by decide)
    have b_rkind := ia_b rkind
    have b_rword := ia_b rword
    have b_rnumber := ia_b rnumber
    have b_rfaultKind := ia_b rfaultKind
    have b_rfaultPlace := ia_b rfaultPlace
    have b_r1 := ia_b r1
    have b_rkindG_24 := ia_b rkindG_24
    have b_rwordG_26 := ia_b rwordG_26
    have b_rnumberG_27 := ia_b rnumberG_27
    have b_y32 := ia_b y32
    have b_y34 := ia_b y34
    have b_rletters := Int64.toInt_lt rletters
    have b_rlettersG_28 := Int64.toInt_lt rlettersG_28
    try have k_0 := ia_n 31 (by first | decide | omega)
    try have k_1 := ia_n k6 (by first | decide | omega)
    try have k_2 := ia_n 12 (by first | decide | omega)
    try have k_3 := ia_n 26 (by first | decide | omega)
    try have k_4 := ia_n 1 (by first | decide | omega)
    try have k_5 := ia_n 0 (by first | decide | omega)
    try have k_6 := ia_n (erA (pBy bt rlength rmostBytes gnu lumps gp)) (by first | decide | omega)
    try have k_7 := ia_n (erB (pBy bt rlength rmostBytes gnu lumps gp)) (by first | decide | omega)
    try simp only [ia_lt, ia_le, ia_eq, ia_m1, ia_0, ia_1, ne_eq, true_and, and_true, false_and, and_false, or_false, false_or, or_true, true_or, not_true_eq_false, not_false_eq_true] at *
    all_goals omega)
  have hk2 := tW_2 h31 (by decide)
  have q1 := hasJ_fst ‹_ < lumps› ‹fstJ lumpNamesF rletters _›
  rw [hRT.2.2.2.2.2 hk2] at q1
  rw [by_o h31 ((NL_has hNL (tC_GN hk2)).mp q1)]
  exact Or.inl ⟨rfl, rfl, ‹_›, (by first | rfl | assumption | (subst_vars; rfl) | (subst_vars; assumption)), (by first | rfl | assumption | (subst_vars; rfl) | (subst_vars; assumption)), (by first | rfl | assumption | (subst_vars; rfl) | (subst_vars; assumption))⟩
set_option maxRecDepth 20000 in
theorem lf_f_snBy_4 (ccodeCount : Nat) (bt : Nat → Nat) (rlength : Nat) (rmostBytes : Nat) (rplace : Nat) (rkind : Int32) (rbegin : Nat) (rword : Int32) (rnumber : Int32) (rletters : Int64) (rfaultKind : Int32) (rfaultPlace : Int32) (rtapeF : Nat → Int32) (lumps : Nat) (lumpNamesF : Nat → Int64) (gp : Nat) (gnu : Nat → Nat) (r1 : Int32) (rfaultKindG_47 : Int32) (rfaultPlaceG_48 : Int32) (iv_cse_0 : ccodeCount ≤ 40) (iv_rreader_0 : rlength ≤ 940) (iv_rreader_1 : rplace ≤ rlength) (iv_rreader_2 : rmostBytes ≤ 900) (iv_rreader_3 : rbegin ≤ 940) (hTC : TC bt rtapeF) (iv_a_4 : lumps ≤ 6) (hRT : RT bt rlength rmostBytes gp rkind rbegin rplace rword rnumber rletters) (hNL : NL gnu 0 lumps lumpNamesF) (hc9 : ccodeCount < 40) (p2 : r1 = rword) (c3 : ¬ r1 = nI 31) (p50 : rfaultKindG_47 = (nI 1)) (p51 : rfaultPlaceG_48 = nI rbegin) : ((nI 0) = nI 1 ∧ (isO (pBy bt rlength rmostBytes gnu lumps gp) = true ∧ RT bt rlength rmostBytes (okV (pBy bt rlength rmostBytes gnu lumps gp)) rkind rbegin rplace rword rnumber rletters ∧ ccodeCount = ccodeCount + 1 ∧ rfaultKindG_47 = rfaultKind ∧ rfaultPlaceG_48 = rfaultPlace)) ∨ ((nI 0) = nI 0 ∧ (isO (pBy bt rlength rmostBytes gnu lumps gp) = false ∧ rfaultKindG_47 = nI (erA (pBy bt rlength rmostBytes gnu lumps gp)) ∧ rfaultPlaceG_48 = nI (erB (pBy bt rlength rmostBytes gnu lumps gp)))) := by
  have hw9 := RT_w hRT (k := 31) (by decide)
  have h31 : ¬ tW bt rlength rmostBytes gp = 31 := fun h9 => absurd (hw9.mpr h9) (by
    have kk31 := ia_n 31 (by decide)
    have b_rkind := ia_b rkind
    have b_rword := ia_b rword
    have b_rnumber := ia_b rnumber
    have b_rfaultKind := ia_b rfaultKind
    have b_rfaultPlace := ia_b rfaultPlace
    have b_r1 := ia_b r1
    have b_rfaultKindG_47 := ia_b rfaultKindG_47
    have b_rfaultPlaceG_48 := ia_b rfaultPlaceG_48
    have b_rletters := Int64.toInt_lt rletters
    try have k_0 := ia_n 31 (by first | decide | omega)
    try have k_1 := ia_n 1 (by first | decide | omega)
    try have k_2 := ia_n rbegin (by first | decide | omega)
    try have k_3 := ia_n 0 (by first | decide | omega)
    try have k_4 := ia_n (erA (pBy bt rlength rmostBytes gnu lumps gp)) (by first | decide | omega)
    try have k_5 := ia_n (erB (pBy bt rlength rmostBytes gnu lumps gp)) (by first | decide | omega)
    try simp only [ia_lt, ia_le, ia_eq, ia_m1, ia_0, ia_1, ne_eq, true_and, and_true, false_and, and_false, or_false, false_or, or_true, true_or, not_true_eq_false, not_false_eq_true] at *
    all_goals omega)
  rw [by_1 h31]
  exact Or.inr ⟨rfl, rfl, ‹_›, (Eq.trans (by assumption : _ = nI rbegin) (congrArg nI hRT.2.1))⟩
set_option maxHeartbeats 4000000 in
set_option maxRecDepth 100000 in
theorem c_f_snBy (l : Launch) (dC : Nat → ClassId) (dI : Nat → Nat → Nat) (ky : Nat → ClassId) (sz : Nat) (adK : Nat → Nat) (adV : Nat → Nat) (se : Nat) (ccodes : Nat) (ccodeCount : Nat) (cones : Nat) (ccodesF : Nat → Int32) (bt : Nat → Nat) (reader : Nat) (rtape : Nat) (rlength : Nat) (rmostBytes : Nat) (rplace : Nat) (rkind : Int32) (rbegin : Nat) (rword : Int32) (rnumber : Int32) (rletters : Int64) (rfaultKind : Int32) (rfaultPlace : Int32) (rtapeF : Nat → Int32) (a : Nat) (wide : Nat) (high : Nat) (heat : Int32) (cools : Int32) (skinHeat : Int32) (today : Int32) (stirs : Int32) (steps : Int32) (lumps : Nat) (boats : Nat) (thickness : Nat) (lumpNames : Nat) (lumpCells : Nat) (boatNames : Nat) (boatCells : Nat) (loads : Nat) (spoons : Nat) (spoonsLeft : Nat) (depths : Nat) (lumpNamesF : Nat → Int64) (gp : Nat) (gnu : Nat → Nat) (iv_cse_0 : ccodeCount ≤ 40) (iv_cse_1 : cones ≤ 20) (iv_rreader_0 : rlength ≤ 940) (iv_rreader_1 : rplace ≤ rlength) (iv_rreader_2 : rmostBytes ≤ 900) (iv_rreader_3 : rbegin ≤ 940) (hTC : TC bt rtapeF) (iv_a_0 : 2 ≤ wide) (iv_a_1 : wide ≤ 6) (iv_a_2 : 2 ≤ high) (iv_a_3 : high ≤ 6) (iv_a_4 : lumps ≤ 6) (iv_a_5 : boats ≤ 6) (hRT : RT bt rlength rmostBytes gp rkind rbegin rplace rword rnumber rletters) (hNL : NL gnu 0 lumps lumpNamesF) (hc9 : ccodeCount < 40) : Met l yX9_readLump wsX9_readLump ({ frames := 6, cells := 0, slots := 0, locals := 131 }) (PcUE dC dI ky adK adV [.ref se, .ref reader, .ref a] [(se, .inr (9, [.ref ccodes, .int (nI ccodeCount), .int (nI cones)])), (ccodes, .inl (ky 0, 40, .inl ccodesF)), (reader, .inr (5, [.ref rtape, .int (nI rlength), .int (nI rmostBytes), .int (nI rplace), .int rkind, .int (nI rbegin), .int rword, .int rnumber, .long rletters, .int rfaultKind, .int rfaultPlace])), (rtape, .inl (ky 2, 940, .inl rtapeF)), (a, .inr (7, [.int (nI wide), .int (nI high), .int heat, .int cools, .int skinHeat, .int today, .int stirs, .int steps, .int (nI lumps), .int (nI boats), .ref thickness, .ref lumpNames, .ref lumpCells, .ref boatNames, .ref boatCells, .ref loads, .ref spoons, .ref spoonsLeft, .ref depths])), (lumpNames, .inl (ky 1, 6, .inr (.inl lumpNamesF)))] sz) (va_Qi (fun (r : Int32) (u : Nat × (Nat → Int32) × Nat × Int32 × Nat × Int32 × Int32 × Int64 × Int32 × Int32) => match u with | (ccodeCountG, ccodesG, rplaceG, rkindG, rbeginG, rwordG, rnumberG, rlettersG, rfaultKindG, rfaultPlaceG) => ((r = nI 1 ∧ (isO (pBy bt rlength rmostBytes gnu lumps gp) = true ∧ RT bt rlength rmostBytes (okV (pBy bt rlength rmostBytes gnu lumps gp)) rkindG rbeginG rplaceG rwordG rnumberG rlettersG ∧ ccodeCountG = ccodeCount + 1 ∧ rfaultKindG = rfaultKind ∧ rfaultPlaceG = rfaultPlace)) ∨ (r = nI 0 ∧ (isO (pBy bt rlength rmostBytes gnu lumps gp) = false ∧ rfaultKindG = nI (erA (pBy bt rlength rmostBytes gnu lumps gp)) ∧ rfaultPlaceG = nI (erB (pBy bt rlength rmostBytes gnu lumps gp))))) ∧ (ccodeCountG ≤ 40) ∧ (rplaceG ≤ rlength) ∧ (rbeginG ≤ 940)) (BU dC dI ky (fun (u : Nat × (Nat → Int32) × Nat × Int32 × Nat × Int32 × Int32 × Int64 × Int32 × Int32) => match u with | (ccodeCountG, ccodesG, rplaceG, rkindG, rbeginG, rwordG, rnumberG, rlettersG, rfaultKindG, rfaultPlaceG) => [(se, .inr (9, [.ref ccodes, .int (nI ccodeCountG), .int (nI cones)])), (ccodes, .inl (ky 0, 40, .inl ccodesG)), (reader, .inr (5, [.ref rtape, .int (nI rlength), .int (nI rmostBytes), .int (nI rplaceG), .int rkindG, .int (nI rbeginG), .int rwordG, .int rnumberG, .long rlettersG, .int rfaultKindG, .int rfaultPlaceG])), (rtape, .inl (ky 2, 940, .inl rtapeF)), (a, .inr (7, [.int (nI wide), .int (nI high), .int heat, .int cools, .int skinHeat, .int today, .int stirs, .int steps, .int (nI lumps), .int (nI boats), .ref thickness, .ref lumpNames, .ref lumpCells, .ref boatNames, .ref boatCells, .ref loads, .ref spoons, .ref spoonsLeft, .ref depths])), (lumpNames, .inl (ky 1, 6, .inr (.inl lumpNamesF)))]) (va_A [(se, .inr (9, [.ref ccodes, .int (nI ccodeCount), .int (nI cones)])), (ccodes, .inl (ky 0, 40, .inl ccodesF)), (reader, .inr (5, [.ref rtape, .int (nI rlength), .int (nI rmostBytes), .int (nI rplace), .int rkind, .int (nI rbegin), .int rword, .int rnumber, .long rletters, .int rfaultKind, .int rfaultPlace])), (rtape, .inl (ky 2, 940, .inl rtapeF)), (a, .inr (7, [.int (nI wide), .int (nI high), .int heat, .int cools, .int skinHeat, .int today, .int stirs, .int steps, .int (nI lumps), .int (nI boats), .ref thickness, .ref lumpNames, .ref lumpCells, .ref boatNames, .ref boatCells, .ref loads, .ref spoons, .ref spoonsLeft, .ref depths])), (lumpNames, .inl (ky 1, 6, .inr (.inl lumpNamesF)))] sz)) (va_A [(se, .inr (9, [.ref ccodes, .int (nI ccodeCount), .int (nI cones)])), (ccodes, .inl (ky 0, 40, .inl ccodesF)), (reader, .inr (5, [.ref rtape, .int (nI rlength), .int (nI rmostBytes), .int (nI rplace), .int rkind, .int (nI rbegin), .int rword, .int rnumber, .long rletters, .int rfaultKind, .int rfaultPlace])), (rtape, .inl (ky 2, 940, .inl rtapeF)), (a, .inr (7, [.int (nI wide), .int (nI high), .int heat, .int cools, .int skinHeat, .int today, .int stirs, .int steps, .int (nI lumps), .int (nI boats), .ref thickness, .ref lumpNames, .ref lumpCells, .ref boatNames, .ref boatCells, .ref loads, .ref spoons, .ref spoonsLeft, .ref depths])), (lumpNames, .inl (ky 1, 6, .inr (.inl lumpNamesF)))] sz)) 0 0 (va_A [(se, .inr (9, [.ref ccodes, .int (nI ccodeCount), .int (nI cones)])), (ccodes, .inl (ky 0, 40, .inl ccodesF)), (reader, .inr (5, [.ref rtape, .int (nI rlength), .int (nI rmostBytes), .int (nI rplace), .int rkind, .int (nI rbegin), .int rword, .int rnumber, .long rletters, .int rfaultKind, .int rfaultPlace])), (rtape, .inl (ky 2, 940, .inl rtapeF)), (a, .inr (7, [.int (nI wide), .int (nI high), .int heat, .int cools, .int skinHeat, .int today, .int stirs, .int steps, .int (nI lumps), .int (nI boats), .ref thickness, .ref lumpNames, .ref lumpCells, .ref boatNames, .ref boatCells, .ref loads, .ref spoons, .ref spoonsLeft, .ref depths])), (lumpNames, .inl (ky 1, 6, .inr (.inl lumpNamesF)))] sz) := by
  refine Met.ofW (cc := cX9_readLump) (maxL := 4) (ret := (some .boolean)) (by decide) rfl ?_
  intro p e s m args below meth c s₁ B hml hv
  obtain ⟨rfl, hsz, hP, hK, hD0, hE⟩ := hv
  have hx := B.exec
  have hb := B.bytes
  have hr := B.returns
  have hts := atoms_spec (ws := wsX9_readLump) B.pre
  have hown : s.vm.findClass RX9 = some m.cls := findClass_of_methodNamed B.named
  have hlocks := B.notSynchronized
  have hin5 : ∀ w ∈ u_ws RX5 TX5 11, w ∈ wsX9_readLump := by decide +kernel
  subst hsz
  have hD := hD0.self (sz := s.heap.size)
  generalize hAe : va_A [(se, .inr (9, [.ref ccodes, .int (nI ccodeCount), .int (nI cones)])), (ccodes, .inl (ky 0, 40, .inl ccodesF)), (reader, .inr (5, [.ref rtape, .int (nI rlength), .int (nI rmostBytes), .int (nI rplace), .int rkind, .int (nI rbegin), .int rword, .int rnumber, .long rletters, .int rfaultKind, .int rfaultPlace])), (rtape, .inl (ky 2, 940, .inl rtapeF)), (a, .inr (7, [.int (nI wide), .int (nI high), .int heat, .int cools, .int skinHeat, .int today, .int stirs, .int steps, .int (nI lumps), .int (nI boats), .ref thickness, .ref lumpNames, .ref lumpCells, .ref boatNames, .ref boatCells, .ref loads, .ref spoons, .ref spoonsLeft, .ref depths])), (lumpNames, .inl (ky 1, 6, .inr (.inl lumpNamesF)))] s.heap.size = A at hD hE ⊢
  have hA : ∀ q : Nat, s.heap.size ≤ q → A q := fun q h => by rw [← hAe]; exact Or.inr h
  have hS : va_S A s.heap s.heap [] := va_S.rf
  have hl := lv_entry ([.ref se, .ref reader, .ref a]) (n := 4) (Nat.le_of_ble_eq_true rfl)
  rw [lg_entry_eq]
  generalize (lg_sl ([.ref se, .ref reader, .ref a]) ++ List.replicate (4 - (lg_sl ([.ref se, .ref reader, .ref a])).length) Slot.unset).toArray = ls at hl ⊢
  have hl : lv_has ls 4 [(0, .ref se), (1, .ref reader), (2, .ref a)] := hl
  refine q_name (fun Q hQ => ?_)
  generalize ([.ref se, .ref reader, .ref a] : List Value).toArray = args at hts hQ ⊢
  refine lv_aload_n hx hb dX9_readLump_0 rfl (lv_at hl 1 rfl) ?_
  refine vp_callSi (W.runV (As := []) (rest := []) ⟨hx, hb, hml, hown, hts⟩ (c_f_nextWord l dC dI ky reader rtape rlength rmostBytes rplace rkind rbegin rword rnumber rletters rfaultKind rfaultPlace iv_rreader_0 iv_rreader_1 iv_rreader_2 iv_rreader_3) (cwV 0 hts gX9_readLump_X5_nextWord rfl rfl rfl (by decide +kernel) ⟨(Nat.le_of_ble_eq_true rfl), (Nat.le_of_ble_eq_true rfl)⟩) (pre_PV hK hP [2] rfl (ci := 5) (q0 := 2) rfl rfl) rfl rfl hl.1 rfl (lv_room (Nat.le_of_ble_eq_true rfl)) dX9_readLump_1 ⟨(Nat.le_of_ble_eq_true rfl), (Nat.le_of_ble_eq_true rfl)⟩) (fun r1 p2 => ?_)
  refine lv_bipush (v := nI 31) hx hb dX9_readLump_4 (by decide) ?_
  refine lv_icmp_eq (tgt := 15) hx hb dX9_readLump_6 (by decide) (fun c3 => ?_) (fun c3 => ?_)
  · refine lv_aload_n hx hb dX9_readLump_15 rfl (lv_at hl 2 rfl) ?_
    refine lv_aload_n hx hb dX9_readLump_16 rfl (lv_at hl 1 rfl) ?_
    refine va_get (D := (dC, dI)) (ci := 5) (v := .long rletters) (C := RX5) (T := TX5) (N := 11) hx hb hts hin5 hown hK hP 2 rfl rfl 8 (by decide) (hts (.fieldLink RX9 71 "PorridgeSea$Reader" "letters" "J") (List.mem_of_getElem? (i := 1) rfl)) (fun _ h9 => h9) rfl dX9_readLump_17 ?_
    refine vp_callSi (W.runV (As := [.long rletters]) (rest := []) ⟨hx, hb, hml, hown, hts⟩ (c_f_lumpNamed l dC dI ky a wide high heat cools skinHeat today stirs steps lumps boats thickness lumpNames lumpCells boatNames boatCells loads spoons spoonsLeft depths lumpNamesF rletters iv_a_0 iv_a_1 iv_a_2 iv_a_3 iv_a_4 iv_a_5) (cwV 1 hts gX9_readLump_X7_lumpNamed rfl rfl rfl (by decide +kernel) ⟨(Nat.le_of_ble_eq_true rfl), (Nat.le_of_ble_eq_true rfl)⟩) (pre_PV hK hP [4, 5] rfl (ci := 7) (q0 := 4) rfl rfl) rfl rfl hl.1 rfl (lv_room (Nat.le_of_ble_eq_true rfl)) dX9_readLump_20 ⟨(Nat.le_of_ble_eq_true rfl), (Nat.le_of_ble_eq_true rfl)⟩) (fun r4 p5 => ?_)
    rcases p5 with ⟨rfl, t10⟩ | ⟨k6, ⟨h8, h9⟩, rfl⟩
    · refine lv_istore_n (lv' := [(3, .int (-1 : Int32)), (0, .ref se), (1, .ref reader), (2, .ref a)]) hx hb dX9_readLump_23 rfl hl (by decide) rfl (fun ls hl => ?_)
      refine lv_iload_n hx hb dX9_readLump_24 rfl (lv_at hl 0 rfl) ?_
      refine lv_iconst (v := (-1 : Int32)) hx hb dX9_readLump_25 (by decide) ?_
      refine lv_icmp_ne (tgt := 35) hx hb dX9_readLump_26 (by decide) (fun c11 => absurd c11 (by decide)) (fun c11 => ?_)
      refine lv_aload_n hx hb dX9_readLump_29 rfl (lv_at hl 2 rfl) ?_
      refine lv_iconst (v := nI 3) hx hb dX9_readLump_30 (by decide) ?_
      refine r_call_i (wr := [(se, .inr (9, [.ref ccodes, .int (nI ccodeCount), .int (nI cones)])), (ccodes, .inl (ky 0, 40, .inl ccodesF)), (rtape, .inl (ky 2, 940, .inl rtapeF)), (a, .inr (7, [.int (nI wide), .int (nI high), .int heat, .int cools, .int skinHeat, .int today, .int stirs, .int steps, .int (nI lumps), .int (nI boats), .ref thickness, .ref lumpNames, .ref lumpCells, .ref boatNames, .ref boatCells, .ref loads, .ref spoons, .ref spoonsLeft, .ref depths])), (lumpNames, .inl (ky 1, 6, .inr (.inl lumpNamesF)))]) (va_runV (As := [.int (nI 3)]) (rest := []) ⟨hx, hb, hml, hown, hts⟩ (c_f_refuse l dC dI ky s.heap.size reader rtape rlength rmostBytes rplace rkind rbegin rword rnumber rletters rfaultKind rfaultPlace (nI 3) iv_rreader_0 iv_rreader_1 iv_rreader_2 iv_rreader_3) (cwV 1 hts gX9_readLump_X5_refuse rfl rfl rfl (by decide +kernel) ⟨(Nat.le_of_ble_eq_true rfl), (Nat.le_of_ble_eq_true rfl)⟩) (pre_UV hK hP hD [2] (by decide) rfl (ci := 5) (q0 := 2) rfl rfl) rfl rfl hl.1 rfl (lv_room (Nat.le_of_ble_eq_true rfl)) dX9_readLump_31 ⟨(Nat.le_of_ble_eq_true rfl), (Nat.le_of_ble_eq_true rfl)⟩) hP hD hS hA [2] [0, 1, 3, 4, 5] rfl rfl (by decide) (by decide) (fun r14 u12 H locs p13 hP hD hS => ?_)
      obtain ⟨rfaultKindG_15, rfaultPlaceG_16⟩ := u12
      try dsimp only at p13
      obtain ⟨p17, p18, p19⟩ := p13
      refine W.widen (k := 0) (n := 0) (Nat.le_of_ble_eq_true rfl) (Nat.le_of_ble_eq_true rfl) ?_
      have hP : va_P (dC, dI) vwCl [(se, .inr (9, [.ref ccodes, .int (nI ccodeCount), .int (nI cones)])), (ccodes, .inl (ky 0, 40, .inl ccodesF)), (rtape, .inl (ky 2, 940, .inl rtapeF)), (a, .inr (7, [.int (nI wide), .int (nI high), .int heat, .int cools, .int skinHeat, .int today, .int stirs, .int steps, .int (nI lumps), .int (nI boats), .ref thickness, .ref lumpNames, .ref lumpCells, .ref boatNames, .ref boatCells, .ref loads, .ref spoons, .ref spoonsLeft, .ref depths])), (lumpNames, .inl (ky 1, 6, .inr (.inl lumpNamesF))), (reader, .inr (5, [.ref rtape, .int (nI rlength), .int (nI rmostBytes), .int (nI rplace), .int rkind, .int (nI rbegin), .int rword, .int rnumber, .long rletters, .int rfaultKindG_15, .int rfaultPlaceG_16]))] H := hP
      have hD : va_D A [(se, .inr (9, [.ref ccodes, .int (nI ccodeCount), .int (nI cones)])), (ccodes, .inl (ky 0, 40, .inl ccodesF)), (rtape, .inl (ky 2, 940, .inl rtapeF)), (a, .inr (7, [.int (nI wide), .int (nI high), .int heat, .int cools, .int skinHeat, .int today, .int stirs, .int steps, .int (nI lumps), .int (nI boats), .ref thickness, .ref lumpNames, .ref lumpCells, .ref boatNames, .ref boatCells, .ref loads, .ref spoons, .ref spoonsLeft, .ref depths])), (lumpNames, .inl (ky 1, 6, .inr (.inl lumpNamesF))), (reader, .inr (5, [.ref rtape, .int (nI rlength), .int (nI rmostBytes), .int (nI rplace), .int rkind, .int (nI rbegin), .int rword, .int rnumber, .long rletters, .int rfaultKindG_15, .int rfaultPlaceG_16]))] := hD
      subst p17
      rw [hQ]
      have hP9 := hP.sub (ws' := [(se, .inr (9, [.ref ccodes, .int (nI ccodeCount), .int (nI cones)])), (ccodes, .inl (ky 0, 40, .inl ccodesF)), (reader, .inr (5, [.ref rtape, .int (nI rlength), .int (nI rmostBytes), .int (nI rplace), .int rkind, .int (nI rbegin), .int rword, .int rnumber, .long rletters, .int rfaultKindG_15, .int rfaultPlaceG_16])), (rtape, .inl (ky 2, 940, .inl rtapeF)), (a, .inr (7, [.int (nI wide), .int (nI high), .int heat, .int cools, .int skinHeat, .int today, .int stirs, .int steps, .int (nI lumps), .int (nI boats), .ref thickness, .ref lumpNames, .ref lumpCells, .ref boatNames, .ref boatCells, .ref loads, .ref spoons, .ref spoonsLeft, .ref depths])), (lumpNames, .inl (ky 1, 6, .inr (.inl lumpNamesF)))]) [0, 1, 5, 2, 3, 4] rfl
      have hD9 := hD.sub (ws' := [(se, .inr (9, [.ref ccodes, .int (nI ccodeCount), .int (nI cones)])), (ccodes, .inl (ky 0, 40, .inl ccodesF)), (reader, .inr (5, [.ref rtape, .int (nI rlength), .int (nI rmostBytes), .int (nI rplace), .int rkind, .int (nI rbegin), .int rword, .int rnumber, .long rletters, .int rfaultKindG_15, .int rfaultPlaceG_16])), (rtape, .inl (ky 2, 940, .inl rtapeF)), (a, .inr (7, [.int (nI wide), .int (nI high), .int heat, .int cools, .int skinHeat, .int today, .int stirs, .int steps, .int (nI lumps), .int (nI boats), .ref thickness, .ref lumpNames, .ref lumpCells, .ref boatNames, .ref boatCells, .ref loads, .ref spoons, .ref spoonsLeft, .ref depths])), (lumpNames, .inl (ky 1, 6, .inr (.inl lumpNamesF)))]) [0, 1, 5, 2, 3, 4] (by decide) rfl
      exact W.zret (v := nI 0) hx hb hr (by decide) (fun t9 ht9 hW9 => ⟨⟨nI 0, (ccodeCount, ccodesF, rplace, rkind, rbegin, rword, rnumber, rletters, rfaultKindG_15, rfaultPlaceG_16), rfl, ⟨(lf_f_snBy_1 ccodeCount bt rlength rmostBytes rplace rkind rbegin rword rnumber rletters rfaultKind rfaultPlace rtapeF lumps lumpNamesF gp gnu r1 rfaultKindG_15 rfaultPlaceG_16 iv_cse_0 iv_rreader_0 iv_rreader_1 iv_rreader_2 iv_rreader_3 hTC iv_a_4 hRT hNL hc9 p2 c3 t10 p18 p19), iv_cse_0, iv_rreader_1, iv_rreader_3⟩, by rw [ht9]; exact hP9, va_K.moved hW9.alike hK, hD9⟩, hS.F ht9⟩) hS.2.2 dX9_readLump_34
    · refine lv_istore_n (lv' := [(3, .int (nI k6)), (0, .ref se), (1, .ref reader), (2, .ref a)]) hx hb dX9_readLump_23 rfl hl (by decide) rfl (fun ls hl => ?_)
      refine lv_iload_n hx hb dX9_readLump_24 rfl (lv_at hl 0 rfl) ?_
      refine lv_iconst (v := (-1 : Int32)) hx hb dX9_readLump_25 (by decide) ?_
      refine lv_icmp_ne (tgt := 35) hx hb dX9_readLump_26 (by decide) (fun c20 => ?_) (fun c20 => absurd c20 (nI_neg (lf_f_snBy_2 bt rlength rmostBytes rplace rkind rbegin rword rnumber rletters rtapeF lumps lumpNamesF gp gnu r1 k6 iv_rreader_0 iv_rreader_1 iv_rreader_2 iv_rreader_3 hTC iv_a_4 hRT hNL p2 c3 h8 h9)))
      refine lv_aload_n hx hb dX9_readLump_35 rfl (lv_at hl 2 rfl) ?_
      refine r_call_v (wr := [(se, .inr (9, [.ref ccodes, .int (nI ccodeCount), .int (nI cones)])), (ccodes, .inl (ky 0, 40, .inl ccodesF)), (a, .inr (7, [.int (nI wide), .int (nI high), .int heat, .int cools, .int skinHeat, .int today, .int stirs, .int steps, .int (nI lumps), .int (nI boats), .ref thickness, .ref lumpNames, .ref lumpCells, .ref boatNames, .ref boatCells, .ref loads, .ref spoons, .ref spoonsLeft, .ref depths])), (lumpNames, .inl (ky 1, 6, .inr (.inl lumpNamesF)))]) (va_runV (As := []) (rest := []) ⟨hx, hb, hml, hown, hts⟩ (c_f_adv l dC dI ky s.heap.size adK adV bt reader rtape rlength rmostBytes rplace rkind rbegin rword rnumber rletters rfaultKind rfaultPlace rtapeF (tT bt rlength rmostBytes gp) iv_rreader_0 iv_rreader_1 iv_rreader_2 iv_rreader_3 hTC hRT.2.2.1) (cwV 0 hts gX9_readLump_X5_advance rfl rfl rfl (by decide +kernel) ⟨(Nat.le_of_ble_eq_true rfl), (Nat.le_of_ble_eq_true rfl)⟩) (pre_UEV hE hS hA hK hP hD [2, 3] (by decide) rfl (va_recv hK hP (ci := 5) (q0 := 2) rfl rfl)) rfl rfl hl.1 rfl (lv_room (Nat.le_of_ble_eq_true rfl)) dX9_readLump_36 ⟨(Nat.le_of_ble_eq_true rfl), (Nat.le_of_ble_eq_true rfl)⟩) hP hD hS hA [2, 3] [0, 1, 4, 5] rfl rfl (by decide) (by decide) (fun  u21 H locs p22 hP hD hS => ?_)
      obtain ⟨rplaceG_23, rkindG_24, rbeginG_25, rwordG_26, rnumberG_27, rlettersG_28⟩ := u21
      try dsimp only at p22
      obtain ⟨p29, p30, p31⟩ := p22
      refine W.widen (k := 0) (n := 0) (Nat.le_of_ble_eq_true rfl) (Nat.le_of_ble_eq_true rfl) ?_
      have hP : va_P (dC, dI) vwCl [(se, .inr (9, [.ref ccodes, .int (nI ccodeCount), .int (nI cones)])), (ccodes, .inl (ky 0, 40, .inl ccodesF)), (a, .inr (7, [.int (nI wide), .int (nI high), .int heat, .int cools, .int skinHeat, .int today, .int stirs, .int steps, .int (nI lumps), .int (nI boats), .ref thickness, .ref lumpNames, .ref lumpCells, .ref boatNames, .ref boatCells, .ref loads, .ref spoons, .ref spoonsLeft, .ref depths])), (lumpNames, .inl (ky 1, 6, .inr (.inl lumpNamesF))), (reader, .inr (5, [.ref rtape, .int (nI rlength), .int (nI rmostBytes), .int (nI rplaceG_23), .int rkindG_24, .int (nI rbeginG_25), .int rwordG_26, .int rnumberG_27, .long rlettersG_28, .int rfaultKind, .int rfaultPlace])), (rtape, .inl (ky 2, 940, .inl rtapeF))] H := hP
      have hD : va_D A [(se, .inr (9, [.ref ccodes, .int (nI ccodeCount), .int (nI cones)])), (ccodes, .inl (ky 0, 40, .inl ccodesF)), (a, .inr (7, [.int (nI wide), .int (nI high), .int heat, .int cools, .int skinHeat, .int today, .int stirs, .int steps, .int (nI lumps), .int (nI boats), .ref thickness, .ref lumpNames, .ref lumpCells, .ref boatNames, .ref boatCells, .ref loads, .ref spoons, .ref spoonsLeft, .ref depths])), (lumpNames, .inl (ky 1, 6, .inr (.inl lumpNamesF))), (reader, .inr (5, [.ref rtape, .int (nI rlength), .int (nI rmostBytes), .int (nI rplaceG_23), .int rkindG_24, .int (nI rbeginG_25), .int rwordG_26, .int rnumberG_27, .long rlettersG_28, .int rfaultKind, .int rfaultPlace])), (rtape, .inl (ky 2, 940, .inl rtapeF))] := hD
      refine lv_aload_n hx hb dX9_readLump_39 rfl (lv_at hl 1 rfl) ?_
      refine lv_bipush (v := nI 26) hx hb dX9_readLump_40 (by decide) ?_
      refine lv_iload_n hx hb dX9_readLump_42 rfl (lv_at hl 0 rfl) ?_
      refine lv_bipush (v := nI 12) hx hb dX9_readLump_43 (by decide) ?_
      refine lv_ishl hx hb dX9_readLump_45 ?_
      refine lv_topi (fun y32 e33 => ?_)
      refine lv_ior hx hb dX9_readLump_46 ?_
      refine lv_topi (fun y34 e35 => ?_)
      refine r_call_i (wr := [(a, .inr (7, [.int (nI wide), .int (nI high), .int heat, .int cools, .int skinHeat, .int today, .int stirs, .int steps, .int (nI lumps), .int (nI boats), .ref thickness, .ref lumpNames, .ref lumpCells, .ref boatNames, .ref boatCells, .ref loads, .ref spoons, .ref spoonsLeft, .ref depths])), (lumpNames, .inl (ky 1, 6, .inr (.inl lumpNamesF))), (reader, .inr (5, [.ref rtape, .int (nI rlength), .int (nI rmostBytes), .int (nI rplaceG_23), .int rkindG_24, .int (nI rbeginG_25), .int rwordG_26, .int rnumberG_27, .long rlettersG_28, .int rfaultKind, .int rfaultPlace])), (rtape, .inl (ky 2, 940, .inl rtapeF))]) (va_runV (As := [.int y34]) (rest := []) ⟨hx, hb, hml, hown, hts⟩ (c_f_put9 l dC dI ky H.size se ccodes ccodeCount cones ccodesF y34 iv_cse_0 iv_cse_1 hc9) (cwV 1 hts gX9_readLump_X9_put rfl rfl rfl (by decide +kernel) ⟨(Nat.le_of_ble_eq_true rfl), (Nat.le_of_ble_eq_true rfl)⟩) (pre_UV hK hP hD [0, 1] (by decide) rfl (ci := 9) (q0 := 0) rfl rfl) rfl rfl hl.1 rfl (lv_room (Nat.le_of_ble_eq_true rfl)) dX9_readLump_47 ⟨(Nat.le_of_ble_eq_true rfl), (Nat.le_of_ble_eq_true rfl)⟩) hP hD hS hA [0, 1] [2, 3, 4, 5] rfl rfl (by decide) (by decide) (fun r38 u36 H locs p37 hP hD hS => ?_)
      obtain ⟨ccodeCountG_39, ccodesG_40⟩ := u36
      try dsimp only at p37
      obtain ⟨p41, p42, p43⟩ := p37
      refine W.widen (k := 0) (n := 0) (Nat.le_of_ble_eq_true rfl) (Nat.le_of_ble_eq_true rfl) ?_
      have hP : va_P (dC, dI) vwCl [(a, .inr (7, [.int (nI wide), .int (nI high), .int heat, .int cools, .int skinHeat, .int today, .int stirs, .int steps, .int (nI lumps), .int (nI boats), .ref thickness, .ref lumpNames, .ref lumpCells, .ref boatNames, .ref boatCells, .ref loads, .ref spoons, .ref spoonsLeft, .ref depths])), (lumpNames, .inl (ky 1, 6, .inr (.inl lumpNamesF))), (reader, .inr (5, [.ref rtape, .int (nI rlength), .int (nI rmostBytes), .int (nI rplaceG_23), .int rkindG_24, .int (nI rbeginG_25), .int rwordG_26, .int rnumberG_27, .long rlettersG_28, .int rfaultKind, .int rfaultPlace])), (rtape, .inl (ky 2, 940, .inl rtapeF)), (se, .inr (9, [.ref ccodes, .int (nI ccodeCountG_39), .int (nI cones)])), (ccodes, .inl (ky 0, 40, .inl ccodesG_40))] H := hP
      have hD : va_D A [(a, .inr (7, [.int (nI wide), .int (nI high), .int heat, .int cools, .int skinHeat, .int today, .int stirs, .int steps, .int (nI lumps), .int (nI boats), .ref thickness, .ref lumpNames, .ref lumpCells, .ref boatNames, .ref boatCells, .ref loads, .ref spoons, .ref spoonsLeft, .ref depths])), (lumpNames, .inl (ky 1, 6, .inr (.inl lumpNamesF))), (reader, .inr (5, [.ref rtape, .int (nI rlength), .int (nI rmostBytes), .int (nI rplaceG_23), .int rkindG_24, .int (nI rbeginG_25), .int rwordG_26, .int rnumberG_27, .long rlettersG_28, .int rfaultKind, .int rfaultPlace])), (rtape, .inl (ky 2, 940, .inl rtapeF)), (se, .inr (9, [.ref ccodes, .int (nI ccodeCountG_39), .int (nI cones)])), (ccodes, .inl (ky 0, 40, .inl ccodesG_40))] := hD
      subst p41
      rw [hQ]
      have hP9 := hP.sub (ws' := [(se, .inr (9, [.ref ccodes, .int (nI ccodeCountG_39), .int (nI cones)])), (ccodes, .inl (ky 0, 40, .inl ccodesG_40)), (reader, .inr (5, [.ref rtape, .int (nI rlength), .int (nI rmostBytes), .int (nI rplaceG_23), .int rkindG_24, .int (nI rbeginG_25), .int rwordG_26, .int rnumberG_27, .long rlettersG_28, .int rfaultKind, .int rfaultPlace])), (rtape, .inl (ky 2, 940, .inl rtapeF)), (a, .inr (7, [.int (nI wide), .int (nI high), .int heat, .int cools, .int skinHeat, .int today, .int stirs, .int steps, .int (nI lumps), .int (nI boats), .ref thickness, .ref lumpNames, .ref lumpCells, .ref boatNames, .ref boatCells, .ref loads, .ref spoons, .ref spoonsLeft, .ref depths])), (lumpNames, .inl (ky 1, 6, .inr (.inl lumpNamesF)))]) [4, 5, 2, 3, 0, 1] rfl
      have hD9 := hD.sub (ws' := [(se, .inr (9, [.ref ccodes, .int (nI ccodeCountG_39), .int (nI cones)])), (ccodes, .inl (ky 0, 40, .inl ccodesG_40)), (reader, .inr (5, [.ref rtape, .int (nI rlength), .int (nI rmostBytes), .int (nI rplaceG_23), .int rkindG_24, .int (nI rbeginG_25), .int rwordG_26, .int rnumberG_27, .long rlettersG_28, .int rfaultKind, .int rfaultPlace])), (rtape, .inl (ky 2, 940, .inl rtapeF)), (a, .inr (7, [.int (nI wide), .int (nI high), .int heat, .int cools, .int skinHeat, .int today, .int stirs, .int steps, .int (nI lumps), .int (nI boats), .ref thickness, .ref lumpNames, .ref lumpCells, .ref boatNames, .ref boatCells, .ref loads, .ref spoons, .ref spoonsLeft, .ref depths])), (lumpNames, .inl (ky 1, 6, .inr (.inl lumpNamesF)))]) [4, 5, 2, 3, 0, 1] (by decide) rfl
      exact W.zret (v := nI 1) hx hb hr (by decide) (fun t9 ht9 hW9 => ⟨⟨nI 1, (ccodeCountG_39, ccodesG_40, rplaceG_23, rkindG_24, rbeginG_25, rwordG_26, rnumberG_27, rlettersG_28, rfaultKind, rfaultPlace), rfl, ⟨(lf_f_snBy_3 ccodeCount bt rlength rmostBytes rplace rkind rbegin rword rnumber rletters rfaultKind rfaultPlace rtapeF lumps lumpNamesF gp gnu r1 k6 rplaceG_23 rkindG_24 rbeginG_25 rwordG_26 rnumberG_27 rlettersG_28 y32 y34 ccodeCountG_39 iv_cse_0 iv_rreader_0 iv_rreader_1 iv_rreader_2 iv_rreader_3 hTC iv_a_4 hRT hNL hc9 p2 c3 h8 h9 p29 p30 p31 e33 e35 p42 p43), p42, p29, p30⟩, by rw [ht9]; exact hP9, va_K.moved hW9.alike hK, hD9⟩, hS.F ht9⟩) hS.2.2 dX9_readLump_50
  · refine lv_aload_n hx hb dX9_readLump_9 rfl (lv_at hl 1 rfl) ?_
    refine lv_iconst (v := nI 1) hx hb dX9_readLump_10 (by decide) ?_
    refine r_call_i (wr := [(se, .inr (9, [.ref ccodes, .int (nI ccodeCount), .int (nI cones)])), (ccodes, .inl (ky 0, 40, .inl ccodesF)), (rtape, .inl (ky 2, 940, .inl rtapeF)), (a, .inr (7, [.int (nI wide), .int (nI high), .int heat, .int cools, .int skinHeat, .int today, .int stirs, .int steps, .int (nI lumps), .int (nI boats), .ref thickness, .ref lumpNames, .ref lumpCells, .ref boatNames, .ref boatCells, .ref loads, .ref spoons, .ref spoonsLeft, .ref depths])), (lumpNames, .inl (ky 1, 6, .inr (.inl lumpNamesF)))]) (va_runV (As := [.int (nI 1)]) (rest := []) ⟨hx, hb, hml, hown, hts⟩ (c_f_refuse l dC dI ky s.heap.size reader rtape rlength rmostBytes rplace rkind rbegin rword rnumber rletters rfaultKind rfaultPlace (nI 1) iv_rreader_0 iv_rreader_1 iv_rreader_2 iv_rreader_3) (cwV 1 hts gX9_readLump_X5_refuse rfl rfl rfl (by decide +kernel) ⟨(Nat.le_of_ble_eq_true rfl), (Nat.le_of_ble_eq_true rfl)⟩) (pre_UV hK hP hD [2] (by decide) rfl (ci := 5) (q0 := 2) rfl rfl) rfl rfl hl.1 rfl (lv_room (Nat.le_of_ble_eq_true rfl)) dX9_readLump_11 ⟨(Nat.le_of_ble_eq_true rfl), (Nat.le_of_ble_eq_true rfl)⟩) hP hD hS hA [2] [0, 1, 3, 4, 5] rfl rfl (by decide) (by decide) (fun r46 u44 H locs p45 hP hD hS => ?_)
    obtain ⟨rfaultKindG_47, rfaultPlaceG_48⟩ := u44
    try dsimp only at p45
    obtain ⟨p49, p50, p51⟩ := p45
    refine W.widen (k := 0) (n := 0) (Nat.le_of_ble_eq_true rfl) (Nat.le_of_ble_eq_true rfl) ?_
    have hP : va_P (dC, dI) vwCl [(se, .inr (9, [.ref ccodes, .int (nI ccodeCount), .int (nI cones)])), (ccodes, .inl (ky 0, 40, .inl ccodesF)), (rtape, .inl (ky 2, 940, .inl rtapeF)), (a, .inr (7, [.int (nI wide), .int (nI high), .int heat, .int cools, .int skinHeat, .int today, .int stirs, .int steps, .int (nI lumps), .int (nI boats), .ref thickness, .ref lumpNames, .ref lumpCells, .ref boatNames, .ref boatCells, .ref loads, .ref spoons, .ref spoonsLeft, .ref depths])), (lumpNames, .inl (ky 1, 6, .inr (.inl lumpNamesF))), (reader, .inr (5, [.ref rtape, .int (nI rlength), .int (nI rmostBytes), .int (nI rplace), .int rkind, .int (nI rbegin), .int rword, .int rnumber, .long rletters, .int rfaultKindG_47, .int rfaultPlaceG_48]))] H := hP
    have hD : va_D A [(se, .inr (9, [.ref ccodes, .int (nI ccodeCount), .int (nI cones)])), (ccodes, .inl (ky 0, 40, .inl ccodesF)), (rtape, .inl (ky 2, 940, .inl rtapeF)), (a, .inr (7, [.int (nI wide), .int (nI high), .int heat, .int cools, .int skinHeat, .int today, .int stirs, .int steps, .int (nI lumps), .int (nI boats), .ref thickness, .ref lumpNames, .ref lumpCells, .ref boatNames, .ref boatCells, .ref loads, .ref spoons, .ref spoonsLeft, .ref depths])), (lumpNames, .inl (ky 1, 6, .inr (.inl lumpNamesF))), (reader, .inr (5, [.ref rtape, .int (nI rlength), .int (nI rmostBytes), .int (nI rplace), .int rkind, .int (nI rbegin), .int rword, .int rnumber, .long rletters, .int rfaultKindG_47, .int rfaultPlaceG_48]))] := hD
    subst p49
    rw [hQ]
    have hP9 := hP.sub (ws' := [(se, .inr (9, [.ref ccodes, .int (nI ccodeCount), .int (nI cones)])), (ccodes, .inl (ky 0, 40, .inl ccodesF)), (reader, .inr (5, [.ref rtape, .int (nI rlength), .int (nI rmostBytes), .int (nI rplace), .int rkind, .int (nI rbegin), .int rword, .int rnumber, .long rletters, .int rfaultKindG_47, .int rfaultPlaceG_48])), (rtape, .inl (ky 2, 940, .inl rtapeF)), (a, .inr (7, [.int (nI wide), .int (nI high), .int heat, .int cools, .int skinHeat, .int today, .int stirs, .int steps, .int (nI lumps), .int (nI boats), .ref thickness, .ref lumpNames, .ref lumpCells, .ref boatNames, .ref boatCells, .ref loads, .ref spoons, .ref spoonsLeft, .ref depths])), (lumpNames, .inl (ky 1, 6, .inr (.inl lumpNamesF)))]) [0, 1, 5, 2, 3, 4] rfl
    have hD9 := hD.sub (ws' := [(se, .inr (9, [.ref ccodes, .int (nI ccodeCount), .int (nI cones)])), (ccodes, .inl (ky 0, 40, .inl ccodesF)), (reader, .inr (5, [.ref rtape, .int (nI rlength), .int (nI rmostBytes), .int (nI rplace), .int rkind, .int (nI rbegin), .int rword, .int rnumber, .long rletters, .int rfaultKindG_47, .int rfaultPlaceG_48])), (rtape, .inl (ky 2, 940, .inl rtapeF)), (a, .inr (7, [.int (nI wide), .int (nI high), .int heat, .int cools, .int skinHeat, .int today, .int stirs, .int steps, .int (nI lumps), .int (nI boats), .ref thickness, .ref lumpNames, .ref lumpCells, .ref boatNames, .ref boatCells, .ref loads, .ref spoons, .ref spoonsLeft, .ref depths])), (lumpNames, .inl (ky 1, 6, .inr (.inl lumpNamesF)))]) [0, 1, 5, 2, 3, 4] (by decide) rfl
    exact W.zret (v := nI 0) hx hb hr (by decide) (fun t9 ht9 hW9 => ⟨⟨nI 0, (ccodeCount, ccodesF, rplace, rkind, rbegin, rword, rnumber, rletters, rfaultKindG_47, rfaultPlaceG_48), rfl, ⟨(lf_f_snBy_4 ccodeCount bt rlength rmostBytes rplace rkind rbegin rword rnumber rletters rfaultKind rfaultPlace rtapeF lumps lumpNamesF gp gnu r1 rfaultKindG_47 rfaultPlaceG_48 iv_cse_0 iv_rreader_0 iv_rreader_1 iv_rreader_2 iv_rreader_3 hTC iv_a_4 hRT hNL hc9 p2 c3 p50 p51), iv_cse_0, iv_rreader_1, iv_rreader_3⟩, by rw [ht9]; exact hP9, va_K.moved hW9.alike hK, hD9⟩, hS.F ht9⟩) hS.2.2 dX9_readLump_14
set_option maxRecDepth 20000 in
theorem lf_f_snCmp_1   : 0 ≤ 10 := by
  try simp only [ia_lt, ia_le, ia_eq, ia_m1, ia_0, ia_1, ne_eq, true_and, and_true, false_and, and_false, or_false, false_or, or_true, true_or, not_true_eq_false, not_false_eq_true] at *
  all_goals omega
set_option maxRecDepth 20000 in
theorem lf_f_snCmp_2   : 999 ≤ 1000 := by
  try simp only [ia_lt, ia_le, ia_eq, ia_m1, ia_0, ia_1, ne_eq, true_and, and_true, false_and, and_false, or_false, false_or, or_true, true_or, not_true_eq_false, not_false_eq_true] at *
  all_goals omega
set_option maxRecDepth 20000 in
theorem lf_f_snCmp_3 (ccodeCount : Nat) (bt : Nat → Nat) (rlength : Nat) (rmostBytes : Nat) (rplace : Nat) (rkind : Int32) (rbegin : Nat) (rword : Int32) (rnumber : Int32) (rletters : Int64) (rfaultKind : Int32) (rfaultPlace : Int32) (rtapeF : Nat → Int32) (gp : Nat) (rplaceG_4 : Nat) (rkindG_5 : Int32) (rbeginG_6 : Nat) (rwordG_7 : Int32) (rnumberG_8 : Int32) (rlettersG_9 : Int64) (rplaceG_16 : Nat) (rkindG_17 : Int32) (rbeginG_18 : Nat) (rwordG_19 : Int32) (rnumberG_20 : Int32) (rlettersG_21 : Int64) (rfaultKindG_22 : Int32) (rfaultPlaceG_23 : Int32) (iv_cse_0 : ccodeCount ≤ 40) (iv_rreader_0 : rlength ≤ 940) (iv_rreader_1 : rplace ≤ rlength) (iv_rreader_2 : rmostBytes ≤ 900) (iv_rreader_3 : rbegin ≤ 940) (hTC : TC bt rtapeF) (hRT : RT bt rlength rmostBytes gp rkind rbegin rplace rword rnumber rletters) (hc9 : ccodeCount < 40) (c1 : rkind = nI 60) (p10 : rplaceG_4 ≤ rlength) (p11 : rbeginG_6 ≤ 940) (p12 : RT bt rlength rmostBytes (tT bt rlength rmostBytes gp) rkindG_5 rbeginG_6 rplaceG_4 rwordG_7 rnumberG_8 rlettersG_9) (p25 : rplaceG_16 ≤ rlength) (p26 : rbeginG_18 ≤ 940) (t35 : pNum bt rlength rmostBytes 0 999 (tT bt rlength rmostBytes gp) = .error (nER bt rlength rmostBytes (tT bt rlength rmostBytes gp), tF bt rlength rmostBytes (tT bt rlength rmostBytes gp))) (t36 : rfaultKindG_22 = nI (nER bt rlength rmostBytes (tT bt rlength rmostBytes gp))) (t37 : rfaultPlaceG_23 = nI (tF bt rlength rmostBytes (tT bt rlength rmostBytes gp))) : ((nI 0) = nI 1 ∧ (isO (pCmp bt rlength rmostBytes gp) = true ∧ RT bt rlength rmostBytes (okV (pCmp bt rlength rmostBytes gp)) rkindG_17 rbeginG_18 rplaceG_16 rwordG_19 rnumberG_20 rlettersG_21 ∧ ccodeCount = ccodeCount + 1 ∧ rfaultKindG_22 = rfaultKind ∧ rfaultPlaceG_23 = rfaultPlace)) ∨ ((nI 0) = nI 0 ∧ (isO (pCmp bt rlength rmostBytes gp) = false ∧ rfaultKindG_22 = nI (erA (pCmp bt rlength rmostBytes gp)) ∧ rfaultPlaceG_23 = nI (erB (pCmp bt rlength rmostBytes gp)))) := by
  have k60 := RT_k hRT (c := 60) (by decide)
  have k61 := RT_k hRT (c := 61) (by decide)
  have k62 := RT_k hRT (c := 62) (by decide)
  have hs : tK bt rlength rmostBytes gp = 60 ∨ tK bt rlength rmostBytes gp = 61 ∨ tK bt rlength rmostBytes gp = 62 := by
    rw [← k60, ← k61, ← k62]
    first
      | exact Or.inl (by first | rfl | assumption)
      | exact Or.inr (Or.inl (by first | rfl | assumption))
      | exact Or.inr (Or.inr (by first | rfl | assumption))
  rw [cmp_e hs (by assumption)]
  exact Or.inr ⟨rfl, rfl, ‹_›, ‹_›⟩
set_option maxRecDepth 20000 in
theorem lf_f_snCmp_4 (bt : Nat → Nat) (rlength : Nat) (rmostBytes : Nat) (rplace : Nat) (rkind : Int32) (rbegin : Nat) (rword : Int32) (rnumber : Int32) (rletters : Int64) (rtapeF : Nat → Int32) (gp : Nat) (rplaceG_4 : Nat) (rkindG_5 : Int32) (rbeginG_6 : Nat) (rwordG_7 : Int32) (rnumberG_8 : Int32) (rlettersG_9 : Int64) (rplaceG_16 : Nat) (rkindG_17 : Int32) (rbeginG_18 : Nat) (rwordG_19 : Int32) (rnumberG_20 : Int32) (rlettersG_21 : Int64) (k27 : Nat) (iv_rreader_0 : rlength ≤ 940) (iv_rreader_1 : rplace ≤ rlength) (iv_rreader_2 : rmostBytes ≤ 900) (iv_rreader_3 : rbegin ≤ 940) (hTC : TC bt rtapeF) (hRT : RT bt rlength rmostBytes gp rkind rbegin rplace rword rnumber rletters) (c1 : rkind = nI 60) (p10 : rplaceG_4 ≤ rlength) (p11 : rbeginG_6 ≤ 940) (p12 : RT bt rlength rmostBytes (tT bt rlength rmostBytes gp) rkindG_5 rbeginG_6 rplaceG_4 rwordG_7 rnumberG_8 rlettersG_9) (p25 : rplaceG_16 ≤ rlength) (p26 : rbeginG_18 ≤ 940) (h29 : pNum bt rlength rmostBytes 0 999 (tT bt rlength rmostBytes gp) = .ok k27) (h30 : 0 ≤ k27) (h31 : k27 ≤ 999) (h32 : RT bt rlength rmostBytes (tT bt rlength rmostBytes (tT bt rlength rmostBytes gp)) rkindG_17 rbeginG_18 rplaceG_16 rwordG_19 rnumberG_20 rlettersG_21) : k27 < 2147483648 := by
  have b_rkind := ia_b rkind
  have b_rword := ia_b rword
  have b_rnumber := ia_b rnumber
  have b_rkindG_5 := ia_b rkindG_5
  have b_rwordG_7 := ia_b rwordG_7
  have b_rnumberG_8 := ia_b rnumberG_8
  have b_rkindG_17 := ia_b rkindG_17
  have b_rwordG_19 := ia_b rwordG_19
  have b_rnumberG_20 := ia_b rnumberG_20
  have b_rletters := Int64.toInt_lt rletters
  have b_rlettersG_9 := Int64.toInt_lt rlettersG_9
  have b_rlettersG_21 := Int64.toInt_lt rlettersG_21
  try have k_0 := ia_n 60 (by first | decide | omega)
  try simp only [ia_lt, ia_le, ia_eq, ia_m1, ia_0, ia_1, ne_eq, true_and, and_true, false_and, and_false, or_false, false_or, or_true, true_or, not_true_eq_false, not_false_eq_true] at *
  all_goals omega
set_option maxRecDepth 20000 in
theorem lf_f_snCmp_5 (ccodeCount : Nat) (bt : Nat → Nat) (rlength : Nat) (rmostBytes : Nat) (rplace : Nat) (rkind : Int32) (rbegin : Nat) (rword : Int32) (rnumber : Int32) (rletters : Int64) (rfaultKind : Int32) (rfaultPlace : Int32) (rtapeF : Nat → Int32) (gp : Nat) (x : Int32) (rplaceG_4 : Nat) (rkindG_5 : Int32) (rbeginG_6 : Nat) (rwordG_7 : Int32) (rnumberG_8 : Int32) (rlettersG_9 : Int64) (rplaceG_16 : Nat) (rkindG_17 : Int32) (rbeginG_18 : Nat) (rwordG_19 : Int32) (rnumberG_20 : Int32) (rlettersG_21 : Int64) (rfaultKindG_22 : Int32) (rfaultPlaceG_23 : Int32) (k27 : Nat) (y40 : Int32) (y42 : Int32) (y44 : Int32) (y46 : Int32) (ccodeCountG_51 : Nat) (iv_cse_0 : ccodeCount ≤ 40) (iv_rreader_0 : rlength ≤ 940) (iv_rreader_1 : rplace ≤ rlength) (iv_rreader_2 : rmostBytes ≤ 900) (iv_rreader_3 : rbegin ≤ 940) (hTC : TC bt rtapeF) (hRT : RT bt rlength rmostBytes gp rkind rbegin rplace rword rnumber rletters) (hc9 : ccodeCount < 40) (c1 : rkind = nI 60) (p10 : rplaceG_4 ≤ rlength) (p11 : rbeginG_6 ≤ 940) (p12 : RT bt rlength rmostBytes (tT bt rlength rmostBytes gp) rkindG_5 rbeginG_6 rplaceG_4 rwordG_7 rnumberG_8 rlettersG_9) (p25 : rplaceG_16 ≤ rlength) (p26 : rbeginG_18 ≤ 940) (h29 : pNum bt rlength rmostBytes 0 999 (tT bt rlength rmostBytes gp) = .ok k27) (h30 : 0 ≤ k27) (h31 : k27 ≤ 999) (h32 : RT bt rlength rmostBytes (tT bt rlength rmostBytes (tT bt rlength rmostBytes gp)) rkindG_17 rbeginG_18 rplaceG_16 rwordG_19 rnumberG_20 rlettersG_21) (h33 : rfaultKindG_22 = rfaultKind) (h34 : rfaultPlaceG_23 = rfaultPlace) (e41 : y40 = rkind <<< ((nI 5) &&& 31)) (e43 : y42 = x ||| y40) (e45 : y44 = (nI k27) <<< ((nI 12) &&& 31)) (e47 : y46 = y42 ||| y44) (p54 : ccodeCountG_51 ≤ 40) (p55 : ccodeCountG_51 = ccodeCount + 1) : ((nI 1) = nI 1 ∧ (isO (pCmp bt rlength rmostBytes gp) = true ∧ RT bt rlength rmostBytes (okV (pCmp bt rlength rmostBytes gp)) rkindG_17 rbeginG_18 rplaceG_16 rwordG_19 rnumberG_20 rlettersG_21 ∧ ccodeCountG_51 = ccodeCount + 1 ∧ rfaultKindG_22 = rfaultKind ∧ rfaultPlaceG_23 = rfaultPlace)) ∨ ((nI 1) = nI 0 ∧ (isO (pCmp bt rlength rmostBytes gp) = false ∧ rfaultKindG_22 = nI (erA (pCmp bt rlength rmostBytes gp)) ∧ rfaultPlaceG_23 = nI (erB (pCmp bt rlength rmostBytes gp)))) := by
  have k60 := RT_k hRT (c := 60) (by decide)
  have k61 := RT_k hRT (c := 61) (by decide)
  have k62 := RT_k hRT (c := 62) (by decide)
  have hs : tK bt rlength rmostBytes gp = 60 ∨ tK bt rlength rmostBytes gp = 61 ∨ tK bt rlength rmostBytes gp = 62 := by
    rw [← k60, ← k61, ← k62]
    first
      | exact Or.inl (by first | rfl | assumption)
      | exact Or.inr (Or.inl (by first | rfl | assumption))
      | exact Or.inr (Or.inr (by first | rfl | assumption))
  rw [cmp_o hs (by assumption)]
  exact Or.inl ⟨rfl, rfl, ‹_›, (by first | rfl | assumption | (subst_vars; rfl) | (subst_vars; assumption)), (by first | rfl | assumption | (subst_vars; rfl) | (subst_vars; assumption)), (by first | rfl | assumption | (subst_vars; rfl) | (subst_vars; assumption))⟩
set_option maxRecDepth 20000 in
theorem lf_f_snCmp_6   : 0 ≤ 10 := by
  try simp only [ia_lt, ia_le, ia_eq, ia_m1, ia_0, ia_1, ne_eq, true_and, and_true, false_and, and_false, or_false, false_or, or_true, true_or, not_true_eq_false, not_false_eq_true] at *
  all_goals omega
set_option maxRecDepth 20000 in
theorem lf_f_snCmp_7   : 999 ≤ 1000 := by
  try simp only [ia_lt, ia_le, ia_eq, ia_m1, ia_0, ia_1, ne_eq, true_and, and_true, false_and, and_false, or_false, false_or, or_true, true_or, not_true_eq_false, not_false_eq_true] at *
  all_goals omega
set_option maxRecDepth 20000 in
theorem lf_f_snCmp_8 (ccodeCount : Nat) (bt : Nat → Nat) (rlength : Nat) (rmostBytes : Nat) (rplace : Nat) (rkind : Int32) (rbegin : Nat) (rword : Int32) (rnumber : Int32) (rletters : Int64) (rfaultKind : Int32) (rfaultPlace : Int32) (rtapeF : Nat → Int32) (gp : Nat) (rplaceG_60 : Nat) (rkindG_61 : Int32) (rbeginG_62 : Nat) (rwordG_63 : Int32) (rnumberG_64 : Int32) (rlettersG_65 : Int64) (rplaceG_72 : Nat) (rkindG_73 : Int32) (rbeginG_74 : Nat) (rwordG_75 : Int32) (rnumberG_76 : Int32) (rlettersG_77 : Int64) (rfaultKindG_78 : Int32) (rfaultPlaceG_79 : Int32) (iv_cse_0 : ccodeCount ≤ 40) (iv_rreader_0 : rlength ≤ 940) (iv_rreader_1 : rplace ≤ rlength) (iv_rreader_2 : rmostBytes ≤ 900) (iv_rreader_3 : rbegin ≤ 940) (hTC : TC bt rtapeF) (hRT : RT bt rlength rmostBytes gp rkind rbegin rplace rword rnumber rletters) (hc9 : ccodeCount < 40) (c1 : ¬ rkind = nI 60) (c57 : rkind = nI 61) (p66 : rplaceG_60 ≤ rlength) (p67 : rbeginG_62 ≤ 940) (p68 : RT bt rlength rmostBytes (tT bt rlength rmostBytes gp) rkindG_61 rbeginG_62 rplaceG_60 rwordG_63 rnumberG_64 rlettersG_65) (p81 : rplaceG_72 ≤ rlength) (p82 : rbeginG_74 ≤ 940) (t91 : pNum bt rlength rmostBytes 0 999 (tT bt rlength rmostBytes gp) = .error (nER bt rlength rmostBytes (tT bt rlength rmostBytes gp), tF bt rlength rmostBytes (tT bt rlength rmostBytes gp))) (t92 : rfaultKindG_78 = nI (nER bt rlength rmostBytes (tT bt rlength rmostBytes gp))) (t93 : rfaultPlaceG_79 = nI (tF bt rlength rmostBytes (tT bt rlength rmostBytes gp))) : ((nI 0) = nI 1 ∧ (isO (pCmp bt rlength rmostBytes gp) = true ∧ RT bt rlength rmostBytes (okV (pCmp bt rlength rmostBytes gp)) rkindG_73 rbeginG_74 rplaceG_72 rwordG_75 rnumberG_76 rlettersG_77 ∧ ccodeCount = ccodeCount + 1 ∧ rfaultKindG_78 = rfaultKind ∧ rfaultPlaceG_79 = rfaultPlace)) ∨ ((nI 0) = nI 0 ∧ (isO (pCmp bt rlength rmostBytes gp) = false ∧ rfaultKindG_78 = nI (erA (pCmp bt rlength rmostBytes gp)) ∧ rfaultPlaceG_79 = nI (erB (pCmp bt rlength rmostBytes gp)))) := by
  have k60 := RT_k hRT (c := 60) (by decide)
  have k61 := RT_k hRT (c := 61) (by decide)
  have k62 := RT_k hRT (c := 62) (by decide)
  have hs : tK bt rlength rmostBytes gp = 60 ∨ tK bt rlength rmostBytes gp = 61 ∨ tK bt rlength rmostBytes gp = 62 := by
    rw [← k60, ← k61, ← k62]
    first
      | exact Or.inl (by first | rfl | assumption)
      | exact Or.inr (Or.inl (by first | rfl | assumption))
      | exact Or.inr (Or.inr (by first | rfl | assumption))
  rw [cmp_e hs (by assumption)]
  exact Or.inr ⟨rfl, rfl, ‹_›, ‹_›⟩
set_option maxRecDepth 20000 in
theorem lf_f_snCmp_9 (bt : Nat → Nat) (rlength : Nat) (rmostBytes : Nat) (rplace : Nat) (rkind : Int32) (rbegin : Nat) (rword : Int32) (rnumber : Int32) (rletters : Int64) (rtapeF : Nat → Int32) (gp : Nat) (rplaceG_60 : Nat) (rkindG_61 : Int32) (rbeginG_62 : Nat) (rwordG_63 : Int32) (rnumberG_64 : Int32) (rlettersG_65 : Int64) (rplaceG_72 : Nat) (rkindG_73 : Int32) (rbeginG_74 : Nat) (rwordG_75 : Int32) (rnumberG_76 : Int32) (rlettersG_77 : Int64) (k83 : Nat) (iv_rreader_0 : rlength ≤ 940) (iv_rreader_1 : rplace ≤ rlength) (iv_rreader_2 : rmostBytes ≤ 900) (iv_rreader_3 : rbegin ≤ 940) (hTC : TC bt rtapeF) (hRT : RT bt rlength rmostBytes gp rkind rbegin rplace rword rnumber rletters) (c1 : ¬ rkind = nI 60) (c57 : rkind = nI 61) (p66 : rplaceG_60 ≤ rlength) (p67 : rbeginG_62 ≤ 940) (p68 : RT bt rlength rmostBytes (tT bt rlength rmostBytes gp) rkindG_61 rbeginG_62 rplaceG_60 rwordG_63 rnumberG_64 rlettersG_65) (p81 : rplaceG_72 ≤ rlength) (p82 : rbeginG_74 ≤ 940) (h85 : pNum bt rlength rmostBytes 0 999 (tT bt rlength rmostBytes gp) = .ok k83) (h86 : 0 ≤ k83) (h87 : k83 ≤ 999) (h88 : RT bt rlength rmostBytes (tT bt rlength rmostBytes (tT bt rlength rmostBytes gp)) rkindG_73 rbeginG_74 rplaceG_72 rwordG_75 rnumberG_76 rlettersG_77) : k83 < 2147483648 := by
  have b_rkind := ia_b rkind
  have b_rword := ia_b rword
  have b_rnumber := ia_b rnumber
  have b_rkindG_61 := ia_b rkindG_61
  have b_rwordG_63 := ia_b rwordG_63
  have b_rnumberG_64 := ia_b rnumberG_64
  have b_rkindG_73 := ia_b rkindG_73
  have b_rwordG_75 := ia_b rwordG_75
  have b_rnumberG_76 := ia_b rnumberG_76
  have b_rletters := Int64.toInt_lt rletters
  have b_rlettersG_65 := Int64.toInt_lt rlettersG_65
  have b_rlettersG_77 := Int64.toInt_lt rlettersG_77
  try have k_0 := ia_n 60 (by first | decide | omega)
  try have k_1 := ia_n 61 (by first | decide | omega)
  try simp only [ia_lt, ia_le, ia_eq, ia_m1, ia_0, ia_1, ne_eq, true_and, and_true, false_and, and_false, or_false, false_or, or_true, true_or, not_true_eq_false, not_false_eq_true] at *
  all_goals omega
set_option maxRecDepth 20000 in
theorem lf_f_snCmp_10 (ccodeCount : Nat) (bt : Nat → Nat) (rlength : Nat) (rmostBytes : Nat) (rplace : Nat) (rkind : Int32) (rbegin : Nat) (rword : Int32) (rnumber : Int32) (rletters : Int64) (rfaultKind : Int32) (rfaultPlace : Int32) (rtapeF : Nat → Int32) (gp : Nat) (x : Int32) (rplaceG_60 : Nat) (rkindG_61 : Int32) (rbeginG_62 : Nat) (rwordG_63 : Int32) (rnumberG_64 : Int32) (rlettersG_65 : Int64) (rplaceG_72 : Nat) (rkindG_73 : Int32) (rbeginG_74 : Nat) (rwordG_75 : Int32) (rnumberG_76 : Int32) (rlettersG_77 : Int64) (rfaultKindG_78 : Int32) (rfaultPlaceG_79 : Int32) (k83 : Nat) (y96 : Int32) (y98 : Int32) (y100 : Int32) (y102 : Int32) (ccodeCountG_107 : Nat) (iv_cse_0 : ccodeCount ≤ 40) (iv_rreader_0 : rlength ≤ 940) (iv_rreader_1 : rplace ≤ rlength) (iv_rreader_2 : rmostBytes ≤ 900) (iv_rreader_3 : rbegin ≤ 940) (hTC : TC bt rtapeF) (hRT : RT bt rlength rmostBytes gp rkind rbegin rplace rword rnumber rletters) (hc9 : ccodeCount < 40) (c1 : ¬ rkind = nI 60) (c57 : rkind = nI 61) (p66 : rplaceG_60 ≤ rlength) (p67 : rbeginG_62 ≤ 940) (p68 : RT bt rlength rmostBytes (tT bt rlength rmostBytes gp) rkindG_61 rbeginG_62 rplaceG_60 rwordG_63 rnumberG_64 rlettersG_65) (p81 : rplaceG_72 ≤ rlength) (p82 : rbeginG_74 ≤ 940) (h85 : pNum bt rlength rmostBytes 0 999 (tT bt rlength rmostBytes gp) = .ok k83) (h86 : 0 ≤ k83) (h87 : k83 ≤ 999) (h88 : RT bt rlength rmostBytes (tT bt rlength rmostBytes (tT bt rlength rmostBytes gp)) rkindG_73 rbeginG_74 rplaceG_72 rwordG_75 rnumberG_76 rlettersG_77) (h89 : rfaultKindG_78 = rfaultKind) (h90 : rfaultPlaceG_79 = rfaultPlace) (e97 : y96 = rkind <<< ((nI 5) &&& 31)) (e99 : y98 = x ||| y96) (e101 : y100 = (nI k83) <<< ((nI 12) &&& 31)) (e103 : y102 = y98 ||| y100) (p110 : ccodeCountG_107 ≤ 40) (p111 : ccodeCountG_107 = ccodeCount + 1) : ((nI 1) = nI 1 ∧ (isO (pCmp bt rlength rmostBytes gp) = true ∧ RT bt rlength rmostBytes (okV (pCmp bt rlength rmostBytes gp)) rkindG_73 rbeginG_74 rplaceG_72 rwordG_75 rnumberG_76 rlettersG_77 ∧ ccodeCountG_107 = ccodeCount + 1 ∧ rfaultKindG_78 = rfaultKind ∧ rfaultPlaceG_79 = rfaultPlace)) ∨ ((nI 1) = nI 0 ∧ (isO (pCmp bt rlength rmostBytes gp) = false ∧ rfaultKindG_78 = nI (erA (pCmp bt rlength rmostBytes gp)) ∧ rfaultPlaceG_79 = nI (erB (pCmp bt rlength rmostBytes gp)))) := by
  have k60 := RT_k hRT (c := 60) (by decide)
  have k61 := RT_k hRT (c := 61) (by decide)
  have k62 := RT_k hRT (c := 62) (by decide)
  have hs : tK bt rlength rmostBytes gp = 60 ∨ tK bt rlength rmostBytes gp = 61 ∨ tK bt rlength rmostBytes gp = 62 := by
    rw [← k60, ← k61, ← k62]
    first
      | exact Or.inl (by first | rfl | assumption)
      | exact Or.inr (Or.inl (by first | rfl | assumption))
      | exact Or.inr (Or.inr (by first | rfl | assumption))
  rw [cmp_o hs (by assumption)]
  exact Or.inl ⟨rfl, rfl, ‹_›, (by first | rfl | assumption | (subst_vars; rfl) | (subst_vars; assumption)), (by first | rfl | assumption | (subst_vars; rfl) | (subst_vars; assumption)), (by first | rfl | assumption | (subst_vars; rfl) | (subst_vars; assumption))⟩
set_option maxRecDepth 20000 in
theorem lf_f_snCmp_11   : 0 ≤ 10 := by
  try simp only [ia_lt, ia_le, ia_eq, ia_m1, ia_0, ia_1, ne_eq, true_and, and_true, false_and, and_false, or_false, false_or, or_true, true_or, not_true_eq_false, not_false_eq_true] at *
  all_goals omega
set_option maxRecDepth 20000 in
theorem lf_f_snCmp_12   : 999 ≤ 1000 := by
  try simp only [ia_lt, ia_le, ia_eq, ia_m1, ia_0, ia_1, ne_eq, true_and, and_true, false_and, and_false, or_false, false_or, or_true, true_or, not_true_eq_false, not_false_eq_true] at *
  all_goals omega
set_option maxRecDepth 20000 in
theorem lf_f_snCmp_13 (ccodeCount : Nat) (bt : Nat → Nat) (rlength : Nat) (rmostBytes : Nat) (rplace : Nat) (rkind : Int32) (rbegin : Nat) (rword : Int32) (rnumber : Int32) (rletters : Int64) (rfaultKind : Int32) (rfaultPlace : Int32) (rtapeF : Nat → Int32) (gp : Nat) (rplaceG_116 : Nat) (rkindG_117 : Int32) (rbeginG_118 : Nat) (rwordG_119 : Int32) (rnumberG_120 : Int32) (rlettersG_121 : Int64) (rplaceG_128 : Nat) (rkindG_129 : Int32) (rbeginG_130 : Nat) (rwordG_131 : Int32) (rnumberG_132 : Int32) (rlettersG_133 : Int64) (rfaultKindG_134 : Int32) (rfaultPlaceG_135 : Int32) (iv_cse_0 : ccodeCount ≤ 40) (iv_rreader_0 : rlength ≤ 940) (iv_rreader_1 : rplace ≤ rlength) (iv_rreader_2 : rmostBytes ≤ 900) (iv_rreader_3 : rbegin ≤ 940) (hTC : TC bt rtapeF) (hRT : RT bt rlength rmostBytes gp rkind rbegin rplace rword rnumber rletters) (hc9 : ccodeCount < 40) (c1 : ¬ rkind = nI 60) (c57 : ¬ rkind = nI 61) (c113 : rkind = nI 62) (p122 : rplaceG_116 ≤ rlength) (p123 : rbeginG_118 ≤ 940) (p124 : RT bt rlength rmostBytes (tT bt rlength rmostBytes gp) rkindG_117 rbeginG_118 rplaceG_116 rwordG_119 rnumberG_120 rlettersG_121) (p137 : rplaceG_128 ≤ rlength) (p138 : rbeginG_130 ≤ 940) (t147 : pNum bt rlength rmostBytes 0 999 (tT bt rlength rmostBytes gp) = .error (nER bt rlength rmostBytes (tT bt rlength rmostBytes gp), tF bt rlength rmostBytes (tT bt rlength rmostBytes gp))) (t148 : rfaultKindG_134 = nI (nER bt rlength rmostBytes (tT bt rlength rmostBytes gp))) (t149 : rfaultPlaceG_135 = nI (tF bt rlength rmostBytes (tT bt rlength rmostBytes gp))) : ((nI 0) = nI 1 ∧ (isO (pCmp bt rlength rmostBytes gp) = true ∧ RT bt rlength rmostBytes (okV (pCmp bt rlength rmostBytes gp)) rkindG_129 rbeginG_130 rplaceG_128 rwordG_131 rnumberG_132 rlettersG_133 ∧ ccodeCount = ccodeCount + 1 ∧ rfaultKindG_134 = rfaultKind ∧ rfaultPlaceG_135 = rfaultPlace)) ∨ ((nI 0) = nI 0 ∧ (isO (pCmp bt rlength rmostBytes gp) = false ∧ rfaultKindG_134 = nI (erA (pCmp bt rlength rmostBytes gp)) ∧ rfaultPlaceG_135 = nI (erB (pCmp bt rlength rmostBytes gp)))) := by
  have k60 := RT_k hRT (c := 60) (by decide)
  have k61 := RT_k hRT (c := 61) (by decide)
  have k62 := RT_k hRT (c := 62) (by decide)
  have hs : tK bt rlength rmostBytes gp = 60 ∨ tK bt rlength rmostBytes gp = 61 ∨ tK bt rlength rmostBytes gp = 62 := by
    rw [← k60, ← k61, ← k62]
    first
      | exact Or.inl (by first | rfl | assumption)
      | exact Or.inr (Or.inl (by first | rfl | assumption))
      | exact Or.inr (Or.inr (by first | rfl | assumption))
  rw [cmp_e hs (by assumption)]
  exact Or.inr ⟨rfl, rfl, ‹_›, ‹_›⟩
set_option maxRecDepth 20000 in
theorem lf_f_snCmp_14 (bt : Nat → Nat) (rlength : Nat) (rmostBytes : Nat) (rplace : Nat) (rkind : Int32) (rbegin : Nat) (rword : Int32) (rnumber : Int32) (rletters : Int64) (rtapeF : Nat → Int32) (gp : Nat) (rplaceG_116 : Nat) (rkindG_117 : Int32) (rbeginG_118 : Nat) (rwordG_119 : Int32) (rnumberG_120 : Int32) (rlettersG_121 : Int64) (rplaceG_128 : Nat) (rkindG_129 : Int32) (rbeginG_130 : Nat) (rwordG_131 : Int32) (rnumberG_132 : Int32) (rlettersG_133 : Int64) (k139 : Nat) (iv_rreader_0 : rlength ≤ 940) (iv_rreader_1 : rplace ≤ rlength) (iv_rreader_2 : rmostBytes ≤ 900) (iv_rreader_3 : rbegin ≤ 940) (hTC : TC bt rtapeF) (hRT : RT bt rlength rmostBytes gp rkind rbegin rplace rword rnumber rletters) (c1 : ¬ rkind = nI 60) (c57 : ¬ rkind = nI 61) (c113 : rkind = nI 62) (p122 : rplaceG_116 ≤ rlength) (p123 : rbeginG_118 ≤ 940) (p124 : RT bt rlength rmostBytes (tT bt rlength rmostBytes gp) rkindG_117 rbeginG_118 rplaceG_116 rwordG_119 rnumberG_120 rlettersG_121) (p137 : rplaceG_128 ≤ rlength) (p138 : rbeginG_130 ≤ 940) (h141 : pNum bt rlength rmostBytes 0 999 (tT bt rlength rmostBytes gp) = .ok k139) (h142 : 0 ≤ k139) (h143 : k139 ≤ 999) (h144 : RT bt rlength rmostBytes (tT bt rlength rmostBytes (tT bt rlength rmostBytes gp)) rkindG_129 rbeginG_130 rplaceG_128 rwordG_131 rnumberG_132 rlettersG_133) : k139 < 2147483648 := by
  have b_rkind := ia_b rkind
  have b_rword := ia_b rword
  have b_rnumber := ia_b rnumber
  have b_rkindG_117 := ia_b rkindG_117
  have b_rwordG_119 := ia_b rwordG_119
  have b_rnumberG_120 := ia_b rnumberG_120
  have b_rkindG_129 := ia_b rkindG_129
  have b_rwordG_131 := ia_b rwordG_131
  have b_rnumberG_132 := ia_b rnumberG_132
  have b_rletters := Int64.toInt_lt rletters
  have b_rlettersG_121 := Int64.toInt_lt rlettersG_121
  have b_rlettersG_133 := Int64.toInt_lt rlettersG_133
  try have k_0 := ia_n 60 (by first | decide | omega)
  try have k_1 := ia_n 61 (by first | decide | omega)
  try have k_2 := ia_n 62 (by first | decide | omega)
  try simp only [ia_lt, ia_le, ia_eq, ia_m1, ia_0, ia_1, ne_eq, true_and, and_true, false_and, and_false, or_false, false_or, or_true, true_or, not_true_eq_false, not_false_eq_true] at *
  all_goals omega
set_option maxRecDepth 20000 in
theorem lf_f_snCmp_15 (ccodeCount : Nat) (bt : Nat → Nat) (rlength : Nat) (rmostBytes : Nat) (rplace : Nat) (rkind : Int32) (rbegin : Nat) (rword : Int32) (rnumber : Int32) (rletters : Int64) (rfaultKind : Int32) (rfaultPlace : Int32) (rtapeF : Nat → Int32) (gp : Nat) (x : Int32) (rplaceG_116 : Nat) (rkindG_117 : Int32) (rbeginG_118 : Nat) (rwordG_119 : Int32) (rnumberG_120 : Int32) (rlettersG_121 : Int64) (rplaceG_128 : Nat) (rkindG_129 : Int32) (rbeginG_130 : Nat) (rwordG_131 : Int32) (rnumberG_132 : Int32) (rlettersG_133 : Int64) (rfaultKindG_134 : Int32) (rfaultPlaceG_135 : Int32) (k139 : Nat) (y152 : Int32) (y154 : Int32) (y156 : Int32) (y158 : Int32) (ccodeCountG_163 : Nat) (iv_cse_0 : ccodeCount ≤ 40) (iv_rreader_0 : rlength ≤ 940) (iv_rreader_1 : rplace ≤ rlength) (iv_rreader_2 : rmostBytes ≤ 900) (iv_rreader_3 : rbegin ≤ 940) (hTC : TC bt rtapeF) (hRT : RT bt rlength rmostBytes gp rkind rbegin rplace rword rnumber rletters) (hc9 : ccodeCount < 40) (c1 : ¬ rkind = nI 60) (c57 : ¬ rkind = nI 61) (c113 : rkind = nI 62) (p122 : rplaceG_116 ≤ rlength) (p123 : rbeginG_118 ≤ 940) (p124 : RT bt rlength rmostBytes (tT bt rlength rmostBytes gp) rkindG_117 rbeginG_118 rplaceG_116 rwordG_119 rnumberG_120 rlettersG_121) (p137 : rplaceG_128 ≤ rlength) (p138 : rbeginG_130 ≤ 940) (h141 : pNum bt rlength rmostBytes 0 999 (tT bt rlength rmostBytes gp) = .ok k139) (h142 : 0 ≤ k139) (h143 : k139 ≤ 999) (h144 : RT bt rlength rmostBytes (tT bt rlength rmostBytes (tT bt rlength rmostBytes gp)) rkindG_129 rbeginG_130 rplaceG_128 rwordG_131 rnumberG_132 rlettersG_133) (h145 : rfaultKindG_134 = rfaultKind) (h146 : rfaultPlaceG_135 = rfaultPlace) (e153 : y152 = rkind <<< ((nI 5) &&& 31)) (e155 : y154 = x ||| y152) (e157 : y156 = (nI k139) <<< ((nI 12) &&& 31)) (e159 : y158 = y154 ||| y156) (p166 : ccodeCountG_163 ≤ 40) (p167 : ccodeCountG_163 = ccodeCount + 1) : ((nI 1) = nI 1 ∧ (isO (pCmp bt rlength rmostBytes gp) = true ∧ RT bt rlength rmostBytes (okV (pCmp bt rlength rmostBytes gp)) rkindG_129 rbeginG_130 rplaceG_128 rwordG_131 rnumberG_132 rlettersG_133 ∧ ccodeCountG_163 = ccodeCount + 1 ∧ rfaultKindG_134 = rfaultKind ∧ rfaultPlaceG_135 = rfaultPlace)) ∨ ((nI 1) = nI 0 ∧ (isO (pCmp bt rlength rmostBytes gp) = false ∧ rfaultKindG_134 = nI (erA (pCmp bt rlength rmostBytes gp)) ∧ rfaultPlaceG_135 = nI (erB (pCmp bt rlength rmostBytes gp)))) := by
  have k60 := RT_k hRT (c := 60) (by decide)
  have k61 := RT_k hRT (c := 61) (by decide)
  have k62 := RT_k hRT (c := 62) (by decide)
  have hs : tK bt rlength rmostBytes gp = 60 ∨ tK bt rlength rmostBytes gp = 61 ∨ tK bt rlength rmostBytes gp = 62 := by
    rw [← k60, ← k61, ← k62]
    first
      | exact Or.inl (by first | rfl | assumption)
      | exact Or.inr (Or.inl (by first | rfl | assumption))
      | exact Or.inr (Or.inr (by first | rfl | assumption))
  rw [cmp_o hs (by assumption)]
  exact Or.inl ⟨rfl, rfl, ‹_›, (by first | rfl | assumption | (subst_vars; rfl) | (subst_vars; assumption)), (by first | rfl | assumption | (subst_vars; rfl) | (subst_vars; assumption)), (by first | rfl | assumption | (subst_vars; rfl) | (subst_vars; assumption))⟩
set_option maxRecDepth 20000 in
theorem lf_f_snCmp_16 (ccodeCount : Nat) (bt : Nat → Nat) (rlength : Nat) (rmostBytes : Nat) (rplace : Nat) (rkind : Int32) (rbegin : Nat) (rword : Int32) (rnumber : Int32) (rletters : Int64) (rfaultKind : Int32) (rfaultPlace : Int32) (rtapeF : Nat → Int32) (gp : Nat) (rfaultKindG_172 : Int32) (rfaultPlaceG_173 : Int32) (iv_cse_0 : ccodeCount ≤ 40) (iv_rreader_0 : rlength ≤ 940) (iv_rreader_1 : rplace ≤ rlength) (iv_rreader_2 : rmostBytes ≤ 900) (iv_rreader_3 : rbegin ≤ 940) (hTC : TC bt rtapeF) (hRT : RT bt rlength rmostBytes gp rkind rbegin rplace rword rnumber rletters) (hc9 : ccodeCount < 40) (c1 : ¬ rkind = nI 60) (c57 : ¬ rkind = nI 61) (c113 : ¬ rkind = nI 62) (p175 : rfaultKindG_172 = (nI 1)) (p176 : rfaultPlaceG_173 = nI rbegin) : ((nI 0) = nI 1 ∧ (isO (pCmp bt rlength rmostBytes gp) = true ∧ RT bt rlength rmostBytes (okV (pCmp bt rlength rmostBytes gp)) rkind rbegin rplace rword rnumber rletters ∧ ccodeCount = ccodeCount + 1 ∧ rfaultKindG_172 = rfaultKind ∧ rfaultPlaceG_173 = rfaultPlace)) ∨ ((nI 0) = nI 0 ∧ (isO (pCmp bt rlength rmostBytes gp) = false ∧ rfaultKindG_172 = nI (erA (pCmp bt rlength rmostBytes gp)) ∧ rfaultPlaceG_173 = nI (erB (pCmp bt rlength rmostBytes gp)))) := by
  have k60 := RT_k hRT (c := 60) (by decide)
  have k61 := RT_k hRT (c := 61) (by decide)
  have k62 := RT_k hRT (c := 62) (by decide)
  have hs : ¬ (tK bt rlength rmostBytes gp = 60 ∨ tK bt rlength rmostBytes gp = 61 ∨ tK bt rlength rmostBytes gp = 62) := by
    rw [← k60, ← k61, ← k62]
    rintro (h | h | h)
    all_goals exact absurd h (by assumption)
  rw [cmp_1 hs]
  exact Or.inr ⟨rfl, rfl, ‹_›, (Eq.trans (by assumption : _ = nI rbegin) (congrArg nI hRT.2.1))⟩
set_option maxHeartbeats 4000000 in
set_option maxRecDepth 100000 in
theorem c_f_snCmp (l : Launch) (dC : Nat → ClassId) (dI : Nat → Nat → Nat) (ky : Nat → ClassId) (sz : Nat) (adK : Nat → Nat) (adV : Nat → Nat) (se : Nat) (ccodes : Nat) (ccodeCount : Nat) (cones : Nat) (ccodesF : Nat → Int32) (bt : Nat → Nat) (reader : Nat) (rtape : Nat) (rlength : Nat) (rmostBytes : Nat) (rplace : Nat) (rkind : Int32) (rbegin : Nat) (rword : Int32) (rnumber : Int32) (rletters : Int64) (rfaultKind : Int32) (rfaultPlace : Int32) (rtapeF : Nat → Int32) (gp : Nat) (x : Int32) (iv_cse_0 : ccodeCount ≤ 40) (iv_cse_1 : cones ≤ 20) (iv_rreader_0 : rlength ≤ 940) (iv_rreader_1 : rplace ≤ rlength) (iv_rreader_2 : rmostBytes ≤ 900) (iv_rreader_3 : rbegin ≤ 940) (hTC : TC bt rtapeF) (hRT : RT bt rlength rmostBytes gp rkind rbegin rplace rword rnumber rletters) (hc9 : ccodeCount < 40) : Met l yX9_readComparison wsX9_readComparison ({ frames := 7, cells := 0, slots := 0, locals := 154 }) (PcUE dC dI ky adK adV [.ref se, .ref reader, .int x] [(se, .inr (9, [.ref ccodes, .int (nI ccodeCount), .int (nI cones)])), (ccodes, .inl (ky 0, 40, .inl ccodesF)), (reader, .inr (5, [.ref rtape, .int (nI rlength), .int (nI rmostBytes), .int (nI rplace), .int rkind, .int (nI rbegin), .int rword, .int rnumber, .long rletters, .int rfaultKind, .int rfaultPlace])), (rtape, .inl (ky 2, 940, .inl rtapeF))] sz) (va_Qi (fun (r : Int32) (u : Nat × (Nat → Int32) × Nat × Int32 × Nat × Int32 × Int32 × Int64 × Int32 × Int32) => match u with | (ccodeCountG, ccodesG, rplaceG, rkindG, rbeginG, rwordG, rnumberG, rlettersG, rfaultKindG, rfaultPlaceG) => ((r = nI 1 ∧ (isO (pCmp bt rlength rmostBytes gp) = true ∧ RT bt rlength rmostBytes (okV (pCmp bt rlength rmostBytes gp)) rkindG rbeginG rplaceG rwordG rnumberG rlettersG ∧ ccodeCountG = ccodeCount + 1 ∧ rfaultKindG = rfaultKind ∧ rfaultPlaceG = rfaultPlace)) ∨ (r = nI 0 ∧ (isO (pCmp bt rlength rmostBytes gp) = false ∧ rfaultKindG = nI (erA (pCmp bt rlength rmostBytes gp)) ∧ rfaultPlaceG = nI (erB (pCmp bt rlength rmostBytes gp))))) ∧ (ccodeCountG ≤ 40) ∧ (rplaceG ≤ rlength) ∧ (rbeginG ≤ 940)) (BU dC dI ky (fun (u : Nat × (Nat → Int32) × Nat × Int32 × Nat × Int32 × Int32 × Int64 × Int32 × Int32) => match u with | (ccodeCountG, ccodesG, rplaceG, rkindG, rbeginG, rwordG, rnumberG, rlettersG, rfaultKindG, rfaultPlaceG) => [(se, .inr (9, [.ref ccodes, .int (nI ccodeCountG), .int (nI cones)])), (ccodes, .inl (ky 0, 40, .inl ccodesG)), (reader, .inr (5, [.ref rtape, .int (nI rlength), .int (nI rmostBytes), .int (nI rplaceG), .int rkindG, .int (nI rbeginG), .int rwordG, .int rnumberG, .long rlettersG, .int rfaultKindG, .int rfaultPlaceG])), (rtape, .inl (ky 2, 940, .inl rtapeF))]) (va_A [(se, .inr (9, [.ref ccodes, .int (nI ccodeCount), .int (nI cones)])), (ccodes, .inl (ky 0, 40, .inl ccodesF)), (reader, .inr (5, [.ref rtape, .int (nI rlength), .int (nI rmostBytes), .int (nI rplace), .int rkind, .int (nI rbegin), .int rword, .int rnumber, .long rletters, .int rfaultKind, .int rfaultPlace])), (rtape, .inl (ky 2, 940, .inl rtapeF))] sz)) (va_A [(se, .inr (9, [.ref ccodes, .int (nI ccodeCount), .int (nI cones)])), (ccodes, .inl (ky 0, 40, .inl ccodesF)), (reader, .inr (5, [.ref rtape, .int (nI rlength), .int (nI rmostBytes), .int (nI rplace), .int rkind, .int (nI rbegin), .int rword, .int rnumber, .long rletters, .int rfaultKind, .int rfaultPlace])), (rtape, .inl (ky 2, 940, .inl rtapeF))] sz)) 0 0 (va_A [(se, .inr (9, [.ref ccodes, .int (nI ccodeCount), .int (nI cones)])), (ccodes, .inl (ky 0, 40, .inl ccodesF)), (reader, .inr (5, [.ref rtape, .int (nI rlength), .int (nI rmostBytes), .int (nI rplace), .int rkind, .int (nI rbegin), .int rword, .int rnumber, .long rletters, .int rfaultKind, .int rfaultPlace])), (rtape, .inl (ky 2, 940, .inl rtapeF))] sz) := by
  refine Met.ofW (cc := cX9_readComparison) (maxL := 5) (ret := (some .boolean)) (by decide) rfl ?_
  intro p e s m args below meth c s₁ B hml hv
  obtain ⟨rfl, hsz, hP, hK, hD0, hE⟩ := hv
  have hx := B.exec
  have hb := B.bytes
  have hr := B.returns
  have hts := atoms_spec (ws := wsX9_readComparison) B.pre
  have hown : s.vm.findClass RX9 = some m.cls := findClass_of_methodNamed B.named
  have hlocks := B.notSynchronized
  have hin5 : ∀ w ∈ u_ws RX5 TX5 11, w ∈ wsX9_readComparison := by decide +kernel
  subst hsz
  have hD := hD0.self (sz := s.heap.size)
  generalize hAe : va_A [(se, .inr (9, [.ref ccodes, .int (nI ccodeCount), .int (nI cones)])), (ccodes, .inl (ky 0, 40, .inl ccodesF)), (reader, .inr (5, [.ref rtape, .int (nI rlength), .int (nI rmostBytes), .int (nI rplace), .int rkind, .int (nI rbegin), .int rword, .int rnumber, .long rletters, .int rfaultKind, .int rfaultPlace])), (rtape, .inl (ky 2, 940, .inl rtapeF))] s.heap.size = A at hD hE ⊢
  have hA : ∀ q : Nat, s.heap.size ≤ q → A q := fun q h => by rw [← hAe]; exact Or.inr h
  have hS : va_S A s.heap s.heap [] := va_S.rf
  have hl := lv_entry ([.ref se, .ref reader, .int x]) (n := 5) (Nat.le_of_ble_eq_true rfl)
  rw [lg_entry_eq]
  generalize (lg_sl ([.ref se, .ref reader, .int x]) ++ List.replicate (5 - (lg_sl ([.ref se, .ref reader, .int x])).length) Slot.unset).toArray = ls at hl ⊢
  have hl : lv_has ls 5 [(0, .ref se), (1, .ref reader), (2, .int x)] := hl
  refine q_name (fun Q hQ => ?_)
  generalize ([.ref se, .ref reader, .int x] : List Value).toArray = args at hts hQ ⊢
  refine lv_aload_n hx hb dX9_readComparison_0 rfl (lv_at hl 1 rfl) ?_
  refine va_get (D := (dC, dI)) (ci := 5) (v := .int rkind) (C := RX5) (T := TX5) (N := 11) hx hb hts hin5 hown hK hP 2 rfl rfl 4 (by decide) (hts (.fieldLink RX9 35 "PorridgeSea$Reader" "kind" "I") (List.mem_of_getElem? (i := 1) rfl)) (fun _ h9 => h9) rfl dX9_readComparison_1 ?_
  refine lv_istore_n (lv' := [(3, .int rkind), (0, .ref se), (1, .ref reader), (2, .int x)]) hx hb dX9_readComparison_4 rfl hl (by decide) rfl (fun ls hl => ?_)
  refine lv_iload_n hx hb dX9_readComparison_5 rfl (lv_at hl 0 rfl) ?_
  refine lv_bipush (v := nI 60) hx hb dX9_readComparison_6 (by decide) ?_
  refine lv_icmp_eq (tgt := 29) hx hb dX9_readComparison_8 (by decide) (fun c1 => ?_) (fun c1 => ?_)
  · refine lv_aload_n hx hb dX9_readComparison_29 rfl (lv_at hl 2 rfl) ?_
    refine r_call_v (wr := [(se, .inr (9, [.ref ccodes, .int (nI ccodeCount), .int (nI cones)])), (ccodes, .inl (ky 0, 40, .inl ccodesF))]) (va_runV (As := []) (rest := []) ⟨hx, hb, hml, hown, hts⟩ (c_f_adv l dC dI ky s.heap.size adK adV bt reader rtape rlength rmostBytes rplace rkind rbegin rword rnumber rletters rfaultKind rfaultPlace rtapeF (tT bt rlength rmostBytes gp) iv_rreader_0 iv_rreader_1 iv_rreader_2 iv_rreader_3 hTC hRT.2.2.1) (cwV 0 hts gX9_readComparison_X5_advance rfl rfl rfl (by decide +kernel) ⟨(Nat.le_of_ble_eq_true rfl), (Nat.le_of_ble_eq_true rfl)⟩) (pre_UEV hE hS hA hK hP hD [2, 3] (by decide) rfl (va_recv hK hP (ci := 5) (q0 := 2) rfl rfl)) rfl rfl hl.1 rfl (lv_room (Nat.le_of_ble_eq_true rfl)) dX9_readComparison_30 ⟨(Nat.le_of_ble_eq_true rfl), (Nat.le_of_ble_eq_true rfl)⟩) hP hD hS hA [2, 3] [0, 1] rfl rfl (by decide) (by decide) (fun  u2 H locs p3 hP hD hS => ?_)
    obtain ⟨rplaceG_4, rkindG_5, rbeginG_6, rwordG_7, rnumberG_8, rlettersG_9⟩ := u2
    try dsimp only at p3
    obtain ⟨p10, p11, p12⟩ := p3
    refine W.widen (k := 0) (n := 0) (Nat.le_of_ble_eq_true rfl) (Nat.le_of_ble_eq_true rfl) ?_
    have hP : va_P (dC, dI) vwCl [(se, .inr (9, [.ref ccodes, .int (nI ccodeCount), .int (nI cones)])), (ccodes, .inl (ky 0, 40, .inl ccodesF)), (reader, .inr (5, [.ref rtape, .int (nI rlength), .int (nI rmostBytes), .int (nI rplaceG_4), .int rkindG_5, .int (nI rbeginG_6), .int rwordG_7, .int rnumberG_8, .long rlettersG_9, .int rfaultKind, .int rfaultPlace])), (rtape, .inl (ky 2, 940, .inl rtapeF))] H := hP
    have hD : va_D A [(se, .inr (9, [.ref ccodes, .int (nI ccodeCount), .int (nI cones)])), (ccodes, .inl (ky 0, 40, .inl ccodesF)), (reader, .inr (5, [.ref rtape, .int (nI rlength), .int (nI rmostBytes), .int (nI rplaceG_4), .int rkindG_5, .int (nI rbeginG_6), .int rwordG_7, .int rnumberG_8, .long rlettersG_9, .int rfaultKind, .int rfaultPlace])), (rtape, .inl (ky 2, 940, .inl rtapeF))] := hD
    refine lv_aload_n hx hb dX9_readComparison_33 rfl (lv_at hl 2 rfl) ?_
    refine lv_iconst (v := nI 0) hx hb dX9_readComparison_34 (by decide) ?_
    refine lv_sipush (v := nI 999) hx hb dX9_readComparison_35 (by decide) ?_
    refine r_call_i (wr := [(se, .inr (9, [.ref ccodes, .int (nI ccodeCount), .int (nI cones)])), (ccodes, .inl (ky 0, 40, .inl ccodesF))]) (va_runV (As := [.int (nI 0), .int (nI 999)]) (rest := []) ⟨hx, hb, hml, hown, hts⟩ (c_f_takeNumber l dC dI ky H.size adK adV bt reader rtape rlength rmostBytes rplaceG_4 rkindG_5 rbeginG_6 rwordG_7 rnumberG_8 rlettersG_9 rfaultKind rfaultPlace rtapeF (tT bt rlength rmostBytes gp) 0 999 iv_rreader_0 p10 iv_rreader_2 p11 hTC (lf_f_snCmp_1) (lf_f_snCmp_2) p12) (cwV 2 hts gX9_readComparison_X5_takeNumber rfl rfl rfl (by decide +kernel) ⟨(Nat.le_of_ble_eq_true rfl), (Nat.le_of_ble_eq_true rfl)⟩) (pre_UEV hE hS hA hK hP hD [2, 3] (by decide) rfl (va_recv hK hP (ci := 5) (q0 := 2) rfl rfl)) rfl rfl hl.1 rfl (lv_room (Nat.le_of_ble_eq_true rfl)) dX9_readComparison_38 ⟨(Nat.le_of_ble_eq_true rfl), (Nat.le_of_ble_eq_true rfl)⟩) hP hD hS hA [2, 3] [0, 1] rfl rfl (by decide) (by decide) (fun r15 u13 H locs p14 hP hD hS => ?_)
    obtain ⟨rplaceG_16, rkindG_17, rbeginG_18, rwordG_19, rnumberG_20, rlettersG_21, rfaultKindG_22, rfaultPlaceG_23⟩ := u13
    try dsimp only at p14
    obtain ⟨p24, p25, p26⟩ := p14
    refine W.widen (k := 0) (n := 0) (Nat.le_of_ble_eq_true rfl) (Nat.le_of_ble_eq_true rfl) ?_
    have hP : va_P (dC, dI) vwCl [(se, .inr (9, [.ref ccodes, .int (nI ccodeCount), .int (nI cones)])), (ccodes, .inl (ky 0, 40, .inl ccodesF)), (reader, .inr (5, [.ref rtape, .int (nI rlength), .int (nI rmostBytes), .int (nI rplaceG_16), .int rkindG_17, .int (nI rbeginG_18), .int rwordG_19, .int rnumberG_20, .long rlettersG_21, .int rfaultKindG_22, .int rfaultPlaceG_23])), (rtape, .inl (ky 2, 940, .inl rtapeF))] H := hP
    have hD : va_D A [(se, .inr (9, [.ref ccodes, .int (nI ccodeCount), .int (nI cones)])), (ccodes, .inl (ky 0, 40, .inl ccodesF)), (reader, .inr (5, [.ref rtape, .int (nI rlength), .int (nI rmostBytes), .int (nI rplaceG_16), .int rkindG_17, .int (nI rbeginG_18), .int rwordG_19, .int rnumberG_20, .long rlettersG_21, .int rfaultKindG_22, .int rfaultPlaceG_23])), (rtape, .inl (ky 2, 940, .inl rtapeF))] := hD
    rcases p24 with ⟨rfl, t35, t36, t37⟩ | ⟨k27, ⟨h29, h30, h31, h32, h33, h34⟩, rfl⟩
    · refine lv_istore (lv' := [(4, .int (-1 : Int32)), (3, .int rkind), (0, .ref se), (1, .ref reader), (2, .int x)]) hx hb dX9_readComparison_41 hl (by decide) rfl (fun ls hl => ?_)
      refine lv_iload hx hb dX9_readComparison_43 (lv_at hl 0 rfl) ?_
      refine lv_iconst (v := (-1 : Int32)) hx hb dX9_readComparison_45 (by decide) ?_
      refine lv_icmp_eq (tgt := 71) hx hb dX9_readComparison_46 (by decide) (fun c38 => ?_) (fun c38 => absurd (by decide) c38)
      refine lv_iconst (v := nI 0) hx hb dX9_readComparison_71 (by decide) ?_
      rw [hQ]
      exact W.zret (v := nI 0) hx hb hr (by decide) (fun t9 ht9 hW9 => ⟨⟨nI 0, (ccodeCount, ccodesF, rplaceG_16, rkindG_17, rbeginG_18, rwordG_19, rnumberG_20, rlettersG_21, rfaultKindG_22, rfaultPlaceG_23), rfl, ⟨(lf_f_snCmp_3 ccodeCount bt rlength rmostBytes rplace rkind rbegin rword rnumber rletters rfaultKind rfaultPlace rtapeF gp rplaceG_4 rkindG_5 rbeginG_6 rwordG_7 rnumberG_8 rlettersG_9 rplaceG_16 rkindG_17 rbeginG_18 rwordG_19 rnumberG_20 rlettersG_21 rfaultKindG_22 rfaultPlaceG_23 iv_cse_0 iv_rreader_0 iv_rreader_1 iv_rreader_2 iv_rreader_3 hTC hRT hc9 c1 p10 p11 p12 p25 p26 t35 t36 t37), iv_cse_0, p25, p26⟩, by rw [ht9]; exact hP, va_K.moved hW9.alike hK, hD⟩, hS.F ht9⟩) hS.2.2 dX9_readComparison_72
    · refine lv_istore (lv' := [(4, .int (nI k27)), (3, .int rkind), (0, .ref se), (1, .ref reader), (2, .int x)]) hx hb dX9_readComparison_41 hl (by decide) rfl (fun ls hl => ?_)
      refine lv_iload hx hb dX9_readComparison_43 (lv_at hl 0 rfl) ?_
      refine lv_iconst (v := (-1 : Int32)) hx hb dX9_readComparison_45 (by decide) ?_
      refine lv_icmp_eq (tgt := 71) hx hb dX9_readComparison_46 (by decide) (fun c39 => absurd c39 (nI_neg (lf_f_snCmp_4 bt rlength rmostBytes rplace rkind rbegin rword rnumber rletters rtapeF gp rplaceG_4 rkindG_5 rbeginG_6 rwordG_7 rnumberG_8 rlettersG_9 rplaceG_16 rkindG_17 rbeginG_18 rwordG_19 rnumberG_20 rlettersG_21 k27 iv_rreader_0 iv_rreader_1 iv_rreader_2 iv_rreader_3 hTC hRT c1 p10 p11 p12 p25 p26 h29 h30 h31 h32))) (fun c39 => ?_)
      refine lv_aload_n hx hb dX9_readComparison_49 rfl (lv_at hl 2 rfl) ?_
      refine lv_iload_n hx hb dX9_readComparison_50 rfl (lv_at hl 4 rfl) ?_
      refine lv_iload_n hx hb dX9_readComparison_51 rfl (lv_at hl 1 rfl) ?_
      refine lv_iconst (v := nI 5) hx hb dX9_readComparison_52 (by decide) ?_
      refine lv_ishl hx hb dX9_readComparison_53 ?_
      refine lv_topi (fun y40 e41 => ?_)
      refine lv_ior hx hb dX9_readComparison_54 ?_
      refine lv_topi (fun y42 e43 => ?_)
      refine lv_iload hx hb dX9_readComparison_55 (lv_at hl 0 rfl) ?_
      refine lv_bipush (v := nI 12) hx hb dX9_readComparison_57 (by decide) ?_
      refine lv_ishl hx hb dX9_readComparison_59 ?_
      refine lv_topi (fun y44 e45 => ?_)
      refine lv_ior hx hb dX9_readComparison_60 ?_
      refine lv_topi (fun y46 e47 => ?_)
      refine r_call_i (wr := [(reader, .inr (5, [.ref rtape, .int (nI rlength), .int (nI rmostBytes), .int (nI rplaceG_16), .int rkindG_17, .int (nI rbeginG_18), .int rwordG_19, .int rnumberG_20, .long rlettersG_21, .int rfaultKindG_22, .int rfaultPlaceG_23])), (rtape, .inl (ky 2, 940, .inl rtapeF))]) (va_runV (As := [.int y46]) (rest := []) ⟨hx, hb, hml, hown, hts⟩ (c_f_put9 l dC dI ky H.size se ccodes ccodeCount cones ccodesF y46 iv_cse_0 iv_cse_1 hc9) (cwV 1 hts gX9_readComparison_X9_put rfl rfl rfl (by decide +kernel) ⟨(Nat.le_of_ble_eq_true rfl), (Nat.le_of_ble_eq_true rfl)⟩) (pre_UV hK hP hD [0, 1] (by decide) rfl (ci := 9) (q0 := 0) rfl rfl) rfl rfl hl.1 rfl (lv_room (Nat.le_of_ble_eq_true rfl)) dX9_readComparison_61 ⟨(Nat.le_of_ble_eq_true rfl), (Nat.le_of_ble_eq_true rfl)⟩) hP hD hS hA [0, 1] [2, 3] rfl rfl (by decide) (by decide) (fun r50 u48 H locs p49 hP hD hS => ?_)
      obtain ⟨ccodeCountG_51, ccodesG_52⟩ := u48
      try dsimp only at p49
      obtain ⟨p53, p54, p55⟩ := p49
      refine W.widen (k := 0) (n := 0) (Nat.le_of_ble_eq_true rfl) (Nat.le_of_ble_eq_true rfl) ?_
      have hP : va_P (dC, dI) vwCl [(reader, .inr (5, [.ref rtape, .int (nI rlength), .int (nI rmostBytes), .int (nI rplaceG_16), .int rkindG_17, .int (nI rbeginG_18), .int rwordG_19, .int rnumberG_20, .long rlettersG_21, .int rfaultKindG_22, .int rfaultPlaceG_23])), (rtape, .inl (ky 2, 940, .inl rtapeF)), (se, .inr (9, [.ref ccodes, .int (nI ccodeCountG_51), .int (nI cones)])), (ccodes, .inl (ky 0, 40, .inl ccodesG_52))] H := hP
      have hD : va_D A [(reader, .inr (5, [.ref rtape, .int (nI rlength), .int (nI rmostBytes), .int (nI rplaceG_16), .int rkindG_17, .int (nI rbeginG_18), .int rwordG_19, .int rnumberG_20, .long rlettersG_21, .int rfaultKindG_22, .int rfaultPlaceG_23])), (rtape, .inl (ky 2, 940, .inl rtapeF)), (se, .inr (9, [.ref ccodes, .int (nI ccodeCountG_51), .int (nI cones)])), (ccodes, .inl (ky 0, 40, .inl ccodesG_52))] := hD
      subst p53
      refine lv_if_eq (tgt := 71) hx hb dX9_readComparison_64 (by decide) (fun c56 => absurd c56 (by decide)) (fun c56 => ?_)
      refine lv_iconst (v := nI 1) hx hb dX9_readComparison_67 (by decide) ?_
      refine lv_goto (tgt := 72) hx hb dX9_readComparison_68 (by decide) ?_
      rw [hQ]
      have hP9 := hP.sub (ws' := [(se, .inr (9, [.ref ccodes, .int (nI ccodeCountG_51), .int (nI cones)])), (ccodes, .inl (ky 0, 40, .inl ccodesG_52)), (reader, .inr (5, [.ref rtape, .int (nI rlength), .int (nI rmostBytes), .int (nI rplaceG_16), .int rkindG_17, .int (nI rbeginG_18), .int rwordG_19, .int rnumberG_20, .long rlettersG_21, .int rfaultKindG_22, .int rfaultPlaceG_23])), (rtape, .inl (ky 2, 940, .inl rtapeF))]) [2, 3, 0, 1] rfl
      have hD9 := hD.sub (ws' := [(se, .inr (9, [.ref ccodes, .int (nI ccodeCountG_51), .int (nI cones)])), (ccodes, .inl (ky 0, 40, .inl ccodesG_52)), (reader, .inr (5, [.ref rtape, .int (nI rlength), .int (nI rmostBytes), .int (nI rplaceG_16), .int rkindG_17, .int (nI rbeginG_18), .int rwordG_19, .int rnumberG_20, .long rlettersG_21, .int rfaultKindG_22, .int rfaultPlaceG_23])), (rtape, .inl (ky 2, 940, .inl rtapeF))]) [2, 3, 0, 1] (by decide) rfl
      exact W.zret (v := nI 1) hx hb hr (by decide) (fun t9 ht9 hW9 => ⟨⟨nI 1, (ccodeCountG_51, ccodesG_52, rplaceG_16, rkindG_17, rbeginG_18, rwordG_19, rnumberG_20, rlettersG_21, rfaultKindG_22, rfaultPlaceG_23), rfl, ⟨(lf_f_snCmp_5 ccodeCount bt rlength rmostBytes rplace rkind rbegin rword rnumber rletters rfaultKind rfaultPlace rtapeF gp x rplaceG_4 rkindG_5 rbeginG_6 rwordG_7 rnumberG_8 rlettersG_9 rplaceG_16 rkindG_17 rbeginG_18 rwordG_19 rnumberG_20 rlettersG_21 rfaultKindG_22 rfaultPlaceG_23 k27 y40 y42 y44 y46 ccodeCountG_51 iv_cse_0 iv_rreader_0 iv_rreader_1 iv_rreader_2 iv_rreader_3 hTC hRT hc9 c1 p10 p11 p12 p25 p26 h29 h30 h31 h32 h33 h34 e41 e43 e45 e47 p54 p55), p54, p25, p26⟩, by rw [ht9]; exact hP9, va_K.moved hW9.alike hK, hD9⟩, hS.F ht9⟩) hS.2.2 dX9_readComparison_72
  · refine lv_iload_n hx hb dX9_readComparison_11 rfl (lv_at hl 0 rfl) ?_
    refine lv_bipush (v := nI 61) hx hb dX9_readComparison_12 (by decide) ?_
    refine lv_icmp_eq (tgt := 29) hx hb dX9_readComparison_14 (by decide) (fun c57 => ?_) (fun c57 => ?_)
    · refine lv_aload_n hx hb dX9_readComparison_29 rfl (lv_at hl 2 rfl) ?_
      refine r_call_v (wr := [(se, .inr (9, [.ref ccodes, .int (nI ccodeCount), .int (nI cones)])), (ccodes, .inl (ky 0, 40, .inl ccodesF))]) (va_runV (As := []) (rest := []) ⟨hx, hb, hml, hown, hts⟩ (c_f_adv l dC dI ky s.heap.size adK adV bt reader rtape rlength rmostBytes rplace rkind rbegin rword rnumber rletters rfaultKind rfaultPlace rtapeF (tT bt rlength rmostBytes gp) iv_rreader_0 iv_rreader_1 iv_rreader_2 iv_rreader_3 hTC hRT.2.2.1) (cwV 0 hts gX9_readComparison_X5_advance rfl rfl rfl (by decide +kernel) ⟨(Nat.le_of_ble_eq_true rfl), (Nat.le_of_ble_eq_true rfl)⟩) (pre_UEV hE hS hA hK hP hD [2, 3] (by decide) rfl (va_recv hK hP (ci := 5) (q0 := 2) rfl rfl)) rfl rfl hl.1 rfl (lv_room (Nat.le_of_ble_eq_true rfl)) dX9_readComparison_30 ⟨(Nat.le_of_ble_eq_true rfl), (Nat.le_of_ble_eq_true rfl)⟩) hP hD hS hA [2, 3] [0, 1] rfl rfl (by decide) (by decide) (fun  u58 H locs p59 hP hD hS => ?_)
      obtain ⟨rplaceG_60, rkindG_61, rbeginG_62, rwordG_63, rnumberG_64, rlettersG_65⟩ := u58
      try dsimp only at p59
      obtain ⟨p66, p67, p68⟩ := p59
      refine W.widen (k := 0) (n := 0) (Nat.le_of_ble_eq_true rfl) (Nat.le_of_ble_eq_true rfl) ?_
      have hP : va_P (dC, dI) vwCl [(se, .inr (9, [.ref ccodes, .int (nI ccodeCount), .int (nI cones)])), (ccodes, .inl (ky 0, 40, .inl ccodesF)), (reader, .inr (5, [.ref rtape, .int (nI rlength), .int (nI rmostBytes), .int (nI rplaceG_60), .int rkindG_61, .int (nI rbeginG_62), .int rwordG_63, .int rnumberG_64, .long rlettersG_65, .int rfaultKind, .int rfaultPlace])), (rtape, .inl (ky 2, 940, .inl rtapeF))] H := hP
      have hD : va_D A [(se, .inr (9, [.ref ccodes, .int (nI ccodeCount), .int (nI cones)])), (ccodes, .inl (ky 0, 40, .inl ccodesF)), (reader, .inr (5, [.ref rtape, .int (nI rlength), .int (nI rmostBytes), .int (nI rplaceG_60), .int rkindG_61, .int (nI rbeginG_62), .int rwordG_63, .int rnumberG_64, .long rlettersG_65, .int rfaultKind, .int rfaultPlace])), (rtape, .inl (ky 2, 940, .inl rtapeF))] := hD
      refine lv_aload_n hx hb dX9_readComparison_33 rfl (lv_at hl 2 rfl) ?_
      refine lv_iconst (v := nI 0) hx hb dX9_readComparison_34 (by decide) ?_
      refine lv_sipush (v := nI 999) hx hb dX9_readComparison_35 (by decide) ?_
      refine r_call_i (wr := [(se, .inr (9, [.ref ccodes, .int (nI ccodeCount), .int (nI cones)])), (ccodes, .inl (ky 0, 40, .inl ccodesF))]) (va_runV (As := [.int (nI 0), .int (nI 999)]) (rest := []) ⟨hx, hb, hml, hown, hts⟩ (c_f_takeNumber l dC dI ky H.size adK adV bt reader rtape rlength rmostBytes rplaceG_60 rkindG_61 rbeginG_62 rwordG_63 rnumberG_64 rlettersG_65 rfaultKind rfaultPlace rtapeF (tT bt rlength rmostBytes gp) 0 999 iv_rreader_0 p66 iv_rreader_2 p67 hTC (lf_f_snCmp_6) (lf_f_snCmp_7) p68) (cwV 2 hts gX9_readComparison_X5_takeNumber rfl rfl rfl (by decide +kernel) ⟨(Nat.le_of_ble_eq_true rfl), (Nat.le_of_ble_eq_true rfl)⟩) (pre_UEV hE hS hA hK hP hD [2, 3] (by decide) rfl (va_recv hK hP (ci := 5) (q0 := 2) rfl rfl)) rfl rfl hl.1 rfl (lv_room (Nat.le_of_ble_eq_true rfl)) dX9_readComparison_38 ⟨(Nat.le_of_ble_eq_true rfl), (Nat.le_of_ble_eq_true rfl)⟩) hP hD hS hA [2, 3] [0, 1] rfl rfl (by decide) (by decide) (fun r71 u69 H locs p70 hP hD hS => ?_)
      obtain ⟨rplaceG_72, rkindG_73, rbeginG_74, rwordG_75, rnumberG_76, rlettersG_77, rfaultKindG_78, rfaultPlaceG_79⟩ := u69
      try dsimp only at p70
      obtain ⟨p80, p81, p82⟩ := p70
      refine W.widen (k := 0) (n := 0) (Nat.le_of_ble_eq_true rfl) (Nat.le_of_ble_eq_true rfl) ?_
      have hP : va_P (dC, dI) vwCl [(se, .inr (9, [.ref ccodes, .int (nI ccodeCount), .int (nI cones)])), (ccodes, .inl (ky 0, 40, .inl ccodesF)), (reader, .inr (5, [.ref rtape, .int (nI rlength), .int (nI rmostBytes), .int (nI rplaceG_72), .int rkindG_73, .int (nI rbeginG_74), .int rwordG_75, .int rnumberG_76, .long rlettersG_77, .int rfaultKindG_78, .int rfaultPlaceG_79])), (rtape, .inl (ky 2, 940, .inl rtapeF))] H := hP
      have hD : va_D A [(se, .inr (9, [.ref ccodes, .int (nI ccodeCount), .int (nI cones)])), (ccodes, .inl (ky 0, 40, .inl ccodesF)), (reader, .inr (5, [.ref rtape, .int (nI rlength), .int (nI rmostBytes), .int (nI rplaceG_72), .int rkindG_73, .int (nI rbeginG_74), .int rwordG_75, .int rnumberG_76, .long rlettersG_77, .int rfaultKindG_78, .int rfaultPlaceG_79])), (rtape, .inl (ky 2, 940, .inl rtapeF))] := hD
      rcases p80 with ⟨rfl, t91, t92, t93⟩ | ⟨k83, ⟨h85, h86, h87, h88, h89, h90⟩, rfl⟩
      · refine lv_istore (lv' := [(4, .int (-1 : Int32)), (3, .int rkind), (0, .ref se), (1, .ref reader), (2, .int x)]) hx hb dX9_readComparison_41 hl (by decide) rfl (fun ls hl => ?_)
        refine lv_iload hx hb dX9_readComparison_43 (lv_at hl 0 rfl) ?_
        refine lv_iconst (v := (-1 : Int32)) hx hb dX9_readComparison_45 (by decide) ?_
        refine lv_icmp_eq (tgt := 71) hx hb dX9_readComparison_46 (by decide) (fun c94 => ?_) (fun c94 => absurd (by decide) c94)
        refine lv_iconst (v := nI 0) hx hb dX9_readComparison_71 (by decide) ?_
        rw [hQ]
        exact W.zret (v := nI 0) hx hb hr (by decide) (fun t9 ht9 hW9 => ⟨⟨nI 0, (ccodeCount, ccodesF, rplaceG_72, rkindG_73, rbeginG_74, rwordG_75, rnumberG_76, rlettersG_77, rfaultKindG_78, rfaultPlaceG_79), rfl, ⟨(lf_f_snCmp_8 ccodeCount bt rlength rmostBytes rplace rkind rbegin rword rnumber rletters rfaultKind rfaultPlace rtapeF gp rplaceG_60 rkindG_61 rbeginG_62 rwordG_63 rnumberG_64 rlettersG_65 rplaceG_72 rkindG_73 rbeginG_74 rwordG_75 rnumberG_76 rlettersG_77 rfaultKindG_78 rfaultPlaceG_79 iv_cse_0 iv_rreader_0 iv_rreader_1 iv_rreader_2 iv_rreader_3 hTC hRT hc9 c1 c57 p66 p67 p68 p81 p82 t91 t92 t93), iv_cse_0, p81, p82⟩, by rw [ht9]; exact hP, va_K.moved hW9.alike hK, hD⟩, hS.F ht9⟩) hS.2.2 dX9_readComparison_72
      · refine lv_istore (lv' := [(4, .int (nI k83)), (3, .int rkind), (0, .ref se), (1, .ref reader), (2, .int x)]) hx hb dX9_readComparison_41 hl (by decide) rfl (fun ls hl => ?_)
        refine lv_iload hx hb dX9_readComparison_43 (lv_at hl 0 rfl) ?_
        refine lv_iconst (v := (-1 : Int32)) hx hb dX9_readComparison_45 (by decide) ?_
        refine lv_icmp_eq (tgt := 71) hx hb dX9_readComparison_46 (by decide) (fun c95 => absurd c95 (nI_neg (lf_f_snCmp_9 bt rlength rmostBytes rplace rkind rbegin rword rnumber rletters rtapeF gp rplaceG_60 rkindG_61 rbeginG_62 rwordG_63 rnumberG_64 rlettersG_65 rplaceG_72 rkindG_73 rbeginG_74 rwordG_75 rnumberG_76 rlettersG_77 k83 iv_rreader_0 iv_rreader_1 iv_rreader_2 iv_rreader_3 hTC hRT c1 c57 p66 p67 p68 p81 p82 h85 h86 h87 h88))) (fun c95 => ?_)
        refine lv_aload_n hx hb dX9_readComparison_49 rfl (lv_at hl 2 rfl) ?_
        refine lv_iload_n hx hb dX9_readComparison_50 rfl (lv_at hl 4 rfl) ?_
        refine lv_iload_n hx hb dX9_readComparison_51 rfl (lv_at hl 1 rfl) ?_
        refine lv_iconst (v := nI 5) hx hb dX9_readComparison_52 (by decide) ?_
        refine lv_ishl hx hb dX9_readComparison_53 ?_
        refine lv_topi (fun y96 e97 => ?_)
        refine lv_ior hx hb dX9_readComparison_54 ?_
        refine lv_topi (fun y98 e99 => ?_)
        refine lv_iload hx hb dX9_readComparison_55 (lv_at hl 0 rfl) ?_
        refine lv_bipush (v := nI 12) hx hb dX9_readComparison_57 (by decide) ?_
        refine lv_ishl hx hb dX9_readComparison_59 ?_
        refine lv_topi (fun y100 e101 => ?_)
        refine lv_ior hx hb dX9_readComparison_60 ?_
        refine lv_topi (fun y102 e103 => ?_)
        refine r_call_i (wr := [(reader, .inr (5, [.ref rtape, .int (nI rlength), .int (nI rmostBytes), .int (nI rplaceG_72), .int rkindG_73, .int (nI rbeginG_74), .int rwordG_75, .int rnumberG_76, .long rlettersG_77, .int rfaultKindG_78, .int rfaultPlaceG_79])), (rtape, .inl (ky 2, 940, .inl rtapeF))]) (va_runV (As := [.int y102]) (rest := []) ⟨hx, hb, hml, hown, hts⟩ (c_f_put9 l dC dI ky H.size se ccodes ccodeCount cones ccodesF y102 iv_cse_0 iv_cse_1 hc9) (cwV 1 hts gX9_readComparison_X9_put rfl rfl rfl (by decide +kernel) ⟨(Nat.le_of_ble_eq_true rfl), (Nat.le_of_ble_eq_true rfl)⟩) (pre_UV hK hP hD [0, 1] (by decide) rfl (ci := 9) (q0 := 0) rfl rfl) rfl rfl hl.1 rfl (lv_room (Nat.le_of_ble_eq_true rfl)) dX9_readComparison_61 ⟨(Nat.le_of_ble_eq_true rfl), (Nat.le_of_ble_eq_true rfl)⟩) hP hD hS hA [0, 1] [2, 3] rfl rfl (by decide) (by decide) (fun r106 u104 H locs p105 hP hD hS => ?_)
        obtain ⟨ccodeCountG_107, ccodesG_108⟩ := u104
        try dsimp only at p105
        obtain ⟨p109, p110, p111⟩ := p105
        refine W.widen (k := 0) (n := 0) (Nat.le_of_ble_eq_true rfl) (Nat.le_of_ble_eq_true rfl) ?_
        have hP : va_P (dC, dI) vwCl [(reader, .inr (5, [.ref rtape, .int (nI rlength), .int (nI rmostBytes), .int (nI rplaceG_72), .int rkindG_73, .int (nI rbeginG_74), .int rwordG_75, .int rnumberG_76, .long rlettersG_77, .int rfaultKindG_78, .int rfaultPlaceG_79])), (rtape, .inl (ky 2, 940, .inl rtapeF)), (se, .inr (9, [.ref ccodes, .int (nI ccodeCountG_107), .int (nI cones)])), (ccodes, .inl (ky 0, 40, .inl ccodesG_108))] H := hP
        have hD : va_D A [(reader, .inr (5, [.ref rtape, .int (nI rlength), .int (nI rmostBytes), .int (nI rplaceG_72), .int rkindG_73, .int (nI rbeginG_74), .int rwordG_75, .int rnumberG_76, .long rlettersG_77, .int rfaultKindG_78, .int rfaultPlaceG_79])), (rtape, .inl (ky 2, 940, .inl rtapeF)), (se, .inr (9, [.ref ccodes, .int (nI ccodeCountG_107), .int (nI cones)])), (ccodes, .inl (ky 0, 40, .inl ccodesG_108))] := hD
        subst p109
        refine lv_if_eq (tgt := 71) hx hb dX9_readComparison_64 (by decide) (fun c112 => absurd c112 (by decide)) (fun c112 => ?_)
        refine lv_iconst (v := nI 1) hx hb dX9_readComparison_67 (by decide) ?_
        refine lv_goto (tgt := 72) hx hb dX9_readComparison_68 (by decide) ?_
        rw [hQ]
        have hP9 := hP.sub (ws' := [(se, .inr (9, [.ref ccodes, .int (nI ccodeCountG_107), .int (nI cones)])), (ccodes, .inl (ky 0, 40, .inl ccodesG_108)), (reader, .inr (5, [.ref rtape, .int (nI rlength), .int (nI rmostBytes), .int (nI rplaceG_72), .int rkindG_73, .int (nI rbeginG_74), .int rwordG_75, .int rnumberG_76, .long rlettersG_77, .int rfaultKindG_78, .int rfaultPlaceG_79])), (rtape, .inl (ky 2, 940, .inl rtapeF))]) [2, 3, 0, 1] rfl
        have hD9 := hD.sub (ws' := [(se, .inr (9, [.ref ccodes, .int (nI ccodeCountG_107), .int (nI cones)])), (ccodes, .inl (ky 0, 40, .inl ccodesG_108)), (reader, .inr (5, [.ref rtape, .int (nI rlength), .int (nI rmostBytes), .int (nI rplaceG_72), .int rkindG_73, .int (nI rbeginG_74), .int rwordG_75, .int rnumberG_76, .long rlettersG_77, .int rfaultKindG_78, .int rfaultPlaceG_79])), (rtape, .inl (ky 2, 940, .inl rtapeF))]) [2, 3, 0, 1] (by decide) rfl
        exact W.zret (v := nI 1) hx hb hr (by decide) (fun t9 ht9 hW9 => ⟨⟨nI 1, (ccodeCountG_107, ccodesG_108, rplaceG_72, rkindG_73, rbeginG_74, rwordG_75, rnumberG_76, rlettersG_77, rfaultKindG_78, rfaultPlaceG_79), rfl, ⟨(lf_f_snCmp_10 ccodeCount bt rlength rmostBytes rplace rkind rbegin rword rnumber rletters rfaultKind rfaultPlace rtapeF gp x rplaceG_60 rkindG_61 rbeginG_62 rwordG_63 rnumberG_64 rlettersG_65 rplaceG_72 rkindG_73 rbeginG_74 rwordG_75 rnumberG_76 rlettersG_77 rfaultKindG_78 rfaultPlaceG_79 k83 y96 y98 y100 y102 ccodeCountG_107 iv_cse_0 iv_rreader_0 iv_rreader_1 iv_rreader_2 iv_rreader_3 hTC hRT hc9 c1 c57 p66 p67 p68 p81 p82 h85 h86 h87 h88 h89 h90 e97 e99 e101 e103 p110 p111), p110, p81, p82⟩, by rw [ht9]; exact hP9, va_K.moved hW9.alike hK, hD9⟩, hS.F ht9⟩) hS.2.2 dX9_readComparison_72
    · refine lv_iload_n hx hb dX9_readComparison_17 rfl (lv_at hl 0 rfl) ?_
      refine lv_bipush (v := nI 62) hx hb dX9_readComparison_18 (by decide) ?_
      refine lv_icmp_eq (tgt := 29) hx hb dX9_readComparison_20 (by decide) (fun c113 => ?_) (fun c113 => ?_)
      · refine lv_aload_n hx hb dX9_readComparison_29 rfl (lv_at hl 2 rfl) ?_
        refine r_call_v (wr := [(se, .inr (9, [.ref ccodes, .int (nI ccodeCount), .int (nI cones)])), (ccodes, .inl (ky 0, 40, .inl ccodesF))]) (va_runV (As := []) (rest := []) ⟨hx, hb, hml, hown, hts⟩ (c_f_adv l dC dI ky s.heap.size adK adV bt reader rtape rlength rmostBytes rplace rkind rbegin rword rnumber rletters rfaultKind rfaultPlace rtapeF (tT bt rlength rmostBytes gp) iv_rreader_0 iv_rreader_1 iv_rreader_2 iv_rreader_3 hTC hRT.2.2.1) (cwV 0 hts gX9_readComparison_X5_advance rfl rfl rfl (by decide +kernel) ⟨(Nat.le_of_ble_eq_true rfl), (Nat.le_of_ble_eq_true rfl)⟩) (pre_UEV hE hS hA hK hP hD [2, 3] (by decide) rfl (va_recv hK hP (ci := 5) (q0 := 2) rfl rfl)) rfl rfl hl.1 rfl (lv_room (Nat.le_of_ble_eq_true rfl)) dX9_readComparison_30 ⟨(Nat.le_of_ble_eq_true rfl), (Nat.le_of_ble_eq_true rfl)⟩) hP hD hS hA [2, 3] [0, 1] rfl rfl (by decide) (by decide) (fun  u114 H locs p115 hP hD hS => ?_)
        obtain ⟨rplaceG_116, rkindG_117, rbeginG_118, rwordG_119, rnumberG_120, rlettersG_121⟩ := u114
        try dsimp only at p115
        obtain ⟨p122, p123, p124⟩ := p115
        refine W.widen (k := 0) (n := 0) (Nat.le_of_ble_eq_true rfl) (Nat.le_of_ble_eq_true rfl) ?_
        have hP : va_P (dC, dI) vwCl [(se, .inr (9, [.ref ccodes, .int (nI ccodeCount), .int (nI cones)])), (ccodes, .inl (ky 0, 40, .inl ccodesF)), (reader, .inr (5, [.ref rtape, .int (nI rlength), .int (nI rmostBytes), .int (nI rplaceG_116), .int rkindG_117, .int (nI rbeginG_118), .int rwordG_119, .int rnumberG_120, .long rlettersG_121, .int rfaultKind, .int rfaultPlace])), (rtape, .inl (ky 2, 940, .inl rtapeF))] H := hP
        have hD : va_D A [(se, .inr (9, [.ref ccodes, .int (nI ccodeCount), .int (nI cones)])), (ccodes, .inl (ky 0, 40, .inl ccodesF)), (reader, .inr (5, [.ref rtape, .int (nI rlength), .int (nI rmostBytes), .int (nI rplaceG_116), .int rkindG_117, .int (nI rbeginG_118), .int rwordG_119, .int rnumberG_120, .long rlettersG_121, .int rfaultKind, .int rfaultPlace])), (rtape, .inl (ky 2, 940, .inl rtapeF))] := hD
        refine lv_aload_n hx hb dX9_readComparison_33 rfl (lv_at hl 2 rfl) ?_
        refine lv_iconst (v := nI 0) hx hb dX9_readComparison_34 (by decide) ?_
        refine lv_sipush (v := nI 999) hx hb dX9_readComparison_35 (by decide) ?_
        refine r_call_i (wr := [(se, .inr (9, [.ref ccodes, .int (nI ccodeCount), .int (nI cones)])), (ccodes, .inl (ky 0, 40, .inl ccodesF))]) (va_runV (As := [.int (nI 0), .int (nI 999)]) (rest := []) ⟨hx, hb, hml, hown, hts⟩ (c_f_takeNumber l dC dI ky H.size adK adV bt reader rtape rlength rmostBytes rplaceG_116 rkindG_117 rbeginG_118 rwordG_119 rnumberG_120 rlettersG_121 rfaultKind rfaultPlace rtapeF (tT bt rlength rmostBytes gp) 0 999 iv_rreader_0 p122 iv_rreader_2 p123 hTC (lf_f_snCmp_11) (lf_f_snCmp_12) p124) (cwV 2 hts gX9_readComparison_X5_takeNumber rfl rfl rfl (by decide +kernel) ⟨(Nat.le_of_ble_eq_true rfl), (Nat.le_of_ble_eq_true rfl)⟩) (pre_UEV hE hS hA hK hP hD [2, 3] (by decide) rfl (va_recv hK hP (ci := 5) (q0 := 2) rfl rfl)) rfl rfl hl.1 rfl (lv_room (Nat.le_of_ble_eq_true rfl)) dX9_readComparison_38 ⟨(Nat.le_of_ble_eq_true rfl), (Nat.le_of_ble_eq_true rfl)⟩) hP hD hS hA [2, 3] [0, 1] rfl rfl (by decide) (by decide) (fun r127 u125 H locs p126 hP hD hS => ?_)
        obtain ⟨rplaceG_128, rkindG_129, rbeginG_130, rwordG_131, rnumberG_132, rlettersG_133, rfaultKindG_134, rfaultPlaceG_135⟩ := u125
        try dsimp only at p126
        obtain ⟨p136, p137, p138⟩ := p126
        refine W.widen (k := 0) (n := 0) (Nat.le_of_ble_eq_true rfl) (Nat.le_of_ble_eq_true rfl) ?_
        have hP : va_P (dC, dI) vwCl [(se, .inr (9, [.ref ccodes, .int (nI ccodeCount), .int (nI cones)])), (ccodes, .inl (ky 0, 40, .inl ccodesF)), (reader, .inr (5, [.ref rtape, .int (nI rlength), .int (nI rmostBytes), .int (nI rplaceG_128), .int rkindG_129, .int (nI rbeginG_130), .int rwordG_131, .int rnumberG_132, .long rlettersG_133, .int rfaultKindG_134, .int rfaultPlaceG_135])), (rtape, .inl (ky 2, 940, .inl rtapeF))] H := hP
        have hD : va_D A [(se, .inr (9, [.ref ccodes, .int (nI ccodeCount), .int (nI cones)])), (ccodes, .inl (ky 0, 40, .inl ccodesF)), (reader, .inr (5, [.ref rtape, .int (nI rlength), .int (nI rmostBytes), .int (nI rplaceG_128), .int rkindG_129, .int (nI rbeginG_130), .int rwordG_131, .int rnumberG_132, .long rlettersG_133, .int rfaultKindG_134, .int rfaultPlaceG_135])), (rtape, .inl (ky 2, 940, .inl rtapeF))] := hD
        rcases p136 with ⟨rfl, t147, t148, t149⟩ | ⟨k139, ⟨h141, h142, h143, h144, h145, h146⟩, rfl⟩
        · refine lv_istore (lv' := [(4, .int (-1 : Int32)), (3, .int rkind), (0, .ref se), (1, .ref reader), (2, .int x)]) hx hb dX9_readComparison_41 hl (by decide) rfl (fun ls hl => ?_)
          refine lv_iload hx hb dX9_readComparison_43 (lv_at hl 0 rfl) ?_
          refine lv_iconst (v := (-1 : Int32)) hx hb dX9_readComparison_45 (by decide) ?_
          refine lv_icmp_eq (tgt := 71) hx hb dX9_readComparison_46 (by decide) (fun c150 => ?_) (fun c150 => absurd (by decide) c150)
          refine lv_iconst (v := nI 0) hx hb dX9_readComparison_71 (by decide) ?_
          rw [hQ]
          exact W.zret (v := nI 0) hx hb hr (by decide) (fun t9 ht9 hW9 => ⟨⟨nI 0, (ccodeCount, ccodesF, rplaceG_128, rkindG_129, rbeginG_130, rwordG_131, rnumberG_132, rlettersG_133, rfaultKindG_134, rfaultPlaceG_135), rfl, ⟨(lf_f_snCmp_13 ccodeCount bt rlength rmostBytes rplace rkind rbegin rword rnumber rletters rfaultKind rfaultPlace rtapeF gp rplaceG_116 rkindG_117 rbeginG_118 rwordG_119 rnumberG_120 rlettersG_121 rplaceG_128 rkindG_129 rbeginG_130 rwordG_131 rnumberG_132 rlettersG_133 rfaultKindG_134 rfaultPlaceG_135 iv_cse_0 iv_rreader_0 iv_rreader_1 iv_rreader_2 iv_rreader_3 hTC hRT hc9 c1 c57 c113 p122 p123 p124 p137 p138 t147 t148 t149), iv_cse_0, p137, p138⟩, by rw [ht9]; exact hP, va_K.moved hW9.alike hK, hD⟩, hS.F ht9⟩) hS.2.2 dX9_readComparison_72
        · refine lv_istore (lv' := [(4, .int (nI k139)), (3, .int rkind), (0, .ref se), (1, .ref reader), (2, .int x)]) hx hb dX9_readComparison_41 hl (by decide) rfl (fun ls hl => ?_)
          refine lv_iload hx hb dX9_readComparison_43 (lv_at hl 0 rfl) ?_
          refine lv_iconst (v := (-1 : Int32)) hx hb dX9_readComparison_45 (by decide) ?_
          refine lv_icmp_eq (tgt := 71) hx hb dX9_readComparison_46 (by decide) (fun c151 => absurd c151 (nI_neg (lf_f_snCmp_14 bt rlength rmostBytes rplace rkind rbegin rword rnumber rletters rtapeF gp rplaceG_116 rkindG_117 rbeginG_118 rwordG_119 rnumberG_120 rlettersG_121 rplaceG_128 rkindG_129 rbeginG_130 rwordG_131 rnumberG_132 rlettersG_133 k139 iv_rreader_0 iv_rreader_1 iv_rreader_2 iv_rreader_3 hTC hRT c1 c57 c113 p122 p123 p124 p137 p138 h141 h142 h143 h144))) (fun c151 => ?_)
          refine lv_aload_n hx hb dX9_readComparison_49 rfl (lv_at hl 2 rfl) ?_
          refine lv_iload_n hx hb dX9_readComparison_50 rfl (lv_at hl 4 rfl) ?_
          refine lv_iload_n hx hb dX9_readComparison_51 rfl (lv_at hl 1 rfl) ?_
          refine lv_iconst (v := nI 5) hx hb dX9_readComparison_52 (by decide) ?_
          refine lv_ishl hx hb dX9_readComparison_53 ?_
          refine lv_topi (fun y152 e153 => ?_)
          refine lv_ior hx hb dX9_readComparison_54 ?_
          refine lv_topi (fun y154 e155 => ?_)
          refine lv_iload hx hb dX9_readComparison_55 (lv_at hl 0 rfl) ?_
          refine lv_bipush (v := nI 12) hx hb dX9_readComparison_57 (by decide) ?_
          refine lv_ishl hx hb dX9_readComparison_59 ?_
          refine lv_topi (fun y156 e157 => ?_)
          refine lv_ior hx hb dX9_readComparison_60 ?_
          refine lv_topi (fun y158 e159 => ?_)
          refine r_call_i (wr := [(reader, .inr (5, [.ref rtape, .int (nI rlength), .int (nI rmostBytes), .int (nI rplaceG_128), .int rkindG_129, .int (nI rbeginG_130), .int rwordG_131, .int rnumberG_132, .long rlettersG_133, .int rfaultKindG_134, .int rfaultPlaceG_135])), (rtape, .inl (ky 2, 940, .inl rtapeF))]) (va_runV (As := [.int y158]) (rest := []) ⟨hx, hb, hml, hown, hts⟩ (c_f_put9 l dC dI ky H.size se ccodes ccodeCount cones ccodesF y158 iv_cse_0 iv_cse_1 hc9) (cwV 1 hts gX9_readComparison_X9_put rfl rfl rfl (by decide +kernel) ⟨(Nat.le_of_ble_eq_true rfl), (Nat.le_of_ble_eq_true rfl)⟩) (pre_UV hK hP hD [0, 1] (by decide) rfl (ci := 9) (q0 := 0) rfl rfl) rfl rfl hl.1 rfl (lv_room (Nat.le_of_ble_eq_true rfl)) dX9_readComparison_61 ⟨(Nat.le_of_ble_eq_true rfl), (Nat.le_of_ble_eq_true rfl)⟩) hP hD hS hA [0, 1] [2, 3] rfl rfl (by decide) (by decide) (fun r162 u160 H locs p161 hP hD hS => ?_)
          obtain ⟨ccodeCountG_163, ccodesG_164⟩ := u160
          try dsimp only at p161
          obtain ⟨p165, p166, p167⟩ := p161
          refine W.widen (k := 0) (n := 0) (Nat.le_of_ble_eq_true rfl) (Nat.le_of_ble_eq_true rfl) ?_
          have hP : va_P (dC, dI) vwCl [(reader, .inr (5, [.ref rtape, .int (nI rlength), .int (nI rmostBytes), .int (nI rplaceG_128), .int rkindG_129, .int (nI rbeginG_130), .int rwordG_131, .int rnumberG_132, .long rlettersG_133, .int rfaultKindG_134, .int rfaultPlaceG_135])), (rtape, .inl (ky 2, 940, .inl rtapeF)), (se, .inr (9, [.ref ccodes, .int (nI ccodeCountG_163), .int (nI cones)])), (ccodes, .inl (ky 0, 40, .inl ccodesG_164))] H := hP
          have hD : va_D A [(reader, .inr (5, [.ref rtape, .int (nI rlength), .int (nI rmostBytes), .int (nI rplaceG_128), .int rkindG_129, .int (nI rbeginG_130), .int rwordG_131, .int rnumberG_132, .long rlettersG_133, .int rfaultKindG_134, .int rfaultPlaceG_135])), (rtape, .inl (ky 2, 940, .inl rtapeF)), (se, .inr (9, [.ref ccodes, .int (nI ccodeCountG_163), .int (nI cones)])), (ccodes, .inl (ky 0, 40, .inl ccodesG_164))] := hD
          subst p165
          refine lv_if_eq (tgt := 71) hx hb dX9_readComparison_64 (by decide) (fun c168 => absurd c168 (by decide)) (fun c168 => ?_)
          refine lv_iconst (v := nI 1) hx hb dX9_readComparison_67 (by decide) ?_
          refine lv_goto (tgt := 72) hx hb dX9_readComparison_68 (by decide) ?_
          rw [hQ]
          have hP9 := hP.sub (ws' := [(se, .inr (9, [.ref ccodes, .int (nI ccodeCountG_163), .int (nI cones)])), (ccodes, .inl (ky 0, 40, .inl ccodesG_164)), (reader, .inr (5, [.ref rtape, .int (nI rlength), .int (nI rmostBytes), .int (nI rplaceG_128), .int rkindG_129, .int (nI rbeginG_130), .int rwordG_131, .int rnumberG_132, .long rlettersG_133, .int rfaultKindG_134, .int rfaultPlaceG_135])), (rtape, .inl (ky 2, 940, .inl rtapeF))]) [2, 3, 0, 1] rfl
          have hD9 := hD.sub (ws' := [(se, .inr (9, [.ref ccodes, .int (nI ccodeCountG_163), .int (nI cones)])), (ccodes, .inl (ky 0, 40, .inl ccodesG_164)), (reader, .inr (5, [.ref rtape, .int (nI rlength), .int (nI rmostBytes), .int (nI rplaceG_128), .int rkindG_129, .int (nI rbeginG_130), .int rwordG_131, .int rnumberG_132, .long rlettersG_133, .int rfaultKindG_134, .int rfaultPlaceG_135])), (rtape, .inl (ky 2, 940, .inl rtapeF))]) [2, 3, 0, 1] (by decide) rfl
          exact W.zret (v := nI 1) hx hb hr (by decide) (fun t9 ht9 hW9 => ⟨⟨nI 1, (ccodeCountG_163, ccodesG_164, rplaceG_128, rkindG_129, rbeginG_130, rwordG_131, rnumberG_132, rlettersG_133, rfaultKindG_134, rfaultPlaceG_135), rfl, ⟨(lf_f_snCmp_15 ccodeCount bt rlength rmostBytes rplace rkind rbegin rword rnumber rletters rfaultKind rfaultPlace rtapeF gp x rplaceG_116 rkindG_117 rbeginG_118 rwordG_119 rnumberG_120 rlettersG_121 rplaceG_128 rkindG_129 rbeginG_130 rwordG_131 rnumberG_132 rlettersG_133 rfaultKindG_134 rfaultPlaceG_135 k139 y152 y154 y156 y158 ccodeCountG_163 iv_cse_0 iv_rreader_0 iv_rreader_1 iv_rreader_2 iv_rreader_3 hTC hRT hc9 c1 c57 c113 p122 p123 p124 p137 p138 h141 h142 h143 h144 h145 h146 e153 e155 e157 e159 p166 p167), p166, p137, p138⟩, by rw [ht9]; exact hP9, va_K.moved hW9.alike hK, hD9⟩, hS.F ht9⟩) hS.2.2 dX9_readComparison_72
      · refine lv_aload_n hx hb dX9_readComparison_23 rfl (lv_at hl 2 rfl) ?_
        refine lv_iconst (v := nI 1) hx hb dX9_readComparison_24 (by decide) ?_
        refine r_call_i (wr := [(se, .inr (9, [.ref ccodes, .int (nI ccodeCount), .int (nI cones)])), (ccodes, .inl (ky 0, 40, .inl ccodesF)), (rtape, .inl (ky 2, 940, .inl rtapeF))]) (va_runV (As := [.int (nI 1)]) (rest := []) ⟨hx, hb, hml, hown, hts⟩ (c_f_refuse l dC dI ky s.heap.size reader rtape rlength rmostBytes rplace rkind rbegin rword rnumber rletters rfaultKind rfaultPlace (nI 1) iv_rreader_0 iv_rreader_1 iv_rreader_2 iv_rreader_3) (cwV 1 hts gX9_readComparison_X5_refuse rfl rfl rfl (by decide +kernel) ⟨(Nat.le_of_ble_eq_true rfl), (Nat.le_of_ble_eq_true rfl)⟩) (pre_UV hK hP hD [2] (by decide) rfl (ci := 5) (q0 := 2) rfl rfl) rfl rfl hl.1 rfl (lv_room (Nat.le_of_ble_eq_true rfl)) dX9_readComparison_25 ⟨(Nat.le_of_ble_eq_true rfl), (Nat.le_of_ble_eq_true rfl)⟩) hP hD hS hA [2] [0, 1, 3] rfl rfl (by decide) (by decide) (fun r171 u169 H locs p170 hP hD hS => ?_)
        obtain ⟨rfaultKindG_172, rfaultPlaceG_173⟩ := u169
        try dsimp only at p170
        obtain ⟨p174, p175, p176⟩ := p170
        refine W.widen (k := 0) (n := 0) (Nat.le_of_ble_eq_true rfl) (Nat.le_of_ble_eq_true rfl) ?_
        have hP : va_P (dC, dI) vwCl [(se, .inr (9, [.ref ccodes, .int (nI ccodeCount), .int (nI cones)])), (ccodes, .inl (ky 0, 40, .inl ccodesF)), (rtape, .inl (ky 2, 940, .inl rtapeF)), (reader, .inr (5, [.ref rtape, .int (nI rlength), .int (nI rmostBytes), .int (nI rplace), .int rkind, .int (nI rbegin), .int rword, .int rnumber, .long rletters, .int rfaultKindG_172, .int rfaultPlaceG_173]))] H := hP
        have hD : va_D A [(se, .inr (9, [.ref ccodes, .int (nI ccodeCount), .int (nI cones)])), (ccodes, .inl (ky 0, 40, .inl ccodesF)), (rtape, .inl (ky 2, 940, .inl rtapeF)), (reader, .inr (5, [.ref rtape, .int (nI rlength), .int (nI rmostBytes), .int (nI rplace), .int rkind, .int (nI rbegin), .int rword, .int rnumber, .long rletters, .int rfaultKindG_172, .int rfaultPlaceG_173]))] := hD
        subst p174
        rw [hQ]
        have hP9 := hP.sub (ws' := [(se, .inr (9, [.ref ccodes, .int (nI ccodeCount), .int (nI cones)])), (ccodes, .inl (ky 0, 40, .inl ccodesF)), (reader, .inr (5, [.ref rtape, .int (nI rlength), .int (nI rmostBytes), .int (nI rplace), .int rkind, .int (nI rbegin), .int rword, .int rnumber, .long rletters, .int rfaultKindG_172, .int rfaultPlaceG_173])), (rtape, .inl (ky 2, 940, .inl rtapeF))]) [0, 1, 3, 2] rfl
        have hD9 := hD.sub (ws' := [(se, .inr (9, [.ref ccodes, .int (nI ccodeCount), .int (nI cones)])), (ccodes, .inl (ky 0, 40, .inl ccodesF)), (reader, .inr (5, [.ref rtape, .int (nI rlength), .int (nI rmostBytes), .int (nI rplace), .int rkind, .int (nI rbegin), .int rword, .int rnumber, .long rletters, .int rfaultKindG_172, .int rfaultPlaceG_173])), (rtape, .inl (ky 2, 940, .inl rtapeF))]) [0, 1, 3, 2] (by decide) rfl
        exact W.zret (v := nI 0) hx hb hr (by decide) (fun t9 ht9 hW9 => ⟨⟨nI 0, (ccodeCount, ccodesF, rplace, rkind, rbegin, rword, rnumber, rletters, rfaultKindG_172, rfaultPlaceG_173), rfl, ⟨(lf_f_snCmp_16 ccodeCount bt rlength rmostBytes rplace rkind rbegin rword rnumber rletters rfaultKind rfaultPlace rtapeF gp rfaultKindG_172 rfaultPlaceG_173 iv_cse_0 iv_rreader_0 iv_rreader_1 iv_rreader_2 iv_rreader_3 hTC hRT hc9 c1 c57 c113 p175 p176), iv_cse_0, iv_rreader_1, iv_rreader_3⟩, by rw [ht9]; exact hP9, va_K.moved hW9.alike hK, hD9⟩, hS.F ht9⟩) hS.2.2 dX9_readComparison_28
